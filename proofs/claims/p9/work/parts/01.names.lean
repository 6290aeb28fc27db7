/-- a private method of a class that the tables say can be made, by its rows of tables_1 -/
def lw_okq (q : MethodName × Nat) : Prop := (q.1.cls ≠ "java/lang/invoke/MethodHandle" ∧ q.1.cls ≠ "java/lang/invoke/VarHandle") ∧ Cond.instantiable q.1.cls q.2 ∈ tables_1 ∧ Cond.privateMethod q.1 ∈ tables_1 ∧ Cond.instanceMethod q.1 ∈ tables_1
theorem t1_1 {w : Cond} (h : w ∈ tables_1_1) : w ∈ tables_1 := List.mem_append_left _ h
theorem t1_2 {w : Cond} (h : w ∈ tables_1_2) : w ∈ tables_1 := List.mem_append_right _ (List.mem_append_left _ h)
theorem t1_3 {w : Cond} (h : w ∈ tables_1_3) : w ∈ tables_1 := List.mem_append_right _ (List.mem_append_right _ (List.mem_append_left _ h))
theorem t1_4 {w : Cond} (h : w ∈ tables_1_4) : w ∈ tables_1 := List.mem_append_right _ (List.mem_append_right _ (List.mem_append_right _ (List.mem_append_left _ h)))
theorem t1_5 {w : Cond} (h : w ∈ tables_1_5) : w ∈ tables_1 := List.mem_append_right _ (List.mem_append_right _ (List.mem_append_right _ (List.mem_append_right _ (List.mem_append_left _ h))))
theorem t1_6 {w : Cond} (h : w ∈ tables_1_6) : w ∈ tables_1 := List.mem_append_right _ (List.mem_append_right _ (List.mem_append_right _ (List.mem_append_right _ (List.mem_append_right _ (List.mem_append_left _ h)))))
theorem t1_7 {w : Cond} (h : w ∈ tables_1_7) : w ∈ tables_1 := List.mem_append_right _ (List.mem_append_right _ (List.mem_append_right _ (List.mem_append_right _ (List.mem_append_right _ (List.mem_append_right _ (List.mem_append_left _ h))))))
theorem t1_8 {w : Cond} (h : w ∈ tables_1_8) : w ∈ tables_1 := List.mem_append_right _ (List.mem_append_right _ (List.mem_append_right _ (List.mem_append_right _ (List.mem_append_right _ (List.mem_append_right _ (List.mem_append_right _ (List.mem_append_left _ h)))))))
theorem t1_9 {w : Cond} (h : w ∈ tables_1_9) : w ∈ tables_1 := List.mem_append_right _ (List.mem_append_right _ (List.mem_append_right _ (List.mem_append_right _ (List.mem_append_right _ (List.mem_append_right _ (List.mem_append_right _ (List.mem_append_right _ (List.mem_append_left _ h))))))))
theorem t1_10 {w : Cond} (h : w ∈ tables_1_10) : w ∈ tables_1 := List.mem_append_right _ (List.mem_append_right _ (List.mem_append_right _ (List.mem_append_right _ (List.mem_append_right _ (List.mem_append_right _ (List.mem_append_right _ (List.mem_append_right _ (List.mem_append_right _ (List.mem_append_left _ h)))))))))
theorem t1_11 {w : Cond} (h : w ∈ tables_1_11) : w ∈ tables_1 := List.mem_append_right _ (List.mem_append_right _ (List.mem_append_right _ (List.mem_append_right _ (List.mem_append_right _ (List.mem_append_right _ (List.mem_append_right _ (List.mem_append_right _ (List.mem_append_right _ (List.mem_append_right _ (h))))))))))
theorem lw_p0 : lw_okq (⟨"ShareHouse$Asked", "holds", "(JJ)Z"⟩, 21) := ⟨⟨by decide +kernel, by decide +kernel⟩, t1_4 (List.mem_of_getElem? (i := 169) rfl), t1_5 (List.mem_of_getElem? (i := 57) rfl), t1_5 (List.mem_of_getElem? (i := 58) rfl)⟩
theorem lw_p1 : lw_okq (⟨"ShareHouse$Wish", "isName", "(II)Z"⟩, 13) := ⟨⟨by decide +kernel, by decide +kernel⟩, t1_5 (List.mem_of_getElem? (i := 90) rfl), t1_5 (List.mem_of_getElem? (i := 167) rfl), t1_5 (List.mem_of_getElem? (i := 168) rfl)⟩
theorem lw_p2 : lw_okq (⟨"ShareHouse", "tapeIsShareName", "()Z"⟩, 18) := ⟨⟨by decide +kernel, by decide +kernel⟩, t1_1 (List.mem_of_getElem? (i := 28) rfl), t1_2 (List.mem_of_getElem? (i := 181) rfl), t1_2 (List.mem_of_getElem? (i := 182) rfl)⟩
theorem lw_p3 : lw_okq (⟨"ShareHouse", "rootNamed", "(LShareHouse$Row;III)LShareHouse$Node;"⟩, 18) := ⟨⟨by decide +kernel, by decide +kernel⟩, t1_1 (List.mem_of_getElem? (i := 28) rfl), t1_2 (List.mem_of_getElem? (i := 192) rfl), t1_2 (List.mem_of_getElem? (i := 193) rfl)⟩
theorem lw_p4 : lw_okq (⟨"ShareHouse", "makeRoot", "()I"⟩, 18) := ⟨⟨by decide +kernel, by decide +kernel⟩, t1_1 (List.mem_of_getElem? (i := 28) rfl), t1_2 (List.mem_of_getElem? (i := 203) rfl), t1_2 (List.mem_of_getElem? (i := 204) rfl)⟩
theorem lw_p5 : lw_okq (⟨"ShareHouse", "connection", "(I)LShareHouse$Conn;"⟩, 18) := ⟨⟨by decide +kernel, by decide +kernel⟩, t1_1 (List.mem_of_getElem? (i := 28) rfl), t1_3 (List.mem_of_getElem? (i := 9) rfl), t1_3 (List.mem_of_getElem? (i := 10) rfl)⟩
theorem lw_p6 : lw_okq (⟨"ShareHouse", "shutOff", "(LShareHouse$Conn;)V"⟩, 18) := ⟨⟨by decide +kernel, by decide +kernel⟩, t1_1 (List.mem_of_getElem? (i := 28) rfl), t1_3 (List.mem_of_getElem? (i := 21) rfl), t1_3 (List.mem_of_getElem? (i := 22) rfl)⟩
theorem lw_p7 : lw_okq (⟨"ShareHouse", "settle", "()V"⟩, 18) := ⟨⟨by decide +kernel, by decide +kernel⟩, t1_1 (List.mem_of_getElem? (i := 28) rfl), t1_3 (List.mem_of_getElem? (i := 58) rfl), t1_3 (List.mem_of_getElem? (i := 59) rfl)⟩
theorem lw_p8 : lw_okq (⟨"ShareHouse", "beginMessage", "(LShareHouse$Conn;)V"⟩, 18) := ⟨⟨by decide +kernel, by decide +kernel⟩, t1_1 (List.mem_of_getElem? (i := 28) rfl), t1_4 (List.mem_of_getElem? (i := 162) rfl), t1_4 (List.mem_of_getElem? (i := 163) rfl)⟩
theorem lw_p9 : lw_okq (⟨"ShareHouse", "request", "(LShareHouse$Conn;)Z"⟩, 18) := ⟨⟨by decide +kernel, by decide +kernel⟩, t1_1 (List.mem_of_getElem? (i := 28) rfl), t1_4 (List.mem_of_getElem? (i := 166) rfl), t1_4 (List.mem_of_getElem? (i := 167) rfl)⟩
theorem lw_p10 : lw_okq (⟨"ShareHouse", "endBreak", "(LShareHouse$Open;I)V"⟩, 18) := ⟨⟨by decide +kernel, by decide +kernel⟩, t1_1 (List.mem_of_getElem? (i := 28) rfl), t1_7 (List.mem_of_getElem? (i := 3) rfl), t1_7 (List.mem_of_getElem? (i := 4) rfl)⟩
theorem lw_p11 : lw_okq (⟨"ShareHouse", "comeToDisk", "()V"⟩, 18) := ⟨⟨by decide +kernel, by decide +kernel⟩, t1_1 (List.mem_of_getElem? (i := 28) rfl), t1_2 (List.mem_of_getElem? (i := 207) rfl), t1_2 (List.mem_of_getElem? (i := 208) rfl)⟩
theorem lw_p12 : lw_okq (⟨"ShareHouse", "nextChange", "(ILShareHouse$Node;)LShareHouse$Change;"⟩, 18) := ⟨⟨by decide +kernel, by decide +kernel⟩, t1_1 (List.mem_of_getElem? (i := 28) rfl), t1_2 (List.mem_of_getElem? (i := 231) rfl), t1_2 (List.mem_of_getElem? (i := 232) rfl)⟩
theorem lw_p13 : lw_okq (⟨"ShareHouse", "look", "(LShareHouse$Asked;)I"⟩, 18) := ⟨⟨by decide +kernel, by decide +kernel⟩, t1_1 (List.mem_of_getElem? (i := 28) rfl), t1_5 (List.mem_of_getElem? (i := 33) rfl), t1_5 (List.mem_of_getElem? (i := 34) rfl)⟩
theorem lw_p14 : lw_okq (⟨"ShareHouse", "prepare", "(LShareHouse$Asked;)I"⟩, 18) := ⟨⟨by decide +kernel, by decide +kernel⟩, t1_1 (List.mem_of_getElem? (i := 28) rfl), t1_5 (List.mem_of_getElem? (i := 71) rfl), t1_5 (List.mem_of_getElem? (i := 72) rfl)⟩
theorem lw_p15 : lw_okq (⟨"ShareHouse", "performOnFile", "(LShareHouse$Asked;LShareHouse$Open;)I"⟩, 18) := ⟨⟨by decide +kernel, by decide +kernel⟩, t1_1 (List.mem_of_getElem? (i := 28) rfl), t1_6 (List.mem_of_getElem? (i := 15) rfl), t1_6 (List.mem_of_getElem? (i := 16) rfl)⟩
theorem lw_p16 : lw_okq (⟨"ShareHouse", "openOrWait", "(LShareHouse$Asked;)I"⟩, 18) := ⟨⟨by decide +kernel, by decide +kernel⟩, t1_1 (List.mem_of_getElem? (i := 28) rfl), t1_7 (List.mem_of_getElem? (i := 7) rfl), t1_7 (List.mem_of_getElem? (i := 8) rfl)⟩
theorem lw_p17 : lw_okq (⟨"ShareHouse", "perform", "(LShareHouse$Asked;)I"⟩, 18) := ⟨⟨by decide +kernel, by decide +kernel⟩, t1_1 (List.mem_of_getElem? (i := 28) rfl), t1_7 (List.mem_of_getElem? (i := 11) rfl), t1_7 (List.mem_of_getElem? (i := 12) rfl)⟩
theorem lw_p18 : lw_okq (⟨"ShareHouse", "finish", "(LShareHouse$Asked;I)V"⟩, 18) := ⟨⟨by decide +kernel, by decide +kernel⟩, t1_1 (List.mem_of_getElem? (i := 28) rfl), t1_7 (List.mem_of_getElem? (i := 90) rfl), t1_7 (List.mem_of_getElem? (i := 91) rfl)⟩
theorem lw_p19 : lw_okq (⟨"ShareHouse", "seal", "(LShareHouse$Row;LShareHouse$Asked;II)V"⟩, 18) := ⟨⟨by decide +kernel, by decide +kernel⟩, t1_1 (List.mem_of_getElem? (i := 28) rfl), t1_3 (List.mem_of_getElem? (i := 148) rfl), t1_3 (List.mem_of_getElem? (i := 149) rfl)⟩
theorem lw_p20 : lw_okq (⟨"ShareHouse", "sessionOf", "(LShareHouse$Asked;)LShareHouse$Session;"⟩, 18) := ⟨⟨by decide +kernel, by decide +kernel⟩, t1_1 (List.mem_of_getElem? (i := 28) rfl), t1_5 (List.mem_of_getElem? (i := 37) rfl), t1_5 (List.mem_of_getElem? (i := 38) rfl)⟩
theorem lw_p21 : lw_okq (⟨"ShareHouse", "treeOf", "(LShareHouse$Asked;)LShareHouse$TreeLink;"⟩, 18) := ⟨⟨by decide +kernel, by decide +kernel⟩, t1_1 (List.mem_of_getElem? (i := 28) rfl), t1_5 (List.mem_of_getElem? (i := 42) rfl), t1_5 (List.mem_of_getElem? (i := 43) rfl)⟩
theorem lw_p22 : lw_okq (⟨"ShareHouse", "lookAtFile", "(LShareHouse$Asked;I)I"⟩, 18) := ⟨⟨by decide +kernel, by decide +kernel⟩, t1_1 (List.mem_of_getElem? (i := 28) rfl), t1_5 (List.mem_of_getElem? (i := 62) rfl), t1_5 (List.mem_of_getElem? (i := 63) rfl)⟩
theorem lw_p23 : lw_okq (⟨"ShareHouse", "endFormer", "(LShareHouse$Asked;)I"⟩, 18) := ⟨⟨by decide +kernel, by decide +kernel⟩, t1_1 (List.mem_of_getElem? (i := 28) rfl), t1_5 (List.mem_of_getElem? (i := 75) rfl), t1_5 (List.mem_of_getElem? (i := 76) rfl)⟩
theorem lw_p24 : lw_okq (⟨"ShareHouse", "readWish", "(LShareHouse$Asked;)I"⟩, 18) := ⟨⟨by decide +kernel, by decide +kernel⟩, t1_1 (List.mem_of_getElem? (i := 28) rfl), t1_5 (List.mem_of_getElem? (i := 84) rfl), t1_5 (List.mem_of_getElem? (i := 85) rfl)⟩
theorem lw_p25 : lw_okq (⟨"ShareHouse", "negotiate", "(LShareHouse$Asked;)I"⟩, 18) := ⟨⟨by decide +kernel, by decide +kernel⟩, t1_1 (List.mem_of_getElem? (i := 28) rfl), t1_7 (List.mem_of_getElem? (i := 15) rfl), t1_7 (List.mem_of_getElem? (i := 16) rfl)⟩
theorem lw_p26 : lw_okq (⟨"ShareHouse", "setUp", "(LShareHouse$Asked;)I"⟩, 18) := ⟨⟨by decide +kernel, by decide +kernel⟩, t1_1 (List.mem_of_getElem? (i := 28) rfl), t1_7 (List.mem_of_getElem? (i := 22) rfl), t1_7 (List.mem_of_getElem? (i := 23) rfl)⟩
theorem lw_p27 : lw_okq (⟨"ShareHouse", "logOff", "(LShareHouse$Asked;)I"⟩, 18) := ⟨⟨by decide +kernel, by decide +kernel⟩, t1_1 (List.mem_of_getElem? (i := 28) rfl), t1_7 (List.mem_of_getElem? (i := 51) rfl), t1_7 (List.mem_of_getElem? (i := 52) rfl)⟩
theorem lw_p28 : lw_okq (⟨"ShareHouse", "connectTree", "(LShareHouse$Asked;)I"⟩, 18) := ⟨⟨by decide +kernel, by decide +kernel⟩, t1_1 (List.mem_of_getElem? (i := 28) rfl), t1_7 (List.mem_of_getElem? (i := 55) rfl), t1_7 (List.mem_of_getElem? (i := 56) rfl)⟩
theorem lw_p29 : lw_okq (⟨"ShareHouse", "disconnectTree", "(LShareHouse$Asked;)I"⟩, 18) := ⟨⟨by decide +kernel, by decide +kernel⟩, t1_1 (List.mem_of_getElem? (i := 28) rfl), t1_7 (List.mem_of_getElem? (i := 82) rfl), t1_7 (List.mem_of_getElem? (i := 83) rfl)⟩
theorem lw_p30 : lw_okq (⟨"ShareHouse", "plainAnswer", "()I"⟩, 18) := ⟨⟨by decide +kernel, by decide +kernel⟩, t1_1 (List.mem_of_getElem? (i := 28) rfl), t1_6 (List.mem_of_getElem? (i := 28) rfl), t1_6 (List.mem_of_getElem? (i := 29) rfl)⟩
theorem lw_p31 : lw_okq (⟨"ShareHouse", "cancel", "(LShareHouse$Asked;)I"⟩, 18) := ⟨⟨by decide +kernel, by decide +kernel⟩, t1_1 (List.mem_of_getElem? (i := 28) rfl), t1_7 (List.mem_of_getElem? (i := 86) rfl), t1_7 (List.mem_of_getElem? (i := 87) rfl)⟩
theorem lw_p32 : lw_okq (⟨"ShareHouse", "close", "(LShareHouse$Asked;LShareHouse$Open;)I"⟩, 18) := ⟨⟨by decide +kernel, by decide +kernel⟩, t1_1 (List.mem_of_getElem? (i := 28) rfl), t1_6 (List.mem_of_getElem? (i := 19) rfl), t1_6 (List.mem_of_getElem? (i := 20) rfl)⟩
theorem lw_p33 : lw_okq (⟨"ShareHouse", "flush", "(LShareHouse$Open;)I"⟩, 18) := ⟨⟨by decide +kernel, by decide +kernel⟩, t1_1 (List.mem_of_getElem? (i := 28) rfl), t1_6 (List.mem_of_getElem? (i := 24) rfl), t1_6 (List.mem_of_getElem? (i := 25) rfl)⟩
theorem lw_p34 : lw_okq (⟨"ShareHouse", "read", "(LShareHouse$Asked;LShareHouse$Open;)I"⟩, 18) := ⟨⟨by decide +kernel, by decide +kernel⟩, t1_1 (List.mem_of_getElem? (i := 28) rfl), t1_6 (List.mem_of_getElem? (i := 32) rfl), t1_6 (List.mem_of_getElem? (i := 33) rfl)⟩
theorem lw_p35 : lw_okq (⟨"ShareHouse", "write", "(LShareHouse$Asked;LShareHouse$Open;)I"⟩, 18) := ⟨⟨by decide +kernel, by decide +kernel⟩, t1_1 (List.mem_of_getElem? (i := 28) rfl), t1_6 (List.mem_of_getElem? (i := 52) rfl), t1_6 (List.mem_of_getElem? (i := 53) rfl)⟩
theorem lw_p36 : lw_okq (⟨"ShareHouse", "lock", "(LShareHouse$Asked;LShareHouse$Open;)I"⟩, 18) := ⟨⟨by decide +kernel, by decide +kernel⟩, t1_1 (List.mem_of_getElem? (i := 28) rfl), t1_6 (List.mem_of_getElem? (i := 69) rfl), t1_6 (List.mem_of_getElem? (i := 70) rfl)⟩
theorem lw_p37 : lw_okq (⟨"ShareHouse", "queryDirectory", "(LShareHouse$Asked;LShareHouse$Open;)I"⟩, 18) := ⟨⟨by decide +kernel, by decide +kernel⟩, t1_1 (List.mem_of_getElem? (i := 28) rfl), t1_6 (List.mem_of_getElem? (i := 130) rfl), t1_6 (List.mem_of_getElem? (i := 131) rfl)⟩
theorem lw_p38 : lw_okq (⟨"ShareHouse", "queryInfo", "(LShareHouse$Asked;LShareHouse$Open;)I"⟩, 18) := ⟨⟨by decide +kernel, by decide +kernel⟩, t1_1 (List.mem_of_getElem? (i := 28) rfl), t1_6 (List.mem_of_getElem? (i := 186) rfl), t1_6 (List.mem_of_getElem? (i := 187) rfl)⟩
theorem lw_p39 : lw_okq (⟨"ShareHouse", "setInfo", "(LShareHouse$Asked;LShareHouse$Open;)I"⟩, 18) := ⟨⟨by decide +kernel, by decide +kernel⟩, t1_1 (List.mem_of_getElem? (i := 28) rfl), t1_6 (List.mem_of_getElem? (i := 198) rfl), t1_6 (List.mem_of_getElem? (i := 199) rfl)⟩
theorem lw_p40 : lw_okq (⟨"ShareHouse", "answerBreak", "(LShareHouse$Asked;LShareHouse$Open;)I"⟩, 18) := ⟨⟨by decide +kernel, by decide +kernel⟩, t1_1 (List.mem_of_getElem? (i := 28) rfl), t1_6 (List.mem_of_getElem? (i := 238) rfl), t1_6 (List.mem_of_getElem? (i := 239) rfl)⟩
theorem lw_p41 : lw_okq (⟨"ShareHouse", "nextSerial", "(I)J"⟩, 18) := ⟨⟨by decide +kernel, by decide +kernel⟩, t1_1 (List.mem_of_getElem? (i := 28) rfl), t1_4 (List.mem_of_getElem? (i := 11) rfl), t1_4 (List.mem_of_getElem? (i := 12) rfl)⟩
theorem lw_p42 : lw_okq (⟨"ShareHouse", "sendLater", "(LShareHouse$Asked;I)V"⟩, 18) := ⟨⟨by decide +kernel, by decide +kernel⟩, t1_1 (List.mem_of_getElem? (i := 28) rfl), t1_3 (List.mem_of_getElem? (i := 144) rfl), t1_3 (List.mem_of_getElem? (i := 145) rfl)⟩
theorem lw_p43 : lw_okq (⟨"ShareHouse", "giveUp", "(LShareHouse$Conn;LShareHouse$Session;LShareHouse$TreeLink;)V"⟩, 18) := ⟨⟨by decide +kernel, by decide +kernel⟩, t1_1 (List.mem_of_getElem? (i := 28) rfl), t1_3 (List.mem_of_getElem? (i := 25) rfl), t1_3 (List.mem_of_getElem? (i := 26) rfl)⟩
theorem lw_p44 : lw_okq (⟨"ShareHouse", "wakeLocks", "()V"⟩, 18) := ⟨⟨by decide +kernel, by decide +kernel⟩, t1_1 (List.mem_of_getElem? (i := 28) rfl), t1_3 (List.mem_of_getElem? (i := 63) rfl), t1_3 (List.mem_of_getElem? (i := 64) rfl)⟩
theorem lw_p45 : lw_okq (⟨"ShareHouse", "nextAgain", "()LShareHouse$Asked;"⟩, 18) := ⟨⟨by decide +kernel, by decide +kernel⟩, t1_1 (List.mem_of_getElem? (i := 28) rfl), t1_3 (List.mem_of_getElem? (i := 166) rfl), t1_3 (List.mem_of_getElem? (i := 167) rfl)⟩
theorem lw_p46 : lw_okq (⟨"ShareHouse", "nextClosing", "()LShareHouse$Open;"⟩, 18) := ⟨⟨by decide +kernel, by decide +kernel⟩, t1_1 (List.mem_of_getElem? (i := 28) rfl), t1_3 (List.mem_of_getElem? (i := 170) rfl), t1_3 (List.mem_of_getElem? (i := 171) rfl)⟩
theorem lw_p47 : lw_okq (⟨"ShareHouse", "tryOpen", "(LShareHouse$Asked;LShareHouse$Row;)I"⟩, 18) := ⟨⟨by decide +kernel, by decide +kernel⟩, t1_1 (List.mem_of_getElem? (i := 28) rfl), t1_3 (List.mem_of_getElem? (i := 188) rfl), t1_3 (List.mem_of_getElem? (i := 189) rfl)⟩
theorem lw_p48 : lw_okq (⟨"ShareHouse", "stopWaiting", "(LShareHouse$Asked;)V"⟩, 18) := ⟨⟨by decide +kernel, by decide +kernel⟩, t1_1 (List.mem_of_getElem? (i := 28) rfl), t1_4 (List.mem_of_getElem? (i := 128) rfl), t1_4 (List.mem_of_getElem? (i := 129) rfl)⟩
theorem lw_p49 : lw_okq (⟨"ShareHouse", "closeOpen", "(LShareHouse$Open;)V"⟩, 18) := ⟨⟨by decide +kernel, by decide +kernel⟩, t1_1 (List.mem_of_getElem? (i := 28) rfl), t1_4 (List.mem_of_getElem? (i := 132) rfl), t1_4 (List.mem_of_getElem? (i := 133) rfl)⟩
theorem lw_p50 : lw_okq (⟨"ShareHouse", "canBe", "(LShareHouse$Lock;)Z"⟩, 18) := ⟨⟨by decide +kernel, by decide +kernel⟩, t1_1 (List.mem_of_getElem? (i := 28) rfl), t1_3 (List.mem_of_getElem? (i := 67) rfl), t1_3 (List.mem_of_getElem? (i := 68) rfl)⟩
theorem lw_p51 : lw_okq (⟨"ShareHouse", "firstEndingSession", "()I"⟩, 18) := ⟨⟨by decide +kernel, by decide +kernel⟩, t1_1 (List.mem_of_getElem? (i := 28) rfl), t1_3 (List.mem_of_getElem? (i := 175) rfl), t1_3 (List.mem_of_getElem? (i := 176) rfl)⟩
theorem lw_p52 : lw_okq (⟨"ShareHouse", "firstEndingTree", "(LShareHouse$Session;)I"⟩, 18) := ⟨⟨by decide +kernel, by decide +kernel⟩, t1_1 (List.mem_of_getElem? (i := 28) rfl), t1_3 (List.mem_of_getElem? (i := 179) rfl), t1_3 (List.mem_of_getElem? (i := 180) rfl)⟩
theorem lw_p53 : lw_okq (⟨"ShareHouse", "firstOpenOf", "(LShareHouse$TreeLink;)LShareHouse$Open;"⟩, 18) := ⟨⟨by decide +kernel, by decide +kernel⟩, t1_1 (List.mem_of_getElem? (i := 28) rfl), t1_3 (List.mem_of_getElem? (i := 184) rfl), t1_3 (List.mem_of_getElem? (i := 185) rfl)⟩
theorem lw_p54 : lw_okq (⟨"ShareHouse", "cancelLocksThatWait", "(LShareHouse$Open;)V"⟩, 18) := ⟨⟨by decide +kernel, by decide +kernel⟩, t1_1 (List.mem_of_getElem? (i := 28) rfl), t1_4 (List.mem_of_getElem? (i := 136) rfl), t1_4 (List.mem_of_getElem? (i := 137) rfl)⟩
theorem lw_p55 : lw_okq (⟨"ShareHouse", "isOpened", "(LShareHouse$Node;)Z"⟩, 18) := ⟨⟨by decide +kernel, by decide +kernel⟩, t1_1 (List.mem_of_getElem? (i := 28) rfl), t1_3 (List.mem_of_getElem? (i := 238) rfl), t1_3 (List.mem_of_getElem? (i := 239) rfl)⟩
theorem lw_p56 : lw_okq (⟨"ShareHouse", "done", "(LShareHouse$Change;)V"⟩, 18) := ⟨⟨by decide +kernel, by decide +kernel⟩, t1_1 (List.mem_of_getElem? (i := 28) rfl), t1_3 (List.mem_of_getElem? (i := 226) rfl), t1_3 (List.mem_of_getElem? (i := 227) rfl)⟩
theorem lw_p57 : lw_okq (⟨"ShareHouse", "doAgain", "(LShareHouse$Node;)V"⟩, 18) := ⟨⟨by decide +kernel, by decide +kernel⟩, t1_1 (List.mem_of_getElem? (i := 28) rfl), t1_4 (List.mem_of_getElem? (i := 145) rfl), t1_4 (List.mem_of_getElem? (i := 146) rfl)⟩
theorem lw_p58 : lw_okq (⟨"ShareHouse", "beginWaiting", "(LShareHouse$Asked;)I"⟩, 18) := ⟨⟨by decide +kernel, by decide +kernel⟩, t1_1 (List.mem_of_getElem? (i := 28) rfl), t1_6 (List.mem_of_getElem? (i := 125) rfl), t1_6 (List.mem_of_getElem? (i := 126) rfl)⟩
theorem lw_p59 : lw_okq (⟨"ShareHouse", "walk", "(LShareHouse$Wish;LShareHouse$Node;)Z"⟩, 18) := ⟨⟨by decide +kernel, by decide +kernel⟩, t1_1 (List.mem_of_getElem? (i := 28) rfl), t1_3 (List.mem_of_getElem? (i := 193) rfl), t1_3 (List.mem_of_getElem? (i := 194) rfl)⟩
theorem lw_p60 : lw_okq (⟨"ShareHouse", "openNew", "(LShareHouse$Asked;LShareHouse$Wish;LShareHouse$Row;)I"⟩, 18) := ⟨⟨by decide +kernel, by decide +kernel⟩, t1_1 (List.mem_of_getElem? (i := 28) rfl), t1_3 (List.mem_of_getElem? (i := 208) rfl), t1_3 (List.mem_of_getElem? (i := 209) rfl)⟩
theorem lw_p61 : lw_okq (⟨"ShareHouse", "openThere", "(LShareHouse$Asked;LShareHouse$Wish;LShareHouse$Row;)I"⟩, 18) := ⟨⟨by decide +kernel, by decide +kernel⟩, t1_1 (List.mem_of_getElem? (i := 28) rfl), t1_4 (List.mem_of_getElem? (i := 87) rfl), t1_4 (List.mem_of_getElem? (i := 88) rfl)⟩
theorem lw_p62 : lw_okq (⟨"ShareHouse", "addOpen", "(LShareHouse$Asked;LShareHouse$Node;ILShareHouse$Row;)V"⟩, 18) := ⟨⟨by decide +kernel, by decide +kernel⟩, t1_1 (List.mem_of_getElem? (i := 28) rfl), t1_3 (List.mem_of_getElem? (i := 230) rfl), t1_3 (List.mem_of_getElem? (i := 231) rfl)⟩
theorem lw_p63 : lw_okq (⟨"ShareHouse", "refusal", "(LShareHouse$Node;LShareHouse$Wish;)I"⟩, 18) := ⟨⟨by decide +kernel, by decide +kernel⟩, t1_1 (List.mem_of_getElem? (i := 28) rfl), t1_4 (List.mem_of_getElem? (i := 91) rfl), t1_4 (List.mem_of_getElem? (i := 92) rfl)⟩
theorem lw_p64 : lw_okq (⟨"ShareHouse", "holder", "(LShareHouse$Node;)LShareHouse$Open;"⟩, 18) := ⟨⟨by decide +kernel, by decide +kernel⟩, t1_1 (List.mem_of_getElem? (i := 28) rfl), t1_4 (List.mem_of_getElem? (i := 2) rfl), t1_4 (List.mem_of_getElem? (i := 3) rfl)⟩
theorem lw_p65 : lw_okq (⟨"ShareHouse", "waitFor", "(LShareHouse$Asked;LShareHouse$Open;)I"⟩, 18) := ⟨⟨by decide +kernel, by decide +kernel⟩, t1_1 (List.mem_of_getElem? (i := 28) rfl), t1_4 (List.mem_of_getElem? (i := 105) rfl), t1_4 (List.mem_of_getElem? (i := 106) rfl)⟩
theorem lw_p66 : lw_okq (⟨"ShareHouse", "sharesWithOthers", "(LShareHouse$Node;LShareHouse$Wish;)Z"⟩, 18) := ⟨⟨by decide +kernel, by decide +kernel⟩, t1_1 (List.mem_of_getElem? (i := 28) rfl), t1_4 (List.mem_of_getElem? (i := 115) rfl), t1_4 (List.mem_of_getElem? (i := 116) rfl)⟩
theorem lw_p67 : lw_okq (⟨"ShareHouse", "breakLevelTwo", "(LShareHouse$Node;LShareHouse$Open;)V"⟩, 18) := ⟨⟨by decide +kernel, by decide +kernel⟩, t1_1 (List.mem_of_getElem? (i := 28) rfl), t1_4 (List.mem_of_getElem? (i := 124) rfl), t1_4 (List.mem_of_getElem? (i := 125) rfl)⟩
theorem lw_p68 : lw_okq (⟨"ShareHouse", "sendBreak", "(LShareHouse$Open;I)V"⟩, 18) := ⟨⟨by decide +kernel, by decide +kernel⟩, t1_1 (List.mem_of_getElem? (i := 28) rfl), t1_4 (List.mem_of_getElem? (i := 109) rfl), t1_4 (List.mem_of_getElem? (i := 110) rfl)⟩
theorem lw_p69 : lw_okq (⟨"ShareHouse", "granted", "(LShareHouse$Node;I)I"⟩, 18) := ⟨⟨by decide +kernel, by decide +kernel⟩, t1_1 (List.mem_of_getElem? (i := 28) rfl), t1_3 (List.mem_of_getElem? (i := 234) rfl), t1_3 (List.mem_of_getElem? (i := 235) rfl)⟩
theorem lw_p70 : lw_okq (⟨"ShareHouse", "hasLocks", "(LShareHouse$Node;)Z"⟩, 18) := ⟨⟨by decide +kernel, by decide +kernel⟩, t1_1 (List.mem_of_getElem? (i := 28) rfl), t1_4 (List.mem_of_getElem? (i := 6) rfl), t1_4 (List.mem_of_getElem? (i := 7) rfl)⟩
theorem lw_p71 : lw_okq (⟨"ShareHouse", "othersLock", "(LShareHouse$Open;JJZ)Z"⟩, 18) := ⟨⟨by decide +kernel, by decide +kernel⟩, t1_1 (List.mem_of_getElem? (i := 28) rfl), t1_6 (List.mem_of_getElem? (i := 37) rfl), t1_6 (List.mem_of_getElem? (i := 38) rfl)⟩
theorem lw_p72 : lw_okq (⟨"ShareHouse", "ownSharedLock", "(LShareHouse$Open;JJ)Z"⟩, 18) := ⟨⟨by decide +kernel, by decide +kernel⟩, t1_1 (List.mem_of_getElem? (i := 28) rfl), t1_6 (List.mem_of_getElem? (i := 56) rfl), t1_6 (List.mem_of_getElem? (i := 57) rfl)⟩
theorem lw_p73 : lw_okq (⟨"ShareHouse", "unlockEach", "(LShareHouse$Asked;LShareHouse$Open;I)I"⟩, 18) := ⟨⟨by decide +kernel, by decide +kernel⟩, t1_1 (List.mem_of_getElem? (i := 28) rfl), t1_6 (List.mem_of_getElem? (i := 82) rfl), t1_6 (List.mem_of_getElem? (i := 83) rfl)⟩
theorem lw_p74 : lw_okq (⟨"ShareHouse", "lockAll", "(LShareHouse$Asked;LShareHouse$Open;I)I"⟩, 18) := ⟨⟨by decide +kernel, by decide +kernel⟩, t1_1 (List.mem_of_getElem? (i := 28) rfl), t1_6 (List.mem_of_getElem? (i := 91) rfl), t1_6 (List.mem_of_getElem? (i := 92) rfl)⟩
theorem lw_p75 : lw_okq (⟨"ShareHouse", "eldestLock", "(LShareHouse$Open;JJ)I"⟩, 18) := ⟨⟨by decide +kernel, by decide +kernel⟩, t1_1 (List.mem_of_getElem? (i := 28) rfl), t1_6 (List.mem_of_getElem? (i := 86) rfl), t1_6 (List.mem_of_getElem? (i := 87) rfl)⟩
theorem lw_p76 : lw_okq (⟨"ShareHouse", "undoLocks", "(I)V"⟩, 18) := ⟨⟨by decide +kernel, by decide +kernel⟩, t1_1 (List.mem_of_getElem? (i := 28) rfl), t1_6 (List.mem_of_getElem? (i := 117) rfl), t1_6 (List.mem_of_getElem? (i := 118) rfl)⟩
theorem lw_p77 : lw_okq (⟨"ShareHouse", "list", "(LShareHouse$Open;III)I"⟩, 18) := ⟨⟨by decide +kernel, by decide +kernel⟩, t1_1 (List.mem_of_getElem? (i := 28) rfl), t1_6 (List.mem_of_getElem? (i := 141) rfl), t1_6 (List.mem_of_getElem? (i := 142) rfl)⟩
theorem lw_p78 : lw_okq (⟨"ShareHouse", "nextStage", "(LShareHouse$Open;)I"⟩, 18) := ⟨⟨by decide +kernel, by decide +kernel⟩, t1_1 (List.mem_of_getElem? (i := 28) rfl), t1_6 (List.mem_of_getElem? (i := 146) rfl), t1_6 (List.mem_of_getElem? (i := 147) rfl)⟩
theorem lw_p79 : lw_okq (⟨"ShareHouse", "entryNode", "(LShareHouse$Open;I)LShareHouse$Node;"⟩, 18) := ⟨⟨by decide +kernel, by decide +kernel⟩, t1_1 (List.mem_of_getElem? (i := 28) rfl), t1_6 (List.mem_of_getElem? (i := 157) rfl), t1_6 (List.mem_of_getElem? (i := 158) rfl)⟩
theorem lw_p80 : lw_okq (⟨"ShareHouse", "putEntry", "(IILShareHouse$Node;[BI)V"⟩, 18) := ⟨⟨by decide +kernel, by decide +kernel⟩, t1_1 (List.mem_of_getElem? (i := 28) rfl), t1_6 (List.mem_of_getElem? (i := 168) rfl), t1_6 (List.mem_of_getElem? (i := 169) rfl)⟩
theorem lw_p81 : lw_okq (⟨"ShareHouse", "setValues", "(LShareHouse$Asked;LShareHouse$Open;I)I"⟩, 18) := ⟨⟨by decide +kernel, by decide +kernel⟩, t1_1 (List.mem_of_getElem? (i := 28) rfl), t1_6 (List.mem_of_getElem? (i := 208) rfl), t1_6 (List.mem_of_getElem? (i := 209) rfl)⟩
theorem lw_p82 : lw_okq (⟨"ShareHouse", "setSize", "(LShareHouse$Open;J)I"⟩, 18) := ⟨⟨by decide +kernel, by decide +kernel⟩, t1_1 (List.mem_of_getElem? (i := 28) rfl), t1_6 (List.mem_of_getElem? (i := 212) rfl), t1_6 (List.mem_of_getElem? (i := 213) rfl)⟩
theorem lw_p83 : lw_okq (⟨"ShareHouse", "setToGo", "(LShareHouse$Node;Z)I"⟩, 18) := ⟨⟨by decide +kernel, by decide +kernel⟩, t1_1 (List.mem_of_getElem? (i := 28) rfl), t1_6 (List.mem_of_getElem? (i := 219) rfl), t1_6 (List.mem_of_getElem? (i := 220) rfl)⟩
theorem lw_p84 : lw_okq (⟨"ShareHouse", "rename", "(LShareHouse$Asked;LShareHouse$Open;IJ)I"⟩, 18) := ⟨⟨by decide +kernel, by decide +kernel⟩, t1_1 (List.mem_of_getElem? (i := 28) rfl), t1_6 (List.mem_of_getElem? (i := 224) rfl), t1_6 (List.mem_of_getElem? (i := 225) rfl)⟩
theorem lw_p85 : lw_okq (⟨"ShareHouse", "isOpenedBelow", "(LShareHouse$Node;)Z"⟩, 18) := ⟨⟨by decide +kernel, by decide +kernel⟩, t1_1 (List.mem_of_getElem? (i := 28) rfl), t1_6 (List.mem_of_getElem? (i := 234) rfl), t1_6 (List.mem_of_getElem? (i := 235) rfl)⟩
theorem lw_p86 : lw_okq (⟨"ShareHouseModel", "begin", "()V"⟩, 120) := ⟨⟨by decide +kernel, by decide +kernel⟩, t1_7 (List.mem_of_getElem? (i := 155) rfl), t1_7 (List.mem_of_getElem? (i := 166) rfl), t1_7 (List.mem_of_getElem? (i := 167) rfl)⟩
theorem lw_p87 : lw_okq (⟨"ShareHouseModel", "lay", "(I)V"⟩, 120) := ⟨⟨by decide +kernel, by decide +kernel⟩, t1_7 (List.mem_of_getElem? (i := 155) rfl), t1_9 (List.mem_of_getElem? (i := 60) rfl), t1_9 (List.mem_of_getElem? (i := 61) rfl)⟩
theorem lw_p88 : lw_okq (⟨"ShareHouseModel", "apply", "(II)V"⟩, 120) := ⟨⟨by decide +kernel, by decide +kernel⟩, t1_7 (List.mem_of_getElem? (i := 155) rfl), t1_9 (List.mem_of_getElem? (i := 87) rfl), t1_9 (List.mem_of_getElem? (i := 88) rfl)⟩
theorem lw_p89 : lw_okq (⟨"ShareHouseModel", "allCome", "()V"⟩, 120) := ⟨⟨by decide +kernel, by decide +kernel⟩, t1_7 (List.mem_of_getElem? (i := 155) rfl), t1_9 (List.mem_of_getElem? (i := 79) rfl), t1_9 (List.mem_of_getElem? (i := 80) rfl)⟩
theorem lw_p90 : lw_okq (⟨"ShareHouseModel", "come", "(IZ)V"⟩, 120) := ⟨⟨by decide +kernel, by decide +kernel⟩, t1_7 (List.mem_of_getElem? (i := 155) rfl), t1_9 (List.mem_of_getElem? (i := 83) rfl), t1_9 (List.mem_of_getElem? (i := 84) rfl)⟩
theorem lw_p91 : lw_okq (⟨"ShareHouseModel", "zero", "(III)V"⟩, 120) := ⟨⟨by decide +kernel, by decide +kernel⟩, t1_7 (List.mem_of_getElem? (i := 155) rfl), t1_9 (List.mem_of_getElem? (i := 91) rfl), t1_9 (List.mem_of_getElem? (i := 92) rfl)⟩
theorem lw_p92 : lw_okq (⟨"ShareHouseModel", "copyNode", "(II)V"⟩, 120) := ⟨⟨by decide +kernel, by decide +kernel⟩, t1_7 (List.mem_of_getElem? (i := 155) rfl), t1_7 (List.mem_of_getElem? (i := 170) rfl), t1_7 (List.mem_of_getElem? (i := 171) rfl)⟩
theorem lw_p93 : lw_okq (⟨"ShareHouseModel", "nodes", "(I)I"⟩, 120) := ⟨⟨by decide +kernel, by decide +kernel⟩, t1_7 (List.mem_of_getElem? (i := 155) rfl), t1_9 (List.mem_of_getElem? (i := 75) rfl), t1_9 (List.mem_of_getElem? (i := 76) rfl)⟩
theorem lw_p94 : lw_okq (⟨"ShareHouseModel", "freeNode", "()I"⟩, 120) := ⟨⟨by decide +kernel, by decide +kernel⟩, t1_7 (List.mem_of_getElem? (i := 155) rfl), t1_9 (List.mem_of_getElem? (i := 95) rfl), t1_9 (List.mem_of_getElem? (i := 96) rfl)⟩
theorem lw_p95 : lw_okq (⟨"ShareHouseModel", "drops", "(I)V"⟩, 120) := ⟨⟨by decide +kernel, by decide +kernel⟩, t1_7 (List.mem_of_getElem? (i := 155) rfl), t1_9 (List.mem_of_getElem? (i := 110) rfl), t1_9 (List.mem_of_getElem? (i := 111) rfl)⟩
theorem lw_p96 : lw_okq (⟨"ShareHouseModel", "forget", "(I)V"⟩, 120) := ⟨⟨by decide +kernel, by decide +kernel⟩, t1_7 (List.mem_of_getElem? (i := 155) rfl), t1_9 (List.mem_of_getElem? (i := 114) rfl), t1_9 (List.mem_of_getElem? (i := 115) rfl)⟩
theorem lw_p97 : lw_okq (⟨"ShareHouseModel", "eldestSession", "(I)I"⟩, 120) := ⟨⟨by decide +kernel, by decide +kernel⟩, t1_7 (List.mem_of_getElem? (i := 155) rfl), t1_9 (List.mem_of_getElem? (i := 118) rfl), t1_9 (List.mem_of_getElem? (i := 119) rfl)⟩
theorem lw_p98 : lw_okq (⟨"ShareHouseModel", "endSession", "(I)V"⟩, 120) := ⟨⟨by decide +kernel, by decide +kernel⟩, t1_7 (List.mem_of_getElem? (i := 155) rfl), t1_9 (List.mem_of_getElem? (i := 122) rfl), t1_9 (List.mem_of_getElem? (i := 123) rfl)⟩
theorem lw_p99 : lw_okq (⟨"ShareHouseModel", "eldestTree", "(I)I"⟩, 120) := ⟨⟨by decide +kernel, by decide +kernel⟩, t1_7 (List.mem_of_getElem? (i := 155) rfl), t1_9 (List.mem_of_getElem? (i := 126) rfl), t1_9 (List.mem_of_getElem? (i := 127) rfl)⟩
theorem lw_p100 : lw_okq (⟨"ShareHouseModel", "endTree", "(I)V"⟩, 120) := ⟨⟨by decide +kernel, by decide +kernel⟩, t1_7 (List.mem_of_getElem? (i := 155) rfl), t1_9 (List.mem_of_getElem? (i := 130) rfl), t1_9 (List.mem_of_getElem? (i := 131) rfl)⟩
theorem lw_p101 : lw_okq (⟨"ShareHouseModel", "eldestOpen", "(I)I"⟩, 120) := ⟨⟨by decide +kernel, by decide +kernel⟩, t1_7 (List.mem_of_getElem? (i := 155) rfl), t1_9 (List.mem_of_getElem? (i := 134) rfl), t1_9 (List.mem_of_getElem? (i := 135) rfl)⟩
theorem lw_p102 : lw_okq (⟨"ShareHouseModel", "closes", "(I)V"⟩, 120) := ⟨⟨by decide +kernel, by decide +kernel⟩, t1_7 (List.mem_of_getElem? (i := 155) rfl), t1_9 (List.mem_of_getElem? (i := 138) rfl), t1_9 (List.mem_of_getElem? (i := 139) rfl)⟩
theorem lw_p103 : lw_okq (⟨"ShareHouseModel", "message", "(III)V"⟩, 120) := ⟨⟨by decide +kernel, by decide +kernel⟩, t1_7 (List.mem_of_getElem? (i := 155) rfl), t1_10 (List.mem_of_getElem? (i := 129) rfl), t1_10 (List.mem_of_getElem? (i := 130) rfl)⟩
theorem lw_p104 : lw_okq (⟨"ShareHouseModel", "number", "(II)J"⟩, 120) := ⟨⟨by decide +kernel, by decide +kernel⟩, t1_7 (List.mem_of_getElem? (i := 155) rfl), t1_9 (List.mem_of_getElem? (i := 229) rfl), t1_9 (List.mem_of_getElem? (i := 230) rfl)⟩
theorem lw_p105 : lw_okq (⟨"ShareHouseModel", "set", "(IIJ)V"⟩, 120) := ⟨⟨by decide +kernel, by decide +kernel⟩, t1_7 (List.mem_of_getElem? (i := 155) rfl), t1_9 (List.mem_of_getElem? (i := 156) rfl), t1_9 (List.mem_of_getElem? (i := 157) rfl)⟩
theorem lw_p106 : lw_okq (⟨"ShareHouseModel", "headerGood", "(I)Z"⟩, 120) := ⟨⟨by decide +kernel, by decide +kernel⟩, t1_7 (List.mem_of_getElem? (i := 155) rfl), t1_10 (List.mem_of_getElem? (i := 133) rfl), t1_10 (List.mem_of_getElem? (i := 134) rfl)⟩
theorem lw_p107 : lw_okq (⟨"ShareHouseModel", "number2", "(I)I"⟩, 120) := ⟨⟨by decide +kernel, by decide +kernel⟩, t1_7 (List.mem_of_getElem? (i := 155) rfl), t1_10 (List.mem_of_getElem? (i := 11) rfl), t1_10 (List.mem_of_getElem? (i := 12) rfl)⟩
theorem lw_p108 : lw_okq (⟨"ShareHouseModel", "takeId", "(IJ)Z"⟩, 120) := ⟨⟨by decide +kernel, by decide +kernel⟩, t1_7 (List.mem_of_getElem? (i := 155) rfl), t1_10 (List.mem_of_getElem? (i := 138) rfl), t1_10 (List.mem_of_getElem? (i := 139) rfl)⟩
theorem lw_p109 : lw_okq (⟨"ShareHouseModel", "request", "(IJ)V"⟩, 120) := ⟨⟨by decide +kernel, by decide +kernel⟩, t1_7 (List.mem_of_getElem? (i := 155) rfl), t1_10 (List.mem_of_getElem? (i := 142) rfl), t1_10 (List.mem_of_getElem? (i := 143) rfl)⟩
theorem lw_p110 : lw_okq (⟨"ShareHouseModel", "send", "(III)V"⟩, 120) := ⟨⟨by decide +kernel, by decide +kernel⟩, t1_7 (List.mem_of_getElem? (i := 155) rfl), t1_9 (List.mem_of_getElem? (i := 173) rfl), t1_9 (List.mem_of_getElem? (i := 174) rfl)⟩
theorem lw_p111 : lw_okq (⟨"ShareHouseModel", "cancel", "(IJ)V"⟩, 120) := ⟨⟨by decide +kernel, by decide +kernel⟩, t1_7 (List.mem_of_getElem? (i := 155) rfl), t1_10 (List.mem_of_getElem? (i := 146) rfl), t1_10 (List.mem_of_getElem? (i := 147) rfl)⟩
theorem lw_p112 : lw_okq (⟨"ShareHouseModel", "does", "()J"⟩, 120) := ⟨⟨by decide +kernel, by decide +kernel⟩, t1_7 (List.mem_of_getElem? (i := 155) rfl), t1_10 (List.mem_of_getElem? (i := 150) rfl), t1_10 (List.mem_of_getElem? (i := 151) rfl)⟩
theorem lw_p113 : lw_okq (⟨"ShareHouseModel", "body", "(I)V"⟩, 120) := ⟨⟨by decide +kernel, by decide +kernel⟩, t1_7 (List.mem_of_getElem? (i := 155) rfl), t1_9 (List.mem_of_getElem? (i := 152) rfl), t1_9 (List.mem_of_getElem? (i := 153) rfl)⟩
theorem lw_p114 : lw_okq (⟨"ShareHouseModel", "grant", "(II)I"⟩, 120) := ⟨⟨by decide +kernel, by decide +kernel⟩, t1_7 (List.mem_of_getElem? (i := 155) rfl), t1_11 (List.mem_of_getElem? (i := 76) rfl), t1_11 (List.mem_of_getElem? (i := 77) rfl)⟩
theorem lw_p115 : lw_okq (⟨"ShareHouseModel", "header", "(JIIIJJJJ)V"⟩, 120) := ⟨⟨by decide +kernel, by decide +kernel⟩, t1_7 (List.mem_of_getElem? (i := 155) rfl), t1_9 (List.mem_of_getElem? (i := 167) rfl), t1_9 (List.mem_of_getElem? (i := 168) rfl)⟩
theorem lw_p116 : lw_okq (⟨"ShareHouseModel", "lies", "(JJ)Z"⟩, 120) := ⟨⟨by decide +kernel, by decide +kernel⟩, t1_7 (List.mem_of_getElem? (i := 155) rfl), t1_10 (List.mem_of_getElem? (i := 175) rfl), t1_10 (List.mem_of_getElem? (i := 176) rfl)⟩
theorem lw_p117 : lw_okq (⟨"ShareHouseModel", "findSession", "(J)I"⟩, 120) := ⟨⟨by decide +kernel, by decide +kernel⟩, t1_7 (List.mem_of_getElem? (i := 155) rfl), t1_10 (List.mem_of_getElem? (i := 157) rfl), t1_10 (List.mem_of_getElem? (i := 158) rfl)⟩
theorem lw_p118 : lw_okq (⟨"ShareHouseModel", "findTree", "(J)I"⟩, 120) := ⟨⟨by decide +kernel, by decide +kernel⟩, t1_7 (List.mem_of_getElem? (i := 155) rfl), t1_10 (List.mem_of_getElem? (i := 162) rfl), t1_10 (List.mem_of_getElem? (i := 163) rfl)⟩
theorem lw_p119 : lw_okq (⟨"ShareHouseModel", "isBody", "()Z"⟩, 120) := ⟨⟨by decide +kernel, by decide +kernel⟩, t1_7 (List.mem_of_getElem? (i := 155) rfl), t1_10 (List.mem_of_getElem? (i := 168) rfl), t1_10 (List.mem_of_getElem? (i := 169) rfl)⟩
theorem lw_p120 : lw_okq (⟨"ShareHouseModel", "openBy", "(J)I"⟩, 120) := ⟨⟨by decide +kernel, by decide +kernel⟩, t1_7 (List.mem_of_getElem? (i := 155) rfl), t1_10 (List.mem_of_getElem? (i := 180) rfl), t1_10 (List.mem_of_getElem? (i := 181) rfl)⟩
theorem lw_p121 : lw_okq (⟨"ShareHouseModel", "negotiate", "()J"⟩, 120) := ⟨⟨by decide +kernel, by decide +kernel⟩, t1_7 (List.mem_of_getElem? (i := 155) rfl), t1_10 (List.mem_of_getElem? (i := 185) rfl), t1_10 (List.mem_of_getElem? (i := 186) rfl)⟩
theorem lw_p122 : lw_okq (⟨"ShareHouseModel", "setUp", "()J"⟩, 120) := ⟨⟨by decide +kernel, by decide +kernel⟩, t1_7 (List.mem_of_getElem? (i := 155) rfl), t1_10 (List.mem_of_getElem? (i := 192) rfl), t1_10 (List.mem_of_getElem? (i := 193) rfl)⟩
theorem lw_p123 : lw_okq (⟨"ShareHouseModel", "small", "(I)J"⟩, 120) := ⟨⟨by decide +kernel, by decide +kernel⟩, t1_7 (List.mem_of_getElem? (i := 155) rfl), t1_9 (List.mem_of_getElem? (i := 148) rfl), t1_9 (List.mem_of_getElem? (i := 149) rfl)⟩
theorem lw_p124 : lw_okq (⟨"ShareHouseModel", "connectTree", "()J"⟩, 120) := ⟨⟨by decide +kernel, by decide +kernel⟩, t1_7 (List.mem_of_getElem? (i := 155) rfl), t1_10 (List.mem_of_getElem? (i := 197) rfl), t1_10 (List.mem_of_getElem? (i := 198) rfl)⟩
theorem lw_p125 : lw_okq (⟨"ShareHouseModel", "create", "(I)J"⟩, 120) := ⟨⟨by decide +kernel, by decide +kernel⟩, t1_7 (List.mem_of_getElem? (i := 155) rfl), t1_9 (List.mem_of_getElem? (i := 225) rfl), t1_9 (List.mem_of_getElem? (i := 226) rfl)⟩
theorem lw_p126 : lw_okq (⟨"ShareHouseModel", "close", "()J"⟩, 120) := ⟨⟨by decide +kernel, by decide +kernel⟩, t1_7 (List.mem_of_getElem? (i := 155) rfl), t1_10 (List.mem_of_getElem? (i := 203) rfl), t1_10 (List.mem_of_getElem? (i := 204) rfl)⟩
theorem lw_p127 : lw_okq (⟨"ShareHouseModel", "flush", "()J"⟩, 120) := ⟨⟨by decide +kernel, by decide +kernel⟩, t1_7 (List.mem_of_getElem? (i := 155) rfl), t1_10 (List.mem_of_getElem? (i := 208) rfl), t1_10 (List.mem_of_getElem? (i := 209) rfl)⟩
theorem lw_p128 : lw_okq (⟨"ShareHouseModel", "read", "()J"⟩, 120) := ⟨⟨by decide +kernel, by decide +kernel⟩, t1_7 (List.mem_of_getElem? (i := 155) rfl), t1_10 (List.mem_of_getElem? (i := 212) rfl), t1_10 (List.mem_of_getElem? (i := 213) rfl)⟩
theorem lw_p129 : lw_okq (⟨"ShareHouseModel", "write", "()J"⟩, 120) := ⟨⟨by decide +kernel, by decide +kernel⟩, t1_7 (List.mem_of_getElem? (i := 155) rfl), t1_10 (List.mem_of_getElem? (i := 220) rfl), t1_10 (List.mem_of_getElem? (i := 221) rfl)⟩
theorem lw_p130 : lw_okq (⟨"ShareHouseModel", "lock", "()J"⟩, 120) := ⟨⟨by decide +kernel, by decide +kernel⟩, t1_7 (List.mem_of_getElem? (i := 155) rfl), t1_10 (List.mem_of_getElem? (i := 224) rfl), t1_10 (List.mem_of_getElem? (i := 225) rfl)⟩
theorem lw_p131 : lw_okq (⟨"ShareHouseModel", "list", "()J"⟩, 120) := ⟨⟨by decide +kernel, by decide +kernel⟩, t1_7 (List.mem_of_getElem? (i := 155) rfl), t1_10 (List.mem_of_getElem? (i := 239) rfl), t1_11 (List.mem_of_getElem? (i := 0) rfl)⟩
theorem lw_p132 : lw_okq (⟨"ShareHouseModel", "ask", "()J"⟩, 120) := ⟨⟨by decide +kernel, by decide +kernel⟩, t1_7 (List.mem_of_getElem? (i := 155) rfl), t1_11 (List.mem_of_getElem? (i := 32) rfl), t1_11 (List.mem_of_getElem? (i := 33) rfl)⟩
theorem lw_p133 : lw_okq (⟨"ShareHouseModel", "setInfo", "()J"⟩, 120) := ⟨⟨by decide +kernel, by decide +kernel⟩, t1_7 (List.mem_of_getElem? (i := 155) rfl), t1_11 (List.mem_of_getElem? (i := 45) rfl), t1_11 (List.mem_of_getElem? (i := 46) rfl)⟩
theorem lw_p134 : lw_okq (⟨"ShareHouseModel", "broken", "()J"⟩, 120) := ⟨⟨by decide +kernel, by decide +kernel⟩, t1_7 (List.mem_of_getElem? (i := 155) rfl), t1_11 (List.mem_of_getElem? (i := 71) rfl), t1_11 (List.mem_of_getElem? (i := 72) rfl)⟩
theorem lw_p135 : lw_okq (⟨"ShareHouseModel", "late", "(IJ)V"⟩, 120) := ⟨⟨by decide +kernel, by decide +kernel⟩, t1_7 (List.mem_of_getElem? (i := 155) rfl), t1_9 (List.mem_of_getElem? (i := 160) rfl), t1_9 (List.mem_of_getElem? (i := 161) rfl)⟩
theorem lw_p136 : lw_okq (⟨"ShareHouseModel", "tellBreak", "(II)V"⟩, 120) := ⟨⟨by decide +kernel, by decide +kernel⟩, t1_7 (List.mem_of_getElem? (i := 155) rfl), t1_10 (List.mem_of_getElem? (i := 70) rfl), t1_10 (List.mem_of_getElem? (i := 71) rfl)⟩
theorem lw_p137 : lw_okq (⟨"ShareHouseModel", "give", "(IJ)V"⟩, 120) := ⟨⟨by decide +kernel, by decide +kernel⟩, t1_7 (List.mem_of_getElem? (i := 155) rfl), t1_9 (List.mem_of_getElem? (i := 143) rfl), t1_9 (List.mem_of_getElem? (i := 144) rfl)⟩
theorem lw_p138 : lw_okq (⟨"ShareHouseModel", "again", "(I)Z"⟩, 120) := ⟨⟨by decide +kernel, by decide +kernel⟩, t1_7 (List.mem_of_getElem? (i := 155) rfl), t1_9 (List.mem_of_getElem? (i := 221) rfl), t1_9 (List.mem_of_getElem? (i := 222) rfl)⟩
theorem lw_p139 : lw_okq (⟨"ShareHouseModel", "number1", "(I)I"⟩, 120) := ⟨⟨by decide +kernel, by decide +kernel⟩, t1_7 (List.mem_of_getElem? (i := 155) rfl), t1_10 (List.mem_of_getElem? (i := 34) rfl), t1_10 (List.mem_of_getElem? (i := 35) rfl)⟩
theorem lw_p140 : lw_okq (⟨"ShareHouseModel", "vacant", "([J)I"⟩, 120) := ⟨⟨by decide +kernel, by decide +kernel⟩, t1_7 (List.mem_of_getElem? (i := 155) rfl), t1_10 (List.mem_of_getElem? (i := 104) rfl), t1_10 (List.mem_of_getElem? (i := 105) rfl)⟩
theorem lw_p141 : lw_okq (⟨"ShareHouseModel", "child", "(II)I"⟩, 120) := ⟨⟨by decide +kernel, by decide +kernel⟩, t1_7 (List.mem_of_getElem? (i := 155) rfl), t1_10 (List.mem_of_getElem? (i := 29) rfl), t1_10 (List.mem_of_getElem? (i := 30) rfl)⟩
theorem lw_p142 : lw_okq (⟨"ShareHouseModel", "waitFor", "(IJ)I"⟩, 120) := ⟨⟨by decide +kernel, by decide +kernel⟩, t1_7 (List.mem_of_getElem? (i := 155) rfl), t1_10 (List.mem_of_getElem? (i := 62) rfl), t1_10 (List.mem_of_getElem? (i := 63) rfl)⟩
theorem lw_p143 : lw_okq (⟨"ShareHouseModel", "readPath", "(IJ)Z"⟩, 120) := ⟨⟨by decide +kernel, by decide +kernel⟩, t1_7 (List.mem_of_getElem? (i := 155) rfl), t1_10 (List.mem_of_getElem? (i := 15) rfl), t1_10 (List.mem_of_getElem? (i := 16) rfl)⟩
theorem lw_p144 : lw_okq (⟨"ShareHouseModel", "goes", "(I)Z"⟩, 120) := ⟨⟨by decide +kernel, by decide +kernel⟩, t1_7 (List.mem_of_getElem? (i := 155) rfl), t1_10 (List.mem_of_getElem? (i := 25) rfl), t1_10 (List.mem_of_getElem? (i := 26) rfl)⟩
theorem lw_p145 : lw_okq (⟨"ShareHouseModel", "there", "(IIIIIZZZZI)J"⟩, 120) := ⟨⟨by decide +kernel, by decide +kernel⟩, t1_7 (List.mem_of_getElem? (i := 155) rfl), t1_10 (List.mem_of_getElem? (i := 38) rfl), t1_10 (List.mem_of_getElem? (i := 39) rfl)⟩
theorem lw_p146 : lw_okq (⟨"ShareHouseModel", "emptyIt", "(II)V"⟩, 120) := ⟨⟨by decide +kernel, by decide +kernel⟩, t1_7 (List.mem_of_getElem? (i := 155) rfl), t1_10 (List.mem_of_getElem? (i := 82) rfl), t1_10 (List.mem_of_getElem? (i := 83) rfl)⟩
theorem lw_p147 : lw_okq (⟨"ShareHouseModel", "count", "([J)I"⟩, 120) := ⟨⟨by decide +kernel, by decide +kernel⟩, t1_7 (List.mem_of_getElem? (i := 155) rfl), t1_10 (List.mem_of_getElem? (i := 47) rfl), t1_10 (List.mem_of_getElem? (i := 48) rfl)⟩
theorem lw_p148 : lw_okq (⟨"ShareHouseModel", "makeNode", "(ZI)I"⟩, 120) := ⟨⟨by decide +kernel, by decide +kernel⟩, t1_7 (List.mem_of_getElem? (i := 155) rfl), t1_10 (List.mem_of_getElem? (i := 92) rfl), t1_10 (List.mem_of_getElem? (i := 93) rfl)⟩
theorem lw_p149 : lw_okq (⟨"ShareHouseModel", "granted", "(II)I"⟩, 120) := ⟨⟨by decide +kernel, by decide +kernel⟩, t1_7 (List.mem_of_getElem? (i := 155) rfl), t1_10 (List.mem_of_getElem? (i := 100) rfl), t1_10 (List.mem_of_getElem? (i := 101) rfl)⟩
theorem lw_p150 : lw_okq (⟨"ShareHouseModel", "setTimes", "(II)V"⟩, 120) := ⟨⟨by decide +kernel, by decide +kernel⟩, t1_7 (List.mem_of_getElem? (i := 155) rfl), t1_10 (List.mem_of_getElem? (i := 109) rfl), t1_10 (List.mem_of_getElem? (i := 110) rfl)⟩
theorem lw_p151 : lw_okq (⟨"ShareHouseModel", "room", "(I)I"⟩, 120) := ⟨⟨by decide +kernel, by decide +kernel⟩, t1_7 (List.mem_of_getElem? (i := 155) rfl), t1_10 (List.mem_of_getElem? (i := 113) rfl), t1_10 (List.mem_of_getElem? (i := 114) rfl)⟩
theorem lw_p152 : lw_okq (⟨"ShareHouseModel", "shown", "(I)I"⟩, 120) := ⟨⟨by decide +kernel, by decide +kernel⟩, t1_7 (List.mem_of_getElem? (i := 155) rfl), t1_10 (List.mem_of_getElem? (i := 117) rfl), t1_10 (List.mem_of_getElem? (i := 118) rfl)⟩
theorem lw_p153 : lw_okq (⟨"ShareHouseModel", "openWith", "(II)I"⟩, 120) := ⟨⟨by decide +kernel, by decide +kernel⟩, t1_7 (List.mem_of_getElem? (i := 155) rfl), t1_10 (List.mem_of_getElem? (i := 52) rfl), t1_10 (List.mem_of_getElem? (i := 53) rfl)⟩
theorem lw_p154 : lw_okq (⟨"ShareHouseModel", "waitsFor", "(II)J"⟩, 120) := ⟨⟨by decide +kernel, by decide +kernel⟩, t1_7 (List.mem_of_getElem? (i := 155) rfl), t1_10 (List.mem_of_getElem? (i := 56) rfl), t1_10 (List.mem_of_getElem? (i := 57) rfl)⟩
theorem lw_p155 : lw_okq (⟨"ShareHouseModel", "breaks", "(II)V"⟩, 120) := ⟨⟨by decide +kernel, by decide +kernel⟩, t1_7 (List.mem_of_getElem? (i := 155) rfl), t1_10 (List.mem_of_getElem? (i := 66) rfl), t1_10 (List.mem_of_getElem? (i := 67) rfl)⟩
theorem lw_p156 : lw_okq (⟨"ShareHouseModel", "isShared", "(III)Z"⟩, 120) := ⟨⟨by decide +kernel, by decide +kernel⟩, t1_7 (List.mem_of_getElem? (i := 155) rfl), t1_10 (List.mem_of_getElem? (i := 75) rfl), t1_10 (List.mem_of_getElem? (i := 76) rfl)⟩
theorem lw_p157 : lw_okq (⟨"ShareHouseModel", "record", "(II)I"⟩, 120) := ⟨⟨by decide +kernel, by decide +kernel⟩, t1_7 (List.mem_of_getElem? (i := 155) rfl), t1_9 (List.mem_of_getElem? (i := 189) rfl), t1_9 (List.mem_of_getElem? (i := 190) rfl)⟩
theorem lw_p158 : lw_okq (⟨"ShareHouseModel", "done", "()V"⟩, 120) := ⟨⟨by decide +kernel, by decide +kernel⟩, t1_7 (List.mem_of_getElem? (i := 155) rfl), t1_9 (List.mem_of_getElem? (i := 193) rfl), t1_9 (List.mem_of_getElem? (i := 194) rfl)⟩
theorem lw_p159 : lw_okq (⟨"ShareHouseModel", "breakSecond", "(II)V"⟩, 120) := ⟨⟨by decide +kernel, by decide +kernel⟩, t1_7 (List.mem_of_getElem? (i := 155) rfl), t1_10 (List.mem_of_getElem? (i := 86) rfl), t1_10 (List.mem_of_getElem? (i := 87) rfl)⟩
theorem lw_p160 : lw_okq (⟨"ShareHouseModel", "nameIt", "(II)V"⟩, 120) := ⟨⟨by decide +kernel, by decide +kernel⟩, t1_7 (List.mem_of_getElem? (i := 155) rfl), t1_10 (List.mem_of_getElem? (i := 96) rfl), t1_10 (List.mem_of_getElem? (i := 97) rfl)⟩
theorem lw_p161 : lw_okq (⟨"ShareHouseModel", "isOpened", "(I)Z"⟩, 120) := ⟨⟨by decide +kernel, by decide +kernel⟩, t1_7 (List.mem_of_getElem? (i := 155) rfl), t1_9 (List.mem_of_getElem? (i := 181) rfl), t1_9 (List.mem_of_getElem? (i := 182) rfl)⟩
theorem lw_p162 : lw_okq (⟨"ShareHouseModel", "unlock", "(I)V"⟩, 120) := ⟨⟨by decide +kernel, by decide +kernel⟩, t1_7 (List.mem_of_getElem? (i := 155) rfl), t1_9 (List.mem_of_getElem? (i := 177) rfl), t1_9 (List.mem_of_getElem? (i := 178) rfl)⟩
theorem lw_p163 : lw_okq (⟨"ShareHouseModel", "isEmpty", "(I)Z"⟩, 120) := ⟨⟨by decide +kernel, by decide +kernel⟩, t1_7 (List.mem_of_getElem? (i := 155) rfl), t1_9 (List.mem_of_getElem? (i := 185) rfl), t1_9 (List.mem_of_getElem? (i := 186) rfl)⟩
theorem lw_p164 : lw_okq (⟨"ShareHouseModel", "lookLocks", "()V"⟩, 120) := ⟨⟨by decide +kernel, by decide +kernel⟩, t1_7 (List.mem_of_getElem? (i := 155) rfl), t1_9 (List.mem_of_getElem? (i := 197) rfl), t1_9 (List.mem_of_getElem? (i := 198) rfl)⟩
theorem lw_p165 : lw_okq (⟨"ShareHouseModel", "redo", "(I)V"⟩, 120) := ⟨⟨by decide +kernel, by decide +kernel⟩, t1_7 (List.mem_of_getElem? (i := 155) rfl), t1_9 (List.mem_of_getElem? (i := 217) rfl), t1_9 (List.mem_of_getElem? (i := 218) rfl)⟩
theorem lw_p166 : lw_okq (⟨"ShareHouseModel", "canBe", "(IJJZ)Z"⟩, 120) := ⟨⟨by decide +kernel, by decide +kernel⟩, t1_7 (List.mem_of_getElem? (i := 155) rfl), t1_9 (List.mem_of_getElem? (i := 201) rfl), t1_9 (List.mem_of_getElem? (i := 202) rfl)⟩
theorem lw_p167 : lw_okq (⟨"ShareHouseModel", "addLock", "(JIJJZ)V"⟩, 120) := ⟨⟨by decide +kernel, by decide +kernel⟩, t1_7 (List.mem_of_getElem? (i := 155) rfl), t1_9 (List.mem_of_getElem? (i := 213) rfl), t1_9 (List.mem_of_getElem? (i := 214) rfl)⟩
theorem lw_p168 : lw_okq (⟨"ShareHouseModel", "unlocks", "(I)J"⟩, 120) := ⟨⟨by decide +kernel, by decide +kernel⟩, t1_7 (List.mem_of_getElem? (i := 155) rfl), t1_10 (List.mem_of_getElem? (i := 229) rfl), t1_10 (List.mem_of_getElem? (i := 230) rfl)⟩
theorem lw_p169 : lw_okq (⟨"ShareHouseModel", "locksAll", "(II)J"⟩, 120) := ⟨⟨by decide +kernel, by decide +kernel⟩, t1_7 (List.mem_of_getElem? (i := 155) rfl), t1_10 (List.mem_of_getElem? (i := 234) rfl), t1_10 (List.mem_of_getElem? (i := 235) rfl)⟩
theorem lw_p170 : lw_okq (⟨"ShareHouseModel", "matches", "(III)Z"⟩, 120) := ⟨⟨by decide +kernel, by decide +kernel⟩, t1_7 (List.mem_of_getElem? (i := 155) rfl), t1_11 (List.mem_of_getElem? (i := 8) rfl), t1_11 (List.mem_of_getElem? (i := 9) rfl)⟩
theorem lw_p171 : lw_okq (⟨"ShareHouseModel", "against", "(II)I"⟩, 120) := ⟨⟨by decide +kernel, by decide +kernel⟩, t1_7 (List.mem_of_getElem? (i := 155) rfl), t1_11 (List.mem_of_getElem? (i := 12) rfl), t1_11 (List.mem_of_getElem? (i := 13) rfl)⟩
theorem lw_p172 : lw_okq (⟨"ShareHouseModel", "between", "(II)I"⟩, 120) := ⟨⟨by decide +kernel, by decide +kernel⟩, t1_7 (List.mem_of_getElem? (i := 155) rfl), t1_11 (List.mem_of_getElem? (i := 16) rfl), t1_11 (List.mem_of_getElem? (i := 17) rfl)⟩
theorem lw_p173 : lw_okq (⟨"ShareHouseModel", "findNext", "(I)Z"⟩, 120) := ⟨⟨by decide +kernel, by decide +kernel⟩, t1_7 (List.mem_of_getElem? (i := 155) rfl), t1_11 (List.mem_of_getElem? (i := 4) rfl), t1_11 (List.mem_of_getElem? (i := 5) rfl)⟩
theorem lw_p174 : lw_okq (⟨"ShareHouseModel", "entryAt", "(III)V"⟩, 120) := ⟨⟨by decide +kernel, by decide +kernel⟩, t1_7 (List.mem_of_getElem? (i := 155) rfl), t1_11 (List.mem_of_getElem? (i := 20) rfl), t1_11 (List.mem_of_getElem? (i := 21) rfl)⟩
theorem lw_p175 : lw_okq (⟨"ShareHouseModel", "remember", "(I)V"⟩, 120) := ⟨⟨by decide +kernel, by decide +kernel⟩, t1_7 (List.mem_of_getElem? (i := 155) rfl), t1_11 (List.mem_of_getElem? (i := 25) rfl), t1_11 (List.mem_of_getElem? (i := 26) rfl)⟩
theorem lw_p176 : lw_okq (⟨"ShareHouseModel", "standard", "(II)V"⟩, 120) := ⟨⟨by decide +kernel, by decide +kernel⟩, t1_7 (List.mem_of_getElem? (i := 155) rfl), t1_11 (List.mem_of_getElem? (i := 37) rfl), t1_11 (List.mem_of_getElem? (i := 38) rfl)⟩
theorem lw_p177 : lw_okq (⟨"ShareHouseModel", "basic", "(II)V"⟩, 120) := ⟨⟨by decide +kernel, by decide +kernel⟩, t1_7 (List.mem_of_getElem? (i := 155) rfl), t1_11 (List.mem_of_getElem? (i := 41) rfl), t1_11 (List.mem_of_getElem? (i := 42) rfl)⟩
theorem lw_p178 : lw_okq (⟨"ShareHouseModel", "setBasic", "(II)J"⟩, 120) := ⟨⟨by decide +kernel, by decide +kernel⟩, t1_7 (List.mem_of_getElem? (i := 155) rfl), t1_11 (List.mem_of_getElem? (i := 49) rfl), t1_11 (List.mem_of_getElem? (i := 50) rfl)⟩
theorem lw_p179 : lw_okq (⟨"ShareHouseModel", "setSize", "(II)J"⟩, 120) := ⟨⟨by decide +kernel, by decide +kernel⟩, t1_7 (List.mem_of_getElem? (i := 155) rfl), t1_11 (List.mem_of_getElem? (i := 53) rfl), t1_11 (List.mem_of_getElem? (i := 54) rfl)⟩
theorem lw_p180 : lw_okq (⟨"ShareHouseModel", "setToGo", "(II)J"⟩, 120) := ⟨⟨by decide +kernel, by decide +kernel⟩, t1_7 (List.mem_of_getElem? (i := 155) rfl), t1_11 (List.mem_of_getElem? (i := 57) rfl), t1_11 (List.mem_of_getElem? (i := 58) rfl)⟩
theorem lw_p181 : lw_okq (⟨"ShareHouseModel", "rename", "(IIJ)J"⟩, 120) := ⟨⟨by decide +kernel, by decide +kernel⟩, t1_7 (List.mem_of_getElem? (i := 155) rfl), t1_11 (List.mem_of_getElem? (i := 62) rfl), t1_11 (List.mem_of_getElem? (i := 63) rfl)⟩
theorem lw_p182 : lw_okq (⟨"ShareHouseModel", "isBelow", "(II)Z"⟩, 120) := ⟨⟨by decide +kernel, by decide +kernel⟩, t1_7 (List.mem_of_getElem? (i := 155) rfl), t1_11 (List.mem_of_getElem? (i := 67) rfl), t1_11 (List.mem_of_getElem? (i := 68) rfl)⟩
theorem lw_p183 : lw_okq (⟨"java/util/ArrayList", "grow", "(I)[Ljava/lang/Object;"⟩, 3) := ⟨⟨by decide +kernel, by decide +kernel⟩, t1_1 (List.mem_of_getElem? (i := 158) rfl), t1_3 (List.mem_of_getElem? (i := 92) rfl), t1_3 (List.mem_of_getElem? (i := 93) rfl)⟩
theorem lw_p184 : lw_okq (⟨"java/util/ArrayList", "grow", "()[Ljava/lang/Object;"⟩, 3) := ⟨⟨by decide +kernel, by decide +kernel⟩, t1_1 (List.mem_of_getElem? (i := 158) rfl), t1_3 (List.mem_of_getElem? (i := 88) rfl), t1_3 (List.mem_of_getElem? (i := 89) rfl)⟩
theorem lw_p185 : lw_okq (⟨"java/util/ArrayList", "add", "(Ljava/lang/Object;[Ljava/lang/Object;I)V"⟩, 3) := ⟨⟨by decide +kernel, by decide +kernel⟩, t1_1 (List.mem_of_getElem? (i := 158) rfl), t1_3 (List.mem_of_getElem? (i := 84) rfl), t1_3 (List.mem_of_getElem? (i := 85) rfl)⟩
theorem lw_p186 : lw_okq (⟨"java/util/ArrayList", "fastRemove", "([Ljava/lang/Object;I)V"⟩, 3) := ⟨⟨by decide +kernel, by decide +kernel⟩, t1_1 (List.mem_of_getElem? (i := 158) rfl), t1_3 (List.mem_of_getElem? (i := 52) rfl), t1_3 (List.mem_of_getElem? (i := 53) rfl)⟩
def lw_privs_0 : List (MethodName × Nat) := [(⟨"ShareHouse$Asked", "holds", "(JJ)Z"⟩, 21), (⟨"ShareHouse$Wish", "isName", "(II)Z"⟩, 13), (⟨"ShareHouse", "tapeIsShareName", "()Z"⟩, 18), (⟨"ShareHouse", "rootNamed", "(LShareHouse$Row;III)LShareHouse$Node;"⟩, 18), (⟨"ShareHouse", "makeRoot", "()I"⟩, 18), (⟨"ShareHouse", "connection", "(I)LShareHouse$Conn;"⟩, 18), (⟨"ShareHouse", "shutOff", "(LShareHouse$Conn;)V"⟩, 18), (⟨"ShareHouse", "settle", "()V"⟩, 18), (⟨"ShareHouse", "beginMessage", "(LShareHouse$Conn;)V"⟩, 18), (⟨"ShareHouse", "request", "(LShareHouse$Conn;)Z"⟩, 18), (⟨"ShareHouse", "endBreak", "(LShareHouse$Open;I)V"⟩, 18), (⟨"ShareHouse", "comeToDisk", "()V"⟩, 18), (⟨"ShareHouse", "nextChange", "(ILShareHouse$Node;)LShareHouse$Change;"⟩, 18), (⟨"ShareHouse", "look", "(LShareHouse$Asked;)I"⟩, 18), (⟨"ShareHouse", "prepare", "(LShareHouse$Asked;)I"⟩, 18), (⟨"ShareHouse", "performOnFile", "(LShareHouse$Asked;LShareHouse$Open;)I"⟩, 18)]
theorem lw_privs_0_ok : ∀ q ∈ lw_privs_0, lw_okq q := List.forall_mem_cons.mpr ⟨lw_p0, List.forall_mem_cons.mpr ⟨lw_p1, List.forall_mem_cons.mpr ⟨lw_p2, List.forall_mem_cons.mpr ⟨lw_p3, List.forall_mem_cons.mpr ⟨lw_p4, List.forall_mem_cons.mpr ⟨lw_p5, List.forall_mem_cons.mpr ⟨lw_p6, List.forall_mem_cons.mpr ⟨lw_p7, List.forall_mem_cons.mpr ⟨lw_p8, List.forall_mem_cons.mpr ⟨lw_p9, List.forall_mem_cons.mpr ⟨lw_p10, List.forall_mem_cons.mpr ⟨lw_p11, List.forall_mem_cons.mpr ⟨lw_p12, List.forall_mem_cons.mpr ⟨lw_p13, List.forall_mem_cons.mpr ⟨lw_p14, List.forall_mem_cons.mpr ⟨lw_p15, fun _ h => absurd h List.not_mem_nil⟩⟩⟩⟩⟩⟩⟩⟩⟩⟩⟩⟩⟩⟩⟩⟩
def lw_privs_1 : List (MethodName × Nat) := [(⟨"ShareHouse", "openOrWait", "(LShareHouse$Asked;)I"⟩, 18), (⟨"ShareHouse", "perform", "(LShareHouse$Asked;)I"⟩, 18), (⟨"ShareHouse", "finish", "(LShareHouse$Asked;I)V"⟩, 18), (⟨"ShareHouse", "seal", "(LShareHouse$Row;LShareHouse$Asked;II)V"⟩, 18), (⟨"ShareHouse", "sessionOf", "(LShareHouse$Asked;)LShareHouse$Session;"⟩, 18), (⟨"ShareHouse", "treeOf", "(LShareHouse$Asked;)LShareHouse$TreeLink;"⟩, 18), (⟨"ShareHouse", "lookAtFile", "(LShareHouse$Asked;I)I"⟩, 18), (⟨"ShareHouse", "endFormer", "(LShareHouse$Asked;)I"⟩, 18), (⟨"ShareHouse", "readWish", "(LShareHouse$Asked;)I"⟩, 18), (⟨"ShareHouse", "negotiate", "(LShareHouse$Asked;)I"⟩, 18), (⟨"ShareHouse", "setUp", "(LShareHouse$Asked;)I"⟩, 18), (⟨"ShareHouse", "logOff", "(LShareHouse$Asked;)I"⟩, 18), (⟨"ShareHouse", "connectTree", "(LShareHouse$Asked;)I"⟩, 18), (⟨"ShareHouse", "disconnectTree", "(LShareHouse$Asked;)I"⟩, 18), (⟨"ShareHouse", "plainAnswer", "()I"⟩, 18), (⟨"ShareHouse", "cancel", "(LShareHouse$Asked;)I"⟩, 18)]
theorem lw_privs_1_ok : ∀ q ∈ lw_privs_1, lw_okq q := List.forall_mem_cons.mpr ⟨lw_p16, List.forall_mem_cons.mpr ⟨lw_p17, List.forall_mem_cons.mpr ⟨lw_p18, List.forall_mem_cons.mpr ⟨lw_p19, List.forall_mem_cons.mpr ⟨lw_p20, List.forall_mem_cons.mpr ⟨lw_p21, List.forall_mem_cons.mpr ⟨lw_p22, List.forall_mem_cons.mpr ⟨lw_p23, List.forall_mem_cons.mpr ⟨lw_p24, List.forall_mem_cons.mpr ⟨lw_p25, List.forall_mem_cons.mpr ⟨lw_p26, List.forall_mem_cons.mpr ⟨lw_p27, List.forall_mem_cons.mpr ⟨lw_p28, List.forall_mem_cons.mpr ⟨lw_p29, List.forall_mem_cons.mpr ⟨lw_p30, List.forall_mem_cons.mpr ⟨lw_p31, fun _ h => absurd h List.not_mem_nil⟩⟩⟩⟩⟩⟩⟩⟩⟩⟩⟩⟩⟩⟩⟩⟩
def lw_privs_2 : List (MethodName × Nat) := [(⟨"ShareHouse", "close", "(LShareHouse$Asked;LShareHouse$Open;)I"⟩, 18), (⟨"ShareHouse", "flush", "(LShareHouse$Open;)I"⟩, 18), (⟨"ShareHouse", "read", "(LShareHouse$Asked;LShareHouse$Open;)I"⟩, 18), (⟨"ShareHouse", "write", "(LShareHouse$Asked;LShareHouse$Open;)I"⟩, 18), (⟨"ShareHouse", "lock", "(LShareHouse$Asked;LShareHouse$Open;)I"⟩, 18), (⟨"ShareHouse", "queryDirectory", "(LShareHouse$Asked;LShareHouse$Open;)I"⟩, 18), (⟨"ShareHouse", "queryInfo", "(LShareHouse$Asked;LShareHouse$Open;)I"⟩, 18), (⟨"ShareHouse", "setInfo", "(LShareHouse$Asked;LShareHouse$Open;)I"⟩, 18), (⟨"ShareHouse", "answerBreak", "(LShareHouse$Asked;LShareHouse$Open;)I"⟩, 18), (⟨"ShareHouse", "nextSerial", "(I)J"⟩, 18), (⟨"ShareHouse", "sendLater", "(LShareHouse$Asked;I)V"⟩, 18), (⟨"ShareHouse", "giveUp", "(LShareHouse$Conn;LShareHouse$Session;LShareHouse$TreeLink;)V"⟩, 18), (⟨"ShareHouse", "wakeLocks", "()V"⟩, 18), (⟨"ShareHouse", "nextAgain", "()LShareHouse$Asked;"⟩, 18), (⟨"ShareHouse", "nextClosing", "()LShareHouse$Open;"⟩, 18), (⟨"ShareHouse", "tryOpen", "(LShareHouse$Asked;LShareHouse$Row;)I"⟩, 18)]
theorem lw_privs_2_ok : ∀ q ∈ lw_privs_2, lw_okq q := List.forall_mem_cons.mpr ⟨lw_p32, List.forall_mem_cons.mpr ⟨lw_p33, List.forall_mem_cons.mpr ⟨lw_p34, List.forall_mem_cons.mpr ⟨lw_p35, List.forall_mem_cons.mpr ⟨lw_p36, List.forall_mem_cons.mpr ⟨lw_p37, List.forall_mem_cons.mpr ⟨lw_p38, List.forall_mem_cons.mpr ⟨lw_p39, List.forall_mem_cons.mpr ⟨lw_p40, List.forall_mem_cons.mpr ⟨lw_p41, List.forall_mem_cons.mpr ⟨lw_p42, List.forall_mem_cons.mpr ⟨lw_p43, List.forall_mem_cons.mpr ⟨lw_p44, List.forall_mem_cons.mpr ⟨lw_p45, List.forall_mem_cons.mpr ⟨lw_p46, List.forall_mem_cons.mpr ⟨lw_p47, fun _ h => absurd h List.not_mem_nil⟩⟩⟩⟩⟩⟩⟩⟩⟩⟩⟩⟩⟩⟩⟩⟩
def lw_privs_3 : List (MethodName × Nat) := [(⟨"ShareHouse", "stopWaiting", "(LShareHouse$Asked;)V"⟩, 18), (⟨"ShareHouse", "closeOpen", "(LShareHouse$Open;)V"⟩, 18), (⟨"ShareHouse", "canBe", "(LShareHouse$Lock;)Z"⟩, 18), (⟨"ShareHouse", "firstEndingSession", "()I"⟩, 18), (⟨"ShareHouse", "firstEndingTree", "(LShareHouse$Session;)I"⟩, 18), (⟨"ShareHouse", "firstOpenOf", "(LShareHouse$TreeLink;)LShareHouse$Open;"⟩, 18), (⟨"ShareHouse", "cancelLocksThatWait", "(LShareHouse$Open;)V"⟩, 18), (⟨"ShareHouse", "isOpened", "(LShareHouse$Node;)Z"⟩, 18), (⟨"ShareHouse", "done", "(LShareHouse$Change;)V"⟩, 18), (⟨"ShareHouse", "doAgain", "(LShareHouse$Node;)V"⟩, 18), (⟨"ShareHouse", "beginWaiting", "(LShareHouse$Asked;)I"⟩, 18), (⟨"ShareHouse", "walk", "(LShareHouse$Wish;LShareHouse$Node;)Z"⟩, 18), (⟨"ShareHouse", "openNew", "(LShareHouse$Asked;LShareHouse$Wish;LShareHouse$Row;)I"⟩, 18), (⟨"ShareHouse", "openThere", "(LShareHouse$Asked;LShareHouse$Wish;LShareHouse$Row;)I"⟩, 18), (⟨"ShareHouse", "addOpen", "(LShareHouse$Asked;LShareHouse$Node;ILShareHouse$Row;)V"⟩, 18), (⟨"ShareHouse", "refusal", "(LShareHouse$Node;LShareHouse$Wish;)I"⟩, 18)]
theorem lw_privs_3_ok : ∀ q ∈ lw_privs_3, lw_okq q := List.forall_mem_cons.mpr ⟨lw_p48, List.forall_mem_cons.mpr ⟨lw_p49, List.forall_mem_cons.mpr ⟨lw_p50, List.forall_mem_cons.mpr ⟨lw_p51, List.forall_mem_cons.mpr ⟨lw_p52, List.forall_mem_cons.mpr ⟨lw_p53, List.forall_mem_cons.mpr ⟨lw_p54, List.forall_mem_cons.mpr ⟨lw_p55, List.forall_mem_cons.mpr ⟨lw_p56, List.forall_mem_cons.mpr ⟨lw_p57, List.forall_mem_cons.mpr ⟨lw_p58, List.forall_mem_cons.mpr ⟨lw_p59, List.forall_mem_cons.mpr ⟨lw_p60, List.forall_mem_cons.mpr ⟨lw_p61, List.forall_mem_cons.mpr ⟨lw_p62, List.forall_mem_cons.mpr ⟨lw_p63, fun _ h => absurd h List.not_mem_nil⟩⟩⟩⟩⟩⟩⟩⟩⟩⟩⟩⟩⟩⟩⟩⟩
def lw_privs_4 : List (MethodName × Nat) := [(⟨"ShareHouse", "holder", "(LShareHouse$Node;)LShareHouse$Open;"⟩, 18), (⟨"ShareHouse", "waitFor", "(LShareHouse$Asked;LShareHouse$Open;)I"⟩, 18), (⟨"ShareHouse", "sharesWithOthers", "(LShareHouse$Node;LShareHouse$Wish;)Z"⟩, 18), (⟨"ShareHouse", "breakLevelTwo", "(LShareHouse$Node;LShareHouse$Open;)V"⟩, 18), (⟨"ShareHouse", "sendBreak", "(LShareHouse$Open;I)V"⟩, 18), (⟨"ShareHouse", "granted", "(LShareHouse$Node;I)I"⟩, 18), (⟨"ShareHouse", "hasLocks", "(LShareHouse$Node;)Z"⟩, 18), (⟨"ShareHouse", "othersLock", "(LShareHouse$Open;JJZ)Z"⟩, 18), (⟨"ShareHouse", "ownSharedLock", "(LShareHouse$Open;JJ)Z"⟩, 18), (⟨"ShareHouse", "unlockEach", "(LShareHouse$Asked;LShareHouse$Open;I)I"⟩, 18), (⟨"ShareHouse", "lockAll", "(LShareHouse$Asked;LShareHouse$Open;I)I"⟩, 18), (⟨"ShareHouse", "eldestLock", "(LShareHouse$Open;JJ)I"⟩, 18), (⟨"ShareHouse", "undoLocks", "(I)V"⟩, 18), (⟨"ShareHouse", "list", "(LShareHouse$Open;III)I"⟩, 18), (⟨"ShareHouse", "nextStage", "(LShareHouse$Open;)I"⟩, 18), (⟨"ShareHouse", "entryNode", "(LShareHouse$Open;I)LShareHouse$Node;"⟩, 18)]
theorem lw_privs_4_ok : ∀ q ∈ lw_privs_4, lw_okq q := List.forall_mem_cons.mpr ⟨lw_p64, List.forall_mem_cons.mpr ⟨lw_p65, List.forall_mem_cons.mpr ⟨lw_p66, List.forall_mem_cons.mpr ⟨lw_p67, List.forall_mem_cons.mpr ⟨lw_p68, List.forall_mem_cons.mpr ⟨lw_p69, List.forall_mem_cons.mpr ⟨lw_p70, List.forall_mem_cons.mpr ⟨lw_p71, List.forall_mem_cons.mpr ⟨lw_p72, List.forall_mem_cons.mpr ⟨lw_p73, List.forall_mem_cons.mpr ⟨lw_p74, List.forall_mem_cons.mpr ⟨lw_p75, List.forall_mem_cons.mpr ⟨lw_p76, List.forall_mem_cons.mpr ⟨lw_p77, List.forall_mem_cons.mpr ⟨lw_p78, List.forall_mem_cons.mpr ⟨lw_p79, fun _ h => absurd h List.not_mem_nil⟩⟩⟩⟩⟩⟩⟩⟩⟩⟩⟩⟩⟩⟩⟩⟩
def lw_privs_5 : List (MethodName × Nat) := [(⟨"ShareHouse", "putEntry", "(IILShareHouse$Node;[BI)V"⟩, 18), (⟨"ShareHouse", "setValues", "(LShareHouse$Asked;LShareHouse$Open;I)I"⟩, 18), (⟨"ShareHouse", "setSize", "(LShareHouse$Open;J)I"⟩, 18), (⟨"ShareHouse", "setToGo", "(LShareHouse$Node;Z)I"⟩, 18), (⟨"ShareHouse", "rename", "(LShareHouse$Asked;LShareHouse$Open;IJ)I"⟩, 18), (⟨"ShareHouse", "isOpenedBelow", "(LShareHouse$Node;)Z"⟩, 18), (⟨"ShareHouseModel", "begin", "()V"⟩, 120), (⟨"ShareHouseModel", "lay", "(I)V"⟩, 120), (⟨"ShareHouseModel", "apply", "(II)V"⟩, 120), (⟨"ShareHouseModel", "allCome", "()V"⟩, 120), (⟨"ShareHouseModel", "come", "(IZ)V"⟩, 120), (⟨"ShareHouseModel", "zero", "(III)V"⟩, 120), (⟨"ShareHouseModel", "copyNode", "(II)V"⟩, 120), (⟨"ShareHouseModel", "nodes", "(I)I"⟩, 120), (⟨"ShareHouseModel", "freeNode", "()I"⟩, 120), (⟨"ShareHouseModel", "drops", "(I)V"⟩, 120)]
theorem lw_privs_5_ok : ∀ q ∈ lw_privs_5, lw_okq q := List.forall_mem_cons.mpr ⟨lw_p80, List.forall_mem_cons.mpr ⟨lw_p81, List.forall_mem_cons.mpr ⟨lw_p82, List.forall_mem_cons.mpr ⟨lw_p83, List.forall_mem_cons.mpr ⟨lw_p84, List.forall_mem_cons.mpr ⟨lw_p85, List.forall_mem_cons.mpr ⟨lw_p86, List.forall_mem_cons.mpr ⟨lw_p87, List.forall_mem_cons.mpr ⟨lw_p88, List.forall_mem_cons.mpr ⟨lw_p89, List.forall_mem_cons.mpr ⟨lw_p90, List.forall_mem_cons.mpr ⟨lw_p91, List.forall_mem_cons.mpr ⟨lw_p92, List.forall_mem_cons.mpr ⟨lw_p93, List.forall_mem_cons.mpr ⟨lw_p94, List.forall_mem_cons.mpr ⟨lw_p95, fun _ h => absurd h List.not_mem_nil⟩⟩⟩⟩⟩⟩⟩⟩⟩⟩⟩⟩⟩⟩⟩⟩
def lw_privs_6 : List (MethodName × Nat) := [(⟨"ShareHouseModel", "forget", "(I)V"⟩, 120), (⟨"ShareHouseModel", "eldestSession", "(I)I"⟩, 120), (⟨"ShareHouseModel", "endSession", "(I)V"⟩, 120), (⟨"ShareHouseModel", "eldestTree", "(I)I"⟩, 120), (⟨"ShareHouseModel", "endTree", "(I)V"⟩, 120), (⟨"ShareHouseModel", "eldestOpen", "(I)I"⟩, 120), (⟨"ShareHouseModel", "closes", "(I)V"⟩, 120), (⟨"ShareHouseModel", "message", "(III)V"⟩, 120), (⟨"ShareHouseModel", "number", "(II)J"⟩, 120), (⟨"ShareHouseModel", "set", "(IIJ)V"⟩, 120), (⟨"ShareHouseModel", "headerGood", "(I)Z"⟩, 120), (⟨"ShareHouseModel", "number2", "(I)I"⟩, 120), (⟨"ShareHouseModel", "takeId", "(IJ)Z"⟩, 120), (⟨"ShareHouseModel", "request", "(IJ)V"⟩, 120), (⟨"ShareHouseModel", "send", "(III)V"⟩, 120), (⟨"ShareHouseModel", "cancel", "(IJ)V"⟩, 120)]
theorem lw_privs_6_ok : ∀ q ∈ lw_privs_6, lw_okq q := List.forall_mem_cons.mpr ⟨lw_p96, List.forall_mem_cons.mpr ⟨lw_p97, List.forall_mem_cons.mpr ⟨lw_p98, List.forall_mem_cons.mpr ⟨lw_p99, List.forall_mem_cons.mpr ⟨lw_p100, List.forall_mem_cons.mpr ⟨lw_p101, List.forall_mem_cons.mpr ⟨lw_p102, List.forall_mem_cons.mpr ⟨lw_p103, List.forall_mem_cons.mpr ⟨lw_p104, List.forall_mem_cons.mpr ⟨lw_p105, List.forall_mem_cons.mpr ⟨lw_p106, List.forall_mem_cons.mpr ⟨lw_p107, List.forall_mem_cons.mpr ⟨lw_p108, List.forall_mem_cons.mpr ⟨lw_p109, List.forall_mem_cons.mpr ⟨lw_p110, List.forall_mem_cons.mpr ⟨lw_p111, fun _ h => absurd h List.not_mem_nil⟩⟩⟩⟩⟩⟩⟩⟩⟩⟩⟩⟩⟩⟩⟩⟩
def lw_privs_7 : List (MethodName × Nat) := [(⟨"ShareHouseModel", "does", "()J"⟩, 120), (⟨"ShareHouseModel", "body", "(I)V"⟩, 120), (⟨"ShareHouseModel", "grant", "(II)I"⟩, 120), (⟨"ShareHouseModel", "header", "(JIIIJJJJ)V"⟩, 120), (⟨"ShareHouseModel", "lies", "(JJ)Z"⟩, 120), (⟨"ShareHouseModel", "findSession", "(J)I"⟩, 120), (⟨"ShareHouseModel", "findTree", "(J)I"⟩, 120), (⟨"ShareHouseModel", "isBody", "()Z"⟩, 120), (⟨"ShareHouseModel", "openBy", "(J)I"⟩, 120), (⟨"ShareHouseModel", "negotiate", "()J"⟩, 120), (⟨"ShareHouseModel", "setUp", "()J"⟩, 120), (⟨"ShareHouseModel", "small", "(I)J"⟩, 120), (⟨"ShareHouseModel", "connectTree", "()J"⟩, 120), (⟨"ShareHouseModel", "create", "(I)J"⟩, 120), (⟨"ShareHouseModel", "close", "()J"⟩, 120), (⟨"ShareHouseModel", "flush", "()J"⟩, 120)]
theorem lw_privs_7_ok : ∀ q ∈ lw_privs_7, lw_okq q := List.forall_mem_cons.mpr ⟨lw_p112, List.forall_mem_cons.mpr ⟨lw_p113, List.forall_mem_cons.mpr ⟨lw_p114, List.forall_mem_cons.mpr ⟨lw_p115, List.forall_mem_cons.mpr ⟨lw_p116, List.forall_mem_cons.mpr ⟨lw_p117, List.forall_mem_cons.mpr ⟨lw_p118, List.forall_mem_cons.mpr ⟨lw_p119, List.forall_mem_cons.mpr ⟨lw_p120, List.forall_mem_cons.mpr ⟨lw_p121, List.forall_mem_cons.mpr ⟨lw_p122, List.forall_mem_cons.mpr ⟨lw_p123, List.forall_mem_cons.mpr ⟨lw_p124, List.forall_mem_cons.mpr ⟨lw_p125, List.forall_mem_cons.mpr ⟨lw_p126, List.forall_mem_cons.mpr ⟨lw_p127, fun _ h => absurd h List.not_mem_nil⟩⟩⟩⟩⟩⟩⟩⟩⟩⟩⟩⟩⟩⟩⟩⟩
def lw_privs_8 : List (MethodName × Nat) := [(⟨"ShareHouseModel", "read", "()J"⟩, 120), (⟨"ShareHouseModel", "write", "()J"⟩, 120), (⟨"ShareHouseModel", "lock", "()J"⟩, 120), (⟨"ShareHouseModel", "list", "()J"⟩, 120), (⟨"ShareHouseModel", "ask", "()J"⟩, 120), (⟨"ShareHouseModel", "setInfo", "()J"⟩, 120), (⟨"ShareHouseModel", "broken", "()J"⟩, 120), (⟨"ShareHouseModel", "late", "(IJ)V"⟩, 120), (⟨"ShareHouseModel", "tellBreak", "(II)V"⟩, 120), (⟨"ShareHouseModel", "give", "(IJ)V"⟩, 120), (⟨"ShareHouseModel", "again", "(I)Z"⟩, 120), (⟨"ShareHouseModel", "number1", "(I)I"⟩, 120), (⟨"ShareHouseModel", "vacant", "([J)I"⟩, 120), (⟨"ShareHouseModel", "child", "(II)I"⟩, 120), (⟨"ShareHouseModel", "waitFor", "(IJ)I"⟩, 120), (⟨"ShareHouseModel", "readPath", "(IJ)Z"⟩, 120)]
theorem lw_privs_8_ok : ∀ q ∈ lw_privs_8, lw_okq q := List.forall_mem_cons.mpr ⟨lw_p128, List.forall_mem_cons.mpr ⟨lw_p129, List.forall_mem_cons.mpr ⟨lw_p130, List.forall_mem_cons.mpr ⟨lw_p131, List.forall_mem_cons.mpr ⟨lw_p132, List.forall_mem_cons.mpr ⟨lw_p133, List.forall_mem_cons.mpr ⟨lw_p134, List.forall_mem_cons.mpr ⟨lw_p135, List.forall_mem_cons.mpr ⟨lw_p136, List.forall_mem_cons.mpr ⟨lw_p137, List.forall_mem_cons.mpr ⟨lw_p138, List.forall_mem_cons.mpr ⟨lw_p139, List.forall_mem_cons.mpr ⟨lw_p140, List.forall_mem_cons.mpr ⟨lw_p141, List.forall_mem_cons.mpr ⟨lw_p142, List.forall_mem_cons.mpr ⟨lw_p143, fun _ h => absurd h List.not_mem_nil⟩⟩⟩⟩⟩⟩⟩⟩⟩⟩⟩⟩⟩⟩⟩⟩
def lw_privs_9 : List (MethodName × Nat) := [(⟨"ShareHouseModel", "goes", "(I)Z"⟩, 120), (⟨"ShareHouseModel", "there", "(IIIIIZZZZI)J"⟩, 120), (⟨"ShareHouseModel", "emptyIt", "(II)V"⟩, 120), (⟨"ShareHouseModel", "count", "([J)I"⟩, 120), (⟨"ShareHouseModel", "makeNode", "(ZI)I"⟩, 120), (⟨"ShareHouseModel", "granted", "(II)I"⟩, 120), (⟨"ShareHouseModel", "setTimes", "(II)V"⟩, 120), (⟨"ShareHouseModel", "room", "(I)I"⟩, 120), (⟨"ShareHouseModel", "shown", "(I)I"⟩, 120), (⟨"ShareHouseModel", "openWith", "(II)I"⟩, 120), (⟨"ShareHouseModel", "waitsFor", "(II)J"⟩, 120), (⟨"ShareHouseModel", "breaks", "(II)V"⟩, 120), (⟨"ShareHouseModel", "isShared", "(III)Z"⟩, 120), (⟨"ShareHouseModel", "record", "(II)I"⟩, 120), (⟨"ShareHouseModel", "done", "()V"⟩, 120), (⟨"ShareHouseModel", "breakSecond", "(II)V"⟩, 120)]
theorem lw_privs_9_ok : ∀ q ∈ lw_privs_9, lw_okq q := List.forall_mem_cons.mpr ⟨lw_p144, List.forall_mem_cons.mpr ⟨lw_p145, List.forall_mem_cons.mpr ⟨lw_p146, List.forall_mem_cons.mpr ⟨lw_p147, List.forall_mem_cons.mpr ⟨lw_p148, List.forall_mem_cons.mpr ⟨lw_p149, List.forall_mem_cons.mpr ⟨lw_p150, List.forall_mem_cons.mpr ⟨lw_p151, List.forall_mem_cons.mpr ⟨lw_p152, List.forall_mem_cons.mpr ⟨lw_p153, List.forall_mem_cons.mpr ⟨lw_p154, List.forall_mem_cons.mpr ⟨lw_p155, List.forall_mem_cons.mpr ⟨lw_p156, List.forall_mem_cons.mpr ⟨lw_p157, List.forall_mem_cons.mpr ⟨lw_p158, List.forall_mem_cons.mpr ⟨lw_p159, fun _ h => absurd h List.not_mem_nil⟩⟩⟩⟩⟩⟩⟩⟩⟩⟩⟩⟩⟩⟩⟩⟩
def lw_privs_10 : List (MethodName × Nat) := [(⟨"ShareHouseModel", "nameIt", "(II)V"⟩, 120), (⟨"ShareHouseModel", "isOpened", "(I)Z"⟩, 120), (⟨"ShareHouseModel", "unlock", "(I)V"⟩, 120), (⟨"ShareHouseModel", "isEmpty", "(I)Z"⟩, 120), (⟨"ShareHouseModel", "lookLocks", "()V"⟩, 120), (⟨"ShareHouseModel", "redo", "(I)V"⟩, 120), (⟨"ShareHouseModel", "canBe", "(IJJZ)Z"⟩, 120), (⟨"ShareHouseModel", "addLock", "(JIJJZ)V"⟩, 120), (⟨"ShareHouseModel", "unlocks", "(I)J"⟩, 120), (⟨"ShareHouseModel", "locksAll", "(II)J"⟩, 120), (⟨"ShareHouseModel", "matches", "(III)Z"⟩, 120), (⟨"ShareHouseModel", "against", "(II)I"⟩, 120), (⟨"ShareHouseModel", "between", "(II)I"⟩, 120), (⟨"ShareHouseModel", "findNext", "(I)Z"⟩, 120), (⟨"ShareHouseModel", "entryAt", "(III)V"⟩, 120), (⟨"ShareHouseModel", "remember", "(I)V"⟩, 120)]
theorem lw_privs_10_ok : ∀ q ∈ lw_privs_10, lw_okq q := List.forall_mem_cons.mpr ⟨lw_p160, List.forall_mem_cons.mpr ⟨lw_p161, List.forall_mem_cons.mpr ⟨lw_p162, List.forall_mem_cons.mpr ⟨lw_p163, List.forall_mem_cons.mpr ⟨lw_p164, List.forall_mem_cons.mpr ⟨lw_p165, List.forall_mem_cons.mpr ⟨lw_p166, List.forall_mem_cons.mpr ⟨lw_p167, List.forall_mem_cons.mpr ⟨lw_p168, List.forall_mem_cons.mpr ⟨lw_p169, List.forall_mem_cons.mpr ⟨lw_p170, List.forall_mem_cons.mpr ⟨lw_p171, List.forall_mem_cons.mpr ⟨lw_p172, List.forall_mem_cons.mpr ⟨lw_p173, List.forall_mem_cons.mpr ⟨lw_p174, List.forall_mem_cons.mpr ⟨lw_p175, fun _ h => absurd h List.not_mem_nil⟩⟩⟩⟩⟩⟩⟩⟩⟩⟩⟩⟩⟩⟩⟩⟩
def lw_privs_11 : List (MethodName × Nat) := [(⟨"ShareHouseModel", "standard", "(II)V"⟩, 120), (⟨"ShareHouseModel", "basic", "(II)V"⟩, 120), (⟨"ShareHouseModel", "setBasic", "(II)J"⟩, 120), (⟨"ShareHouseModel", "setSize", "(II)J"⟩, 120), (⟨"ShareHouseModel", "setToGo", "(II)J"⟩, 120), (⟨"ShareHouseModel", "rename", "(IIJ)J"⟩, 120), (⟨"ShareHouseModel", "isBelow", "(II)Z"⟩, 120), (⟨"java/util/ArrayList", "grow", "(I)[Ljava/lang/Object;"⟩, 3), (⟨"java/util/ArrayList", "grow", "()[Ljava/lang/Object;"⟩, 3), (⟨"java/util/ArrayList", "add", "(Ljava/lang/Object;[Ljava/lang/Object;I)V"⟩, 3), (⟨"java/util/ArrayList", "fastRemove", "([Ljava/lang/Object;I)V"⟩, 3)]
theorem lw_privs_11_ok : ∀ q ∈ lw_privs_11, lw_okq q := List.forall_mem_cons.mpr ⟨lw_p176, List.forall_mem_cons.mpr ⟨lw_p177, List.forall_mem_cons.mpr ⟨lw_p178, List.forall_mem_cons.mpr ⟨lw_p179, List.forall_mem_cons.mpr ⟨lw_p180, List.forall_mem_cons.mpr ⟨lw_p181, List.forall_mem_cons.mpr ⟨lw_p182, List.forall_mem_cons.mpr ⟨lw_p183, List.forall_mem_cons.mpr ⟨lw_p184, List.forall_mem_cons.mpr ⟨lw_p185, List.forall_mem_cons.mpr ⟨lw_p186, fun _ h => absurd h List.not_mem_nil⟩⟩⟩⟩⟩⟩⟩⟩⟩⟩⟩
def lw_privs : List (MethodName × Nat) := lw_privs_0 ++ (lw_privs_1 ++ (lw_privs_2 ++ (lw_privs_3 ++ (lw_privs_4 ++ (lw_privs_5 ++ (lw_privs_6 ++ (lw_privs_7 ++ (lw_privs_8 ++ (lw_privs_9 ++ (lw_privs_10 ++ (lw_privs_11)))))))))))
theorem lw_privs_ok : ∀ q ∈ lw_privs, lw_okq q := by
  show ∀ q ∈ lw_privs_0 ++ (lw_privs_1 ++ (lw_privs_2 ++ (lw_privs_3 ++ (lw_privs_4 ++ (lw_privs_5 ++ (lw_privs_6 ++ (lw_privs_7 ++ (lw_privs_8 ++ (lw_privs_9 ++ (lw_privs_10 ++ (lw_privs_11))))))))))), lw_okq q
  exact List.forall_mem_append.mpr ⟨lw_privs_0_ok, List.forall_mem_append.mpr ⟨lw_privs_1_ok, List.forall_mem_append.mpr ⟨lw_privs_2_ok, List.forall_mem_append.mpr ⟨lw_privs_3_ok, List.forall_mem_append.mpr ⟨lw_privs_4_ok, List.forall_mem_append.mpr ⟨lw_privs_5_ok, List.forall_mem_append.mpr ⟨lw_privs_6_ok, List.forall_mem_append.mpr ⟨lw_privs_7_ok, List.forall_mem_append.mpr ⟨lw_privs_8_ok, List.forall_mem_append.mpr ⟨lw_privs_9_ok, List.forall_mem_append.mpr ⟨lw_privs_10_ok, lw_privs_11_ok⟩⟩⟩⟩⟩⟩⟩⟩⟩⟩⟩
def lw_tbl : List Cond := k2_sels lw_privs ++ tables_1
def RX12 : String := "ShareHouseModel"
def TX12 : u_T := fun k => match k with
  | 0 => ("ShareHouseModel", "tape", "[B", true)
  | 1 => ("ShareHouseModel", "tapeSize", "I", false)
  | 2 => ("ShareHouseModel", "now", "J", false)
  | 3 => ("ShareHouseModel", "is", "[Z", true)
  | 4 => ("ShareHouseModel", "above", "[I", true)
  | 5 => ("ShareHouseModel", "isDir", "[Z", true)
  | 6 => ("ShareHouseModel", "names", "[B", true)
  | 7 => ("ShareHouseModel", "nameSize", "[I", true)
  | 8 => ("ShareHouseModel", "attributes", "[I", true)
  | 9 => ("ShareHouseModel", "times", "[J", true)
  | 10 => ("ShareHouseModel", "sizes", "[I", true)
  | 11 => ("ShareHouseModel", "bytes", "[B", true)
  | 12 => ("ShareHouseModel", "isToGo", "[Z", true)
  | 13 => ("ShareHouseModel", "shareRoot", "[I", true)
  | 14 => ("ShareHouseModel", "shareNames", "[B", true)
  | 15 => ("ShareHouseModel", "shareSize", "[I", true)
  | 16 => ("ShareHouseModel", "records", "I", false)
  | 17 => ("ShareHouseModel", "rKind", "[I", true)
  | 18 => ("ShareHouseModel", "rNode", "[I", true)
  | 19 => ("ShareHouseModel", "rAbove", "[I", true)
  | 20 => ("ShareHouseModel", "rDir", "[Z", true)
  | 21 => ("ShareHouseModel", "rName", "[B", true)
  | 22 => ("ShareHouseModel", "rNameSize", "[I", true)
  | 23 => ("ShareHouseModel", "rAttributes", "[I", true)
  | 24 => ("ShareHouseModel", "rTimes", "[J", true)
  | 25 => ("ShareHouseModel", "rFrom", "[I", true)
  | 26 => ("ShareHouseModel", "rMany", "[I", true)
  | 27 => ("ShareHouseModel", "rBytes", "[B", true)
  | 28 => ("ShareHouseModel", "isConnected", "[Z", true)
  | 29 => ("ShareHouseModel", "isAgreed", "[Z", true)
  | 30 => ("ShareHouseModel", "outs", "[B", true)
  | 31 => ("ShareHouseModel", "outSize", "[I", true)
  | 32 => ("ShareHouseModel", "ins", "[B", true)
  | 33 => ("ShareHouseModel", "inSize", "[I", true)
  | 34 => ("ShareHouseModel", "free", "[J", true)
  | 35 => ("ShareHouseModel", "frees", "[I", true)
  | 36 => ("ShareHouseModel", "highest", "[J", true)
  | 37 => ("ShareHouseModel", "sessionSerial", "[J", true)
  | 38 => ("ShareHouseModel", "sessionOn", "[I", true)
  | 39 => ("ShareHouseModel", "users", "[B", true)
  | 40 => ("ShareHouseModel", "userSize", "[I", true)
  | 41 => ("ShareHouseModel", "treeSerial", "[J", true)
  | 42 => ("ShareHouseModel", "treeOf", "[I", true)
  | 43 => ("ShareHouseModel", "treeShare", "[I", true)
  | 44 => ("ShareHouseModel", "openSerial", "[J", true)
  | 45 => ("ShareHouseModel", "openTree", "[I", true)
  | 46 => ("ShareHouseModel", "openNode", "[I", true)
  | 47 => ("ShareHouseModel", "access", "[I", true)
  | 48 => ("ShareHouseModel", "shares", "[I", true)
  | 49 => ("ShareHouseModel", "oplock", "[I", true)
  | 50 => ("ShareHouseModel", "isBroken", "[Z", true)
  | 51 => ("ShareHouseModel", "brokenTo", "[I", true)
  | 52 => ("ShareHouseModel", "brokenAt", "[J", true)
  | 53 => ("ShareHouseModel", "goesOnClose", "[Z", true)
  | 54 => ("ShareHouseModel", "patternSize", "[I", true)
  | 55 => ("ShareHouseModel", "patterns", "[I", true)
  | 56 => ("ShareHouseModel", "lastKind", "[I", true)
  | 57 => ("ShareHouseModel", "lastName", "[B", true)
  | 58 => ("ShareHouseModel", "lastSize", "[I", true)
  | 59 => ("ShareHouseModel", "sessionRow", "J", false)
  | 60 => ("ShareHouseModel", "treeRow", "J", false)
  | 61 => ("ShareHouseModel", "openRow", "J", false)
  | 62 => ("ShareHouseModel", "asyncRow", "J", false)
  | 63 => ("ShareHouseModel", "locks", "I", false)
  | 64 => ("ShareHouseModel", "lockOpen", "[J", true)
  | 65 => ("ShareHouseModel", "lockNode", "[I", true)
  | 66 => ("ShareHouseModel", "lockFrom", "[J", true)
  | 67 => ("ShareHouseModel", "lockMany", "[J", true)
  | 68 => ("ShareHouseModel", "lockShared", "[Z", true)
  | 69 => ("ShareHouseModel", "waits", "I", false)
  | 70 => ("ShareHouseModel", "wOn", "[I", true)
  | 71 => ("ShareHouseModel", "wCommand", "[I", true)
  | 72 => ("ShareHouseModel", "wCharge", "[I", true)
  | 73 => ("ShareHouseModel", "wRelated", "[Z", true)
  | 74 => ("ShareHouseModel", "wId", "[J", true)
  | 75 => ("ShareHouseModel", "wAsync", "[J", true)
  | 76 => ("ShareHouseModel", "wSession", "[I", true)
  | 77 => ("ShareHouseModel", "wTree", "[I", true)
  | 78 => ("ShareHouseModel", "wOpen", "[J", true)
  | 79 => ("ShareHouseModel", "wNode", "[I", true)
  | 80 => ("ShareHouseModel", "wFrom", "[J", true)
  | 81 => ("ShareHouseModel", "wMany", "[J", true)
  | 82 => ("ShareHouseModel", "wShared", "[Z", true)
  | 83 => ("ShareHouseModel", "wSize", "[I", true)
  | 84 => ("ShareHouseModel", "wBytes", "[B", true)
  | 85 => ("ShareHouseModel", "in", "[B", false)
  | 86 => ("ShareHouseModel", "base", "I", false)
  | 87 => ("ShareHouseModel", "length", "I", false)
  | 88 => ("ShareHouseModel", "line", "I", false)
  | 89 => ("ShareHouseModel", "answer", "[B", true)
  | 90 => ("ShareHouseModel", "start", "I", false)
  | 91 => ("ShareHouseModel", "size", "I", false)
  | 92 => ("ShareHouseModel", "isCut", "Z", false)
  | 93 => ("ShareHouseModel", "command", "I", false)
  | 94 => ("ShareHouseModel", "isRelated", "Z", false)
  | 95 => ("ShareHouseModel", "isLast", "Z", false)
  | 96 => ("ShareHouseModel", "sessionAsked", "J", false)
  | 97 => ("ShareHouseModel", "treeAsked", "J", false)
  | 98 => ("ShareHouseModel", "session", "I", false)
  | 99 => ("ShareHouseModel", "tree", "I", false)
  | 100 => ("ShareHouseModel", "open", "I", false)
  | 101 => ("ShareHouseModel", "fileLow", "J", false)
  | 102 => ("ShareHouseModel", "fileHigh", "J", false)
  | 103 => ("ShareHouseModel", "hasFile", "Z", false)
  | 104 => ("ShareHouseModel", "sessionBefore", "J", false)
  | 105 => ("ShareHouseModel", "treeBefore", "J", false)
  | 106 => ("ShareHouseModel", "lowBefore", "J", false)
  | 107 => ("ShareHouseModel", "highBefore", "J", false)
  | 108 => ("ShareHouseModel", "hadFile", "Z", false)
  | 109 => ("ShareHouseModel", "isWaiting", "Z", false)
  | 110 => ("ShareHouseModel", "answers", "I", false)
  | 111 => ("ShareHouseModel", "opened", "J", false)
  | 112 => ("ShareHouseModel", "units", "[I", true)
  | 113 => ("ShareHouseModel", "partFrom", "[I", true)
  | 114 => ("ShareHouseModel", "partSize", "[I", true)
  | 115 => ("ShareHouseModel", "parts", "I", false)
  | 116 => ("ShareHouseModel", "inside", "I", false)
  | 117 => ("ShareHouseModel", "found", "I", false)
  | 118 => ("ShareHouseModel", "nextKind", "I", false)
  | _ => ("ShareHouseModel", "nextNode", "I", false)
def tyX12 : Nat → FieldType := fun k => match k with
  | 0 => .array .byte
  | 1 => .int
  | 2 => .long
  | 3 => .array .boolean
  | 4 => .array .int
  | 5 => .array .boolean
  | 6 => .array .byte
  | 7 => .array .int
  | 8 => .array .int
  | 9 => .array .long
  | 10 => .array .int
  | 11 => .array .byte
  | 12 => .array .boolean
  | 13 => .array .int
  | 14 => .array .byte
  | 15 => .array .int
  | 16 => .int
  | 17 => .array .int
  | 18 => .array .int
  | 19 => .array .int
  | 20 => .array .boolean
  | 21 => .array .byte
  | 22 => .array .int
  | 23 => .array .int
  | 24 => .array .long
  | 25 => .array .int
  | 26 => .array .int
  | 27 => .array .byte
  | 28 => .array .boolean
  | 29 => .array .boolean
  | 30 => .array .byte
  | 31 => .array .int
  | 32 => .array .byte
  | 33 => .array .int
  | 34 => .array .long
  | 35 => .array .int
  | 36 => .array .long
  | 37 => .array .long
  | 38 => .array .int
  | 39 => .array .byte
  | 40 => .array .int
  | 41 => .array .long
  | 42 => .array .int
  | 43 => .array .int
  | 44 => .array .long
  | 45 => .array .int
  | 46 => .array .int
  | 47 => .array .int
  | 48 => .array .int
  | 49 => .array .int
  | 50 => .array .boolean
  | 51 => .array .int
  | 52 => .array .long
  | 53 => .array .boolean
  | 54 => .array .int
  | 55 => .array .int
  | 56 => .array .int
  | 57 => .array .byte
  | 58 => .array .int
  | 59 => .long
  | 60 => .long
  | 61 => .long
  | 62 => .long
  | 63 => .int
  | 64 => .array .long
  | 65 => .array .int
  | 66 => .array .long
  | 67 => .array .long
  | 68 => .array .boolean
  | 69 => .int
  | 70 => .array .int
  | 71 => .array .int
  | 72 => .array .int
  | 73 => .array .boolean
  | 74 => .array .long
  | 75 => .array .long
  | 76 => .array .int
  | 77 => .array .int
  | 78 => .array .long
  | 79 => .array .int
  | 80 => .array .long
  | 81 => .array .long
  | 82 => .array .boolean
  | 83 => .array .int
  | 84 => .array .byte
  | 85 => .array .byte
  | 86 => .int
  | 87 => .int
  | 88 => .int
  | 89 => .array .byte
  | 90 => .int
  | 91 => .int
  | 92 => .boolean
  | 93 => .int
  | 94 => .boolean
  | 95 => .boolean
  | 96 => .long
  | 97 => .long
  | 98 => .int
  | 99 => .int
  | 100 => .int
  | 101 => .long
  | 102 => .long
  | 103 => .boolean
  | 104 => .long
  | 105 => .long
  | 106 => .long
  | 107 => .long
  | 108 => .boolean
  | 109 => .boolean
  | 110 => .int
  | 111 => .long
  | 112 => .array .int
  | 113 => .array .int
  | 114 => .array .int
  | 115 => .int
  | 116 => .int
  | 117 => .int
  | 118 => .int
  | _ => .int
theorem nmX12 : ∀ a, a < 120 → ∀ b, b < 120 → a ≠ b → (TX12 a).2.1 ≠ (TX12 b).2.1 := by decide +kernel
theorem tyX12_ok : ∀ k, k < 120 → parseFieldDescriptor (TX12 k).2.2.1 = some (tyX12 k) := by decide +kernel
def RX11 : String := "ShareHouse"
def TX11 : u_T := fun k => match k with
  | 0 => ("ShareHouse", "tape", "LShareHouse$Row;", true)
  | 1 => ("ShareHouse", "conns", "[LShareHouse$Conn;", true)
  | 2 => ("ShareHouse", "roots", "[I", true)
  | 3 => ("ShareHouse", "live", "LShareHouse$Volume;", true)
  | 4 => ("ShareHouse", "disk", "LShareHouse$Volume;", true)
  | 5 => ("ShareHouse", "waiting", "[LShareHouse$Change;", true)
  | 6 => ("ShareHouse", "recordsWaiting", "I", false)
  | 7 => ("ShareHouse", "now", "J", false)
  | 8 => ("ShareHouse", "sessions", "Ljava/util/ArrayList;", true)
  | 9 => ("ShareHouse", "trees", "Ljava/util/ArrayList;", true)
  | 10 => ("ShareHouse", "opens", "Ljava/util/ArrayList;", true)
  | 11 => ("ShareHouse", "locks", "Ljava/util/ArrayList;", true)
  | 12 => ("ShareHouse", "waits", "Ljava/util/ArrayList;", true)
  | 13 => ("ShareHouse", "serials", "[J", true)
  | 14 => ("ShareHouse", "reply", "LShareHouse$Row;", true)
  | 15 => ("ShareHouse", "answer", "LShareHouse$Row;", true)
  | 16 => ("ShareHouse", "later", "LShareHouse$Row;", true)
  | _ => ("ShareHouse", "breaking", "LShareHouse$Row;", true)
def tyX11 : Nat → FieldType := fun k => match k with
  | 0 => .object "ShareHouse$Row"
  | 1 => .array (.object "ShareHouse$Conn")
  | 2 => .array .int
  | 3 => .object "ShareHouse$Volume"
  | 4 => .object "ShareHouse$Volume"
  | 5 => .array (.object "ShareHouse$Change")
  | 6 => .int
  | 7 => .long
  | 8 => .object "java/util/ArrayList"
  | 9 => .object "java/util/ArrayList"
  | 10 => .object "java/util/ArrayList"
  | 11 => .object "java/util/ArrayList"
  | 12 => .object "java/util/ArrayList"
  | 13 => .array .long
  | 14 => .object "ShareHouse$Row"
  | 15 => .object "ShareHouse$Row"
  | 16 => .object "ShareHouse$Row"
  | _ => .object "ShareHouse$Row"
theorem nmX11 : ∀ a, a < 18 → ∀ b, b < 18 → a ≠ b → (TX11 a).2.1 ≠ (TX11 b).2.1 := by decide +kernel
theorem tyX11_ok : ∀ k, k < 18 → parseFieldDescriptor (TX11 k).2.2.1 = some (tyX11 k) := by decide +kernel
def RX6 : String := "ShareHouse$Row"
def TX6 : u_T := fun k => match k with
  | 0 => ("ShareHouse$Row", "bytes", "[B", false)
  | _ => ("ShareHouse$Row", "length", "I", false)
def tyX6 : Nat → FieldType := fun k => match k with
  | 0 => .array .byte
  | _ => .int
theorem nmX6 : ∀ a, a < 2 → ∀ b, b < 2 → a ≠ b → (TX6 a).2.1 ≠ (TX6 b).2.1 := by decide +kernel
theorem tyX6_ok : ∀ k, k < 2 → parseFieldDescriptor (TX6 k).2.2.1 = some (tyX6 k) := by decide +kernel
def RX2 : String := "ShareHouse$Conn"
def TX2 : u_T := fun k => match k with
  | 0 => ("ShareHouse$Conn", "there", "Z", false)
  | 1 => ("ShareHouse$Conn", "negotiated", "Z", false)
  | 2 => ("ShareHouse$Conn", "came", "LShareHouse$Row;", true)
  | 3 => ("ShareHouse$Conn", "size", "J", false)
  | 4 => ("ShareHouse$Conn", "sent", "LShareHouse$Row;", true)
  | 5 => ("ShareHouse$Conn", "free", "[J", true)
  | 6 => ("ShareHouse$Conn", "freeCount", "I", false)
  | 7 => ("ShareHouse$Conn", "highest", "J", false)
  | 8 => ("ShareHouse$Conn", "at", "I", false)
  | 9 => ("ShareHouse$Conn", "answerAt", "I", false)
  | 10 => ("ShareHouse$Conn", "beforeSession", "J", false)
  | 11 => ("ShareHouse$Conn", "beforeTree", "J", false)
  | 12 => ("ShareHouse$Conn", "beforeFile", "Z", false)
  | 13 => ("ShareHouse$Conn", "beforeLow", "J", false)
  | _ => ("ShareHouse$Conn", "beforeHigh", "J", false)
def tyX2 : Nat → FieldType := fun k => match k with
  | 0 => .boolean
  | 1 => .boolean
  | 2 => .object "ShareHouse$Row"
  | 3 => .long
  | 4 => .object "ShareHouse$Row"
  | 5 => .array .long
  | 6 => .int
  | 7 => .long
  | 8 => .int
  | 9 => .int
  | 10 => .long
  | 11 => .long
  | 12 => .boolean
  | 13 => .long
  | _ => .long
theorem nmX2 : ∀ a, a < 15 → ∀ b, b < 15 → a ≠ b → (TX2 a).2.1 ≠ (TX2 b).2.1 := by decide +kernel
theorem tyX2_ok : ∀ k, k < 15 → parseFieldDescriptor (TX2 k).2.2.1 = some (tyX2 k) := by decide +kernel
def RX1 : String := "ShareHouse$Change"
def TX1 : u_T := fun k => match k with
  | 0 => ("ShareHouse$Change", "kind", "I", false)
  | 1 => ("ShareHouse$Change", "node", "I", false)
  | 2 => ("ShareHouse$Change", "parent", "I", false)
  | 3 => ("ShareHouse$Change", "directory", "Z", false)
  | 4 => ("ShareHouse$Change", "name", "[B", true)
  | 5 => ("ShareHouse$Change", "nameLength", "I", false)
  | 6 => ("ShareHouse$Change", "attributes", "I", false)
  | 7 => ("ShareHouse$Change", "made", "J", false)
  | 8 => ("ShareHouse$Change", "looked", "J", false)
  | 9 => ("ShareHouse$Change", "written", "J", false)
  | 10 => ("ShareHouse$Change", "changed", "J", false)
  | 11 => ("ShareHouse$Change", "size", "I", false)
  | 12 => ("ShareHouse$Change", "from", "I", false)
  | 13 => ("ShareHouse$Change", "many", "I", false)
  | _ => ("ShareHouse$Change", "bytes", "[B", false)
def tyX1 : Nat → FieldType := fun k => match k with
  | 0 => .int
  | 1 => .int
  | 2 => .int
  | 3 => .boolean
  | 4 => .array .byte
  | 5 => .int
  | 6 => .int
  | 7 => .long
  | 8 => .long
  | 9 => .long
  | 10 => .long
  | 11 => .int
  | 12 => .int
  | 13 => .int
  | _ => .array .byte
theorem nmX1 : ∀ a, a < 15 → ∀ b, b < 15 → a ≠ b → (TX1 a).2.1 ≠ (TX1 b).2.1 := by decide +kernel
theorem tyX1_ok : ∀ k, k < 15 → parseFieldDescriptor (TX1 k).2.2.1 = some (tyX1 k) := by decide +kernel
def RX4 : String := "ShareHouse$Node"
def TX4 : u_T := fun k => match k with
  | 0 => ("ShareHouse$Node", "number", "I", true)
  | 1 => ("ShareHouse$Node", "used", "Z", false)
  | 2 => ("ShareHouse$Node", "directory", "Z", false)
  | 3 => ("ShareHouse$Node", "toGo", "Z", false)
  | 4 => ("ShareHouse$Node", "parent", "I", false)
  | 5 => ("ShareHouse$Node", "name", "[B", true)
  | 6 => ("ShareHouse$Node", "nameLength", "I", false)
  | 7 => ("ShareHouse$Node", "attributes", "I", false)
  | 8 => ("ShareHouse$Node", "made", "J", false)
  | 9 => ("ShareHouse$Node", "looked", "J", false)
  | 10 => ("ShareHouse$Node", "written", "J", false)
  | 11 => ("ShareHouse$Node", "changed", "J", false)
  | 12 => ("ShareHouse$Node", "size", "I", false)
  | _ => ("ShareHouse$Node", "data", "[B", false)
def tyX4 : Nat → FieldType := fun k => match k with
  | 0 => .int
  | 1 => .boolean
  | 2 => .boolean
  | 3 => .boolean
  | 4 => .int
  | 5 => .array .byte
  | 6 => .int
  | 7 => .int
  | 8 => .long
  | 9 => .long
  | 10 => .long
  | 11 => .long
  | 12 => .int
  | _ => .array .byte
theorem nmX4 : ∀ a, a < 14 → ∀ b, b < 14 → a ≠ b → (TX4 a).2.1 ≠ (TX4 b).2.1 := by decide +kernel
theorem tyX4_ok : ∀ k, k < 14 → parseFieldDescriptor (TX4 k).2.2.1 = some (tyX4 k) := by decide +kernel
def RX9 : String := "ShareHouse$Volume"
def TX9 : u_T := fun k => match k with
  | 0 => ("ShareHouse$Volume", "nodes", "[LShareHouse$Node;", true)
  | _ => ("ShareHouse$Volume", "count", "I", false)
def tyX9 : Nat → FieldType := fun k => match k with
  | 0 => .array (.object "ShareHouse$Node")
  | _ => .int
theorem nmX9 : ∀ a, a < 2 → ∀ b, b < 2 → a ≠ b → (TX9 a).2.1 ≠ (TX9 b).2.1 := by decide +kernel
theorem tyX9_ok : ∀ k, k < 2 → parseFieldDescriptor (TX9 k).2.2.1 = some (tyX9 k) := by decide +kernel
def RJx4a65c : String := "java/util/ArrayList"
def TJx4a65c : u_T := fun k => match k with
  | 0 => ("java/util/AbstractList", "modCount", "I", false)
  | 1 => ("java/util/ArrayList", "elementData", "[Ljava/lang/Object;", false)
  | _ => ("java/util/ArrayList", "size", "I", false)
def tyJx4a65c : Nat → FieldType := fun k => match k with
  | 0 => .int
  | 1 => .array (.object "java/lang/Object")
  | _ => .int
theorem nmJx4a65c : ∀ a, a < 3 → ∀ b, b < 3 → a ≠ b → (TJx4a65c a).2.1 ≠ (TJx4a65c b).2.1 := by decide +kernel
theorem tyJx4a65c_ok : ∀ k, k < 3 → parseFieldDescriptor (TJx4a65c k).2.2.1 = some (tyJx4a65c k) := by decide +kernel
def RX0 : String := "ShareHouse$Asked"
def TX0 : u_T := fun k => match k with
  | 0 => ("ShareHouse$Asked", "conn", "LShareHouse$Conn;", true)
  | 1 => ("ShareHouse$Asked", "start", "I", true)
  | 2 => ("ShareHouse$Asked", "length", "I", true)
  | 3 => ("ShareHouse$Asked", "next", "J", true)
  | 4 => ("ShareHouse$Asked", "charge", "I", true)
  | 5 => ("ShareHouse$Asked", "command", "I", true)
  | 6 => ("ShareHouse$Asked", "credits", "I", true)
  | 7 => ("ShareHouse$Asked", "flags", "J", true)
  | 8 => ("ShareHouse$Asked", "id", "J", true)
  | 9 => ("ShareHouse$Asked", "process", "J", true)
  | 10 => ("ShareHouse$Asked", "tree", "J", false)
  | 11 => ("ShareHouse$Asked", "session", "J", false)
  | 12 => ("ShareHouse$Asked", "fileBefore", "Z", true)
  | 13 => ("ShareHouse$Asked", "by", "LShareHouse$Session;", false)
  | 14 => ("ShareHouse$Asked", "through", "LShareHouse$TreeLink;", false)
  | 15 => ("ShareHouse$Asked", "open", "LShareHouse$Open;", false)
  | 16 => ("ShareHouse$Asked", "async", "J", false)
  | 17 => ("ShareHouse$Asked", "wish", "LShareHouse$Wish;", false)
  | 18 => ("ShareHouse$Asked", "node", "LShareHouse$Node;", false)
  | 19 => ("ShareHouse$Asked", "again", "Z", false)
  | _ => ("ShareHouse$Asked", "lock", "LShareHouse$Lock;", false)
def tyX0 : Nat → FieldType := fun k => match k with
  | 0 => .object "ShareHouse$Conn"
  | 1 => .int
  | 2 => .int
  | 3 => .long
  | 4 => .int
  | 5 => .int
  | 6 => .int
  | 7 => .long
  | 8 => .long
  | 9 => .long
  | 10 => .long
  | 11 => .long
  | 12 => .boolean
  | 13 => .object "ShareHouse$Session"
  | 14 => .object "ShareHouse$TreeLink"
  | 15 => .object "ShareHouse$Open"
  | 16 => .long
  | 17 => .object "ShareHouse$Wish"
  | 18 => .object "ShareHouse$Node"
  | 19 => .boolean
  | _ => .object "ShareHouse$Lock"
theorem nmX0 : ∀ a, a < 21 → ∀ b, b < 21 → a ≠ b → (TX0 a).2.1 ≠ (TX0 b).2.1 := by decide +kernel
theorem tyX0_ok : ∀ k, k < 21 → parseFieldDescriptor (TX0 k).2.2.1 = some (tyX0 k) := by decide +kernel
def RX3 : String := "ShareHouse$Lock"
def TX3 : u_T := fun k => match k with
  | 0 => ("ShareHouse$Lock", "open", "LShareHouse$Open;", true)
  | 1 => ("ShareHouse$Lock", "from", "J", true)
  | 2 => ("ShareHouse$Lock", "many", "J", true)
  | _ => ("ShareHouse$Lock", "shared", "Z", true)
def tyX3 : Nat → FieldType := fun k => match k with
  | 0 => .object "ShareHouse$Open"
  | 1 => .long
  | 2 => .long
  | _ => .boolean
theorem nmX3 : ∀ a, a < 4 → ∀ b, b < 4 → a ≠ b → (TX3 a).2.1 ≠ (TX3 b).2.1 := by decide +kernel
theorem tyX3_ok : ∀ k, k < 4 → parseFieldDescriptor (TX3 k).2.2.1 = some (tyX3 k) := by decide +kernel
def RX5 : String := "ShareHouse$Open"
def TX5 : u_T := fun k => match k with
  | 0 => ("ShareHouse$Open", "serial", "J", true)
  | 1 => ("ShareHouse$Open", "tree", "LShareHouse$TreeLink;", true)
  | 2 => ("ShareHouse$Open", "node", "LShareHouse$Node;", true)
  | 3 => ("ShareHouse$Open", "access", "I", false)
  | 4 => ("ShareHouse$Open", "share", "I", false)
  | 5 => ("ShareHouse$Open", "goneOnClose", "Z", false)
  | 6 => ("ShareHouse$Open", "closing", "Z", false)
  | 7 => ("ShareHouse$Open", "oplock", "I", false)
  | 8 => ("ShareHouse$Open", "broken", "Z", false)
  | 9 => ("ShareHouse$Open", "brokenTo", "I", false)
  | 10 => ("ShareHouse$Open", "brokenSince", "J", false)
  | 11 => ("ShareHouse$Open", "pattern", "[I", false)
  | 12 => ("ShareHouse$Open", "stage", "I", false)
  | 13 => ("ShareHouse$Open", "lastName", "[B", true)
  | _ => ("ShareHouse$Open", "lastLength", "I", false)
def tyX5 : Nat → FieldType := fun k => match k with
  | 0 => .long
  | 1 => .object "ShareHouse$TreeLink"
  | 2 => .object "ShareHouse$Node"
  | 3 => .int
  | 4 => .int
  | 5 => .boolean
  | 6 => .boolean
  | 7 => .int
  | 8 => .boolean
  | 9 => .int
  | 10 => .long
  | 11 => .array .int
  | 12 => .int
  | 13 => .array .byte
  | _ => .int
theorem nmX5 : ∀ a, a < 15 → ∀ b, b < 15 → a ≠ b → (TX5 a).2.1 ≠ (TX5 b).2.1 := by decide +kernel
theorem tyX5_ok : ∀ k, k < 15 → parseFieldDescriptor (TX5 k).2.2.1 = some (tyX5 k) := by decide +kernel
def RX7 : String := "ShareHouse$Session"
def TX7 : u_T := fun k => match k with
  | 0 => ("ShareHouse$Session", "serial", "J", true)
  | 1 => ("ShareHouse$Session", "conn", "LShareHouse$Conn;", true)
  | 2 => ("ShareHouse$Session", "name", "[B", true)
  | 3 => ("ShareHouse$Session", "nameLength", "I", true)
  | _ => ("ShareHouse$Session", "ending", "Z", false)
def tyX7 : Nat → FieldType := fun k => match k with
  | 0 => .long
  | 1 => .object "ShareHouse$Conn"
  | 2 => .array .byte
  | 3 => .int
  | _ => .boolean
theorem nmX7 : ∀ a, a < 5 → ∀ b, b < 5 → a ≠ b → (TX7 a).2.1 ≠ (TX7 b).2.1 := by decide +kernel
theorem tyX7_ok : ∀ k, k < 5 → parseFieldDescriptor (TX7 k).2.2.1 = some (tyX7 k) := by decide +kernel
def RX8 : String := "ShareHouse$TreeLink"
def TX8 : u_T := fun k => match k with
  | 0 => ("ShareHouse$TreeLink", "serial", "J", true)
  | 1 => ("ShareHouse$TreeLink", "session", "LShareHouse$Session;", true)
  | 2 => ("ShareHouse$TreeLink", "root", "LShareHouse$Node;", true)
  | _ => ("ShareHouse$TreeLink", "ending", "Z", false)
def tyX8 : Nat → FieldType := fun k => match k with
  | 0 => .long
  | 1 => .object "ShareHouse$Session"
  | 2 => .object "ShareHouse$Node"
  | _ => .boolean
theorem nmX8 : ∀ a, a < 4 → ∀ b, b < 4 → a ≠ b → (TX8 a).2.1 ≠ (TX8 b).2.1 := by decide +kernel
theorem tyX8_ok : ∀ k, k < 4 → parseFieldDescriptor (TX8 k).2.2.1 = some (tyX8 k) := by decide +kernel
def RX10 : String := "ShareHouse$Wish"
def TX10 : u_T := fun k => match k with
  | 0 => ("ShareHouse$Wish", "oplock", "I", false)
  | 1 => ("ShareHouse$Wish", "access", "I", false)
  | 2 => ("ShareHouse$Wish", "attributes", "I", false)
  | 3 => ("ShareHouse$Wish", "share", "I", false)
  | 4 => ("ShareHouse$Wish", "disposition", "I", false)
  | 5 => ("ShareHouse$Wish", "directory", "Z", false)
  | 6 => ("ShareHouse$Wish", "fileAlone", "Z", false)
  | 7 => ("ShareHouse$Wish", "goneOnClose", "Z", false)
  | 8 => ("ShareHouse$Wish", "units", "[I", false)
  | 9 => ("ShareHouse$Wish", "count", "I", false)
  | 10 => ("ShareHouse$Wish", "place", "LShareHouse$Node;", false)
  | 11 => ("ShareHouse$Wish", "found", "LShareHouse$Node;", false)
  | _ => ("ShareHouse$Wish", "nameAt", "I", false)
def tyX10 : Nat → FieldType := fun k => match k with
  | 0 => .int
  | 1 => .int
  | 2 => .int
  | 3 => .int
  | 4 => .int
  | 5 => .boolean
  | 6 => .boolean
  | 7 => .boolean
  | 8 => .array .int
  | 9 => .int
  | 10 => .object "ShareHouse$Node"
  | 11 => .object "ShareHouse$Node"
  | _ => .int
theorem nmX10 : ∀ a, a < 13 → ∀ b, b < 13 → a ≠ b → (TX10 a).2.1 ≠ (TX10 b).2.1 := by decide +kernel
theorem tyX10_ok : ∀ k, k < 13 → parseFieldDescriptor (TX10 k).2.2.1 = some (tyX10 k) := by decide +kernel
def RJ11 : String := "java/lang/Character"
def RJ9 : String := "java/lang/Math"
def RJ0 : String := "java/lang/String"
def RJ1 : String := "java/lang/StringLatin1"
def RJ2 : String := "java/lang/StringUTF16"
def RJxa1e45 : String := "java/util/AbstractCollection"
def RJxc12de : String := "java/util/AbstractList"
def RJ7 : String := "java/util/Arrays"
def RJ15 : String := "java/util/Objects"
def RJ8 : String := "jdk/internal/util/ArraysSupport"
def RJ3 : String := "jdk/internal/util/Preconditions"
def RL : String := "ShareHouseLaw"
abbrev cX0_init : ByteArray := prog_2_method_1_code
def yX0_init : MethodName := ⟨RX0, "<init>", "(LShareHouse$Conn;)V"⟩
abbrev cX0_related : ByteArray := prog_2_method_2_code
def yX0_related : MethodName := ⟨RX0, "related", "()Z"⟩
abbrev cX0_last : ByteArray := prog_2_method_3_code
def yX0_last : MethodName := ⟨RX0, "last", "()Z"⟩
abbrev cX0_number : ByteArray := prog_2_method_4_code
def yX0_number : MethodName := ⟨RX0, "number", "(II)J"⟩
abbrev cX0_stands : ByteArray := prog_2_method_5_code
def yX0_stands : MethodName := ⟨RX0, "stands", "()Z"⟩
abbrev cX0_holdsWhatItTells : ByteArray := prog_2_method_6_code
def yX0_holdsWhatItTells : MethodName := ⟨RX0, "holdsWhatItTells", "()Z"⟩
abbrev cX0_holds : ByteArray := prog_2_method_7_code
def yX0_holds : MethodName := ⟨RX0, "holds", "(JJ)Z"⟩
abbrev cX1_init : ByteArray := prog_3_method_1_code
def yX1_init : MethodName := ⟨RX1, "<init>", "()V"⟩
abbrev cX1_fill : ByteArray := prog_3_method_2_code
def yX1_fill : MethodName := ⟨RX1, "fill", "(ILShareHouse$Node;)V"⟩
abbrev cX1_beginNode : ByteArray := prog_3_method_3_code
def yX1_beginNode : MethodName := ⟨RX1, "beginNode", "(IZIJ)V"⟩
abbrev cX1_takeBytes : ByteArray := prog_3_method_4_code
def yX1_takeBytes : MethodName := ⟨RX1, "takeBytes", "(LShareHouse$Asked;III)V"⟩
abbrev cX2_init : ByteArray := prog_4_method_1_code
def yX2_init : MethodName := ⟨RX2, "<init>", "()V"⟩
abbrev cX2_begin : ByteArray := prog_4_method_2_code
def yX2_begin : MethodName := ⟨RX2, "begin", "()V"⟩
abbrev cX2_vanish : ByteArray := prog_4_method_3_code
def yX2_vanish : MethodName := ⟨RX2, "vanish", "()V"⟩
abbrev cX2_frame : ByteArray := prog_4_method_4_code
def yX2_frame : MethodName := ⟨RX2, "frame", "()I"⟩
abbrev cX2_admits : ByteArray := prog_4_method_5_code
def yX2_admits : MethodName := ⟨RX2, "admits", "(IJ)Z"⟩
abbrev cX2_grant : ByteArray := prog_4_method_6_code
def yX2_grant : MethodName := ⟨RX2, "grant", "(I)I"⟩
abbrev cX2_tellFile : ByteArray := prog_4_method_7_code
def yX2_tellFile : MethodName := ⟨RX2, "tellFile", "(JJ)V"⟩
abbrev cX2_post : ByteArray := prog_4_method_8_code
def yX2_post : MethodName := ⟨RX2, "post", "(LShareHouse$Row;)V"⟩
abbrev cX3_init : ByteArray := prog_5_method_1_code
def yX3_init : MethodName := ⟨RX3, "<init>", "(LShareHouse$Open;JJZ)V"⟩
abbrev cX3_meets : ByteArray := prog_5_method_2_code
def yX3_meets : MethodName := ⟨RX3, "meets", "(JJ)Z"⟩
abbrev cX4_init : ByteArray := prog_6_method_1_code
def yX4_init : MethodName := ⟨RX4, "<init>", "(I)V"⟩
abbrev cX4_toldAttributes : ByteArray := prog_6_method_2_code
def yX4_toldAttributes : MethodName := ⟨RX4, "toldAttributes", "()I"⟩
abbrev cX4_room : ByteArray := prog_6_method_3_code
def yX4_room : MethodName := ⟨RX4, "room", "()I"⟩
abbrev cX4_byteAt : ByteArray := prog_6_method_4_code
def yX4_byteAt : MethodName := ⟨RX4, "byteAt", "(I)I"⟩
abbrev cX4_tellTimes : ByteArray := prog_6_method_5_code
def yX4_tellTimes : MethodName := ⟨RX4, "tellTimes", "(LShareHouse$Row;I)V"⟩
abbrev cX4_tellAll : ByteArray := prog_6_method_6_code
def yX4_tellAll : MethodName := ⟨RX4, "tellAll", "(LShareHouse$Row;)V"⟩
abbrev cX4_tellStanding : ByteArray := prog_6_method_7_code
def yX4_tellStanding : MethodName := ⟨RX4, "tellStanding", "(LShareHouse$Row;I)V"⟩
abbrev cX4_isBehind : ByteArray := prog_6_method_8_code
def yX4_isBehind : MethodName := ⟨RX4, "isBehind", "([BI)Z"⟩
abbrev cX4_copyFrom : ByteArray := prog_6_method_9_code
def yX4_copyFrom : MethodName := ⟨RX4, "copyFrom", "(LShareHouse$Node;)V"⟩
abbrev cX5_init : ByteArray := prog_7_method_1_code
def yX5_init : MethodName := ⟨RX5, "<init>", "(JLShareHouse$TreeLink;LShareHouse$Node;)V"⟩
abbrev cX5_takePattern : ByteArray := prog_7_method_2_code
def yX5_takePattern : MethodName := ⟨RX5, "takePattern", "(LShareHouse$Asked;II)V"⟩
abbrev cX5_goBehind : ByteArray := prog_7_method_3_code
def yX5_goBehind : MethodName := ⟨RX5, "goBehind", "(ILShareHouse$Node;)V"⟩
abbrev cX5_matches : ByteArray := prog_7_method_4_code
def yX5_matches : MethodName := ⟨RX5, "matches", "([BI)Z"⟩
abbrev cX6_init : ByteArray := prog_8_method_1_code
def yX6_init : MethodName := ⟨RX6, "<init>", "()V"⟩
abbrev cX6_begin : ByteArray := prog_8_method_2_code
def yX6_begin : MethodName := ⟨RX6, "begin", "(I)V"⟩
abbrev cX6_add : ByteArray := prog_8_method_3_code
def yX6_add : MethodName := ⟨RX6, "add", "(I)V"⟩
abbrev cX6_addHighestFirst : ByteArray := prog_8_method_4_code
def yX6_addHighestFirst : MethodName := ⟨RX6, "addHighestFirst", "(I)V"⟩
abbrev cX6_number : ByteArray := prog_8_method_5_code
def yX6_number : MethodName := ⟨RX6, "number", "(II)J"⟩
abbrev cX6_put : ByteArray := prog_8_method_6_code
def yX6_put : MethodName := ⟨RX6, "put", "(IIJ)V"⟩
abbrev cX6_chain : ByteArray := prog_8_method_7_code
def yX6_chain : MethodName := ⟨RX6, "chain", "(LShareHouse$Row;I)I"⟩
abbrev cX7_init : ByteArray := prog_9_method_1_code
def yX7_init : MethodName := ⟨RX7, "<init>", "(JLShareHouse$Asked;)V"⟩
abbrev cX7_isNamed : ByteArray := prog_9_method_2_code
def yX7_isNamed : MethodName := ⟨RX7, "isNamed", "(LShareHouse$Asked;II)Z"⟩
abbrev cX8_init : ByteArray := prog_10_method_1_code
def yX8_init : MethodName := ⟨RX8, "<init>", "(JLShareHouse$Session;LShareHouse$Node;)V"⟩
abbrev cX9_init : ByteArray := prog_11_method_1_code
def yX9_init : MethodName := ⟨RX9, "<init>", "()V"⟩
abbrev cX9_node : ByteArray := prog_11_method_2_code
def yX9_node : MethodName := ⟨RX9, "node", "(I)LShareHouse$Node;"⟩
abbrev cX9_free : ByteArray := prog_11_method_3_code
def yX9_free : MethodName := ⟨RX9, "free", "()LShareHouse$Node;"⟩
abbrev cX9_child : ByteArray := prog_11_method_4_code
def yX9_child : MethodName := ⟨RX9, "child", "(ILShareHouse$Wish;II)LShareHouse$Node;"⟩
abbrev cX9_holdsAny : ByteArray := prog_11_method_5_code
def yX9_holdsAny : MethodName := ⟨RX9, "holdsAny", "(I)Z"⟩
abbrev cX9_isWithin : ByteArray := prog_11_method_6_code
def yX9_isWithin : MethodName := ⟨RX9, "isWithin", "(LShareHouse$Node;LShareHouse$Node;)Z"⟩
abbrev cX9_apply : ByteArray := prog_11_method_7_code
def yX9_apply : MethodName := ⟨RX9, "apply", "(LShareHouse$Change;)V"⟩
abbrev cX9_copyFrom : ByteArray := prog_11_method_8_code
def yX9_copyFrom : MethodName := ⟨RX9, "copyFrom", "(LShareHouse$Volume;)V"⟩
abbrev cX10_init : ByteArray := prog_12_method_1_code
def yX10_init : MethodName := ⟨RX10, "<init>", "()V"⟩
abbrev cX10_takeOptions : ByteArray := prog_12_method_2_code
def yX10_takeOptions : MethodName := ⟨RX10, "takeOptions", "(I)V"⟩
abbrev cX10_takeAccess : ByteArray := prog_12_method_3_code
def yX10_takeAccess : MethodName := ⟨RX10, "takeAccess", "(I)V"⟩
abbrev cX10_empties : ByteArray := prog_12_method_4_code
def yX10_empties : MethodName := ⟨RX10, "empties", "()Z"⟩
abbrev cX10_newAttributes : ByteArray := prog_12_method_5_code
def yX10_newAttributes : MethodName := ⟨RX10, "newAttributes", "()I"⟩
abbrev cX10_unit : ByteArray := prog_12_method_6_code
def yX10_unit : MethodName := ⟨RX10, "unit", "(I)I"⟩
abbrev cX10_takePath : ByteArray := prog_12_method_7_code
def yX10_takePath : MethodName := ⟨RX10, "takePath", "(LShareHouse$Asked;IJ)Z"⟩
abbrev cX10_isName : ByteArray := prog_12_method_8_code
def yX10_isName : MethodName := ⟨RX10, "isName", "(II)Z"⟩
abbrev cX10_nameTo : ByteArray := prog_12_method_9_code
def yX10_nameTo : MethodName := ⟨RX10, "nameTo", "(LShareHouse$Change;)V"⟩
abbrev cX11_init : ByteArray := prog_1_method_1_code
def yX11_init : MethodName := ⟨RX11, "<init>", "()V"⟩
abbrev cX11_feed : ByteArray := prog_1_method_2_code
def yX11_feed : MethodName := ⟨RX11, "feed", "(IIIII)I"⟩
abbrev cX11_cut : ByteArray := prog_1_method_3_code
def yX11_cut : MethodName := ⟨RX11, "cut", "(I)I"⟩
abbrev cX11_share : ByteArray := prog_1_method_4_code
def yX11_share : MethodName := ⟨RX11, "share", "(I)Z"⟩
abbrev cX11_connect : ByteArray := prog_1_method_5_code
def yX11_connect : MethodName := ⟨RX11, "connect", "(I)Z"⟩
abbrev cX11_hang : ByteArray := prog_1_method_6_code
def yX11_hang : MethodName := ⟨RX11, "hang", "(I)Z"⟩
abbrev cX11_come : ByteArray := prog_1_method_7_code
def yX11_come : MethodName := ⟨RX11, "come", "(I)I"⟩
abbrev cX11_isOpen : ByteArray := prog_1_method_8_code
def yX11_isOpen : MethodName := ⟨RX11, "isOpen", "(I)Z"⟩
abbrev cX11_tick : ByteArray := prog_1_method_9_code
def yX11_tick : MethodName := ⟨RX11, "tick", "(I)Z"⟩
abbrev cX11_crash : ByteArray := prog_1_method_10_code
def yX11_crash : MethodName := ⟨RX11, "crash", "(I)I"⟩
abbrev cX11_outs : ByteArray := prog_1_method_11_code
def yX11_outs : MethodName := ⟨RX11, "outs", "(I)I"⟩
abbrev cX11_out : ByteArray := prog_1_method_12_code
def yX11_out : MethodName := ⟨RX11, "out", "(II)I"⟩
abbrev cX11_drop : ByteArray := prog_1_method_13_code
def yX11_drop : MethodName := ⟨RX11, "drop", "(I)I"⟩
abbrev cX11_told : ByteArray := prog_1_method_14_code
def yX11_told : MethodName := ⟨RX11, "told", "(I)I"⟩
abbrev cX11_connection : ByteArray := prog_1_method_15_code
def yX11_connection : MethodName := ⟨RX11, "connection", "(I)LShareHouse$Conn;"⟩
abbrev cX11_tapeIsShareName : ByteArray := prog_1_method_16_code
def yX11_tapeIsShareName : MethodName := ⟨RX11, "tapeIsShareName", "()Z"⟩
abbrev cX11_rootNamed : ByteArray := prog_1_method_17_code
def yX11_rootNamed : MethodName := ⟨RX11, "rootNamed", "(LShareHouse$Row;III)LShareHouse$Node;"⟩
abbrev cX11_makeRoot : ByteArray := prog_1_method_18_code
def yX11_makeRoot : MethodName := ⟨RX11, "makeRoot", "()I"⟩
abbrev cX11_nextChange : ByteArray := prog_1_method_19_code
def yX11_nextChange : MethodName := ⟨RX11, "nextChange", "(ILShareHouse$Node;)LShareHouse$Change;"⟩
abbrev cX11_done : ByteArray := prog_1_method_20_code
def yX11_done : MethodName := ⟨RX11, "done", "(LShareHouse$Change;)V"⟩
abbrev cX11_comeToDisk : ByteArray := prog_1_method_21_code
def yX11_comeToDisk : MethodName := ⟨RX11, "comeToDisk", "()V"⟩
abbrev cX11_beginMessage : ByteArray := prog_1_method_22_code
def yX11_beginMessage : MethodName := ⟨RX11, "beginMessage", "(LShareHouse$Conn;)V"⟩
abbrev cX11_request : ByteArray := prog_1_method_23_code
def yX11_request : MethodName := ⟨RX11, "request", "(LShareHouse$Conn;)Z"⟩
abbrev cX11_finish : ByteArray := prog_1_method_24_code
def yX11_finish : MethodName := ⟨RX11, "finish", "(LShareHouse$Asked;I)V"⟩
abbrev cX11_seal : ByteArray := prog_1_method_25_code
def yX11_seal : MethodName := ⟨RX11, "seal", "(LShareHouse$Row;LShareHouse$Asked;II)V"⟩
abbrev cX11_sendLater : ByteArray := prog_1_method_26_code
def yX11_sendLater : MethodName := ⟨RX11, "sendLater", "(LShareHouse$Asked;I)V"⟩
abbrev cX11_look : ByteArray := prog_1_method_27_code
def yX11_look : MethodName := ⟨RX11, "look", "(LShareHouse$Asked;)I"⟩
abbrev cX11_sessionOf : ByteArray := prog_1_method_28_code
def yX11_sessionOf : MethodName := ⟨RX11, "sessionOf", "(LShareHouse$Asked;)LShareHouse$Session;"⟩
abbrev cX11_treeOf : ByteArray := prog_1_method_29_code
def yX11_treeOf : MethodName := ⟨RX11, "treeOf", "(LShareHouse$Asked;)LShareHouse$TreeLink;"⟩
abbrev cX11_lookAtFile : ByteArray := prog_1_method_30_code
def yX11_lookAtFile : MethodName := ⟨RX11, "lookAtFile", "(LShareHouse$Asked;I)I"⟩
abbrev cX11_prepare : ByteArray := prog_1_method_31_code
def yX11_prepare : MethodName := ⟨RX11, "prepare", "(LShareHouse$Asked;)I"⟩
abbrev cX11_perform : ByteArray := prog_1_method_32_code
def yX11_perform : MethodName := ⟨RX11, "perform", "(LShareHouse$Asked;)I"⟩
abbrev cX11_performOnFile : ByteArray := prog_1_method_33_code
def yX11_performOnFile : MethodName := ⟨RX11, "performOnFile", "(LShareHouse$Asked;LShareHouse$Open;)I"⟩
abbrev cX11_plainAnswer : ByteArray := prog_1_method_34_code
def yX11_plainAnswer : MethodName := ⟨RX11, "plainAnswer", "()I"⟩
abbrev cX11_beginWaiting : ByteArray := prog_1_method_35_code
def yX11_beginWaiting : MethodName := ⟨RX11, "beginWaiting", "(LShareHouse$Asked;)I"⟩
abbrev cX11_nextSerial : ByteArray := prog_1_method_36_code
def yX11_nextSerial : MethodName := ⟨RX11, "nextSerial", "(I)J"⟩
abbrev cX11_cancel : ByteArray := prog_1_method_37_code
def yX11_cancel : MethodName := ⟨RX11, "cancel", "(LShareHouse$Asked;)I"⟩
abbrev cX11_shutOff : ByteArray := prog_1_method_38_code
def yX11_shutOff : MethodName := ⟨RX11, "shutOff", "(LShareHouse$Conn;)V"⟩
abbrev cX11_giveUp : ByteArray := prog_1_method_39_code
def yX11_giveUp : MethodName := ⟨RX11, "giveUp", "(LShareHouse$Conn;LShareHouse$Session;LShareHouse$TreeLink;)V"⟩
abbrev cX11_settle : ByteArray := prog_1_method_40_code
def yX11_settle : MethodName := ⟨RX11, "settle", "()V"⟩
abbrev cX11_wakeLocks : ByteArray := prog_1_method_41_code
def yX11_wakeLocks : MethodName := ⟨RX11, "wakeLocks", "()V"⟩
abbrev cX11_nextAgain : ByteArray := prog_1_method_42_code
def yX11_nextAgain : MethodName := ⟨RX11, "nextAgain", "()LShareHouse$Asked;"⟩
abbrev cX11_stopWaiting : ByteArray := prog_1_method_43_code
def yX11_stopWaiting : MethodName := ⟨RX11, "stopWaiting", "(LShareHouse$Asked;)V"⟩
abbrev cX11_nextClosing : ByteArray := prog_1_method_44_code
def yX11_nextClosing : MethodName := ⟨RX11, "nextClosing", "()LShareHouse$Open;"⟩
abbrev cX11_firstEndingSession : ByteArray := prog_1_method_45_code
def yX11_firstEndingSession : MethodName := ⟨RX11, "firstEndingSession", "()I"⟩
abbrev cX11_firstEndingTree : ByteArray := prog_1_method_46_code
def yX11_firstEndingTree : MethodName := ⟨RX11, "firstEndingTree", "(LShareHouse$Session;)I"⟩
abbrev cX11_firstOpenOf : ByteArray := prog_1_method_47_code
def yX11_firstOpenOf : MethodName := ⟨RX11, "firstOpenOf", "(LShareHouse$TreeLink;)LShareHouse$Open;"⟩
abbrev cX11_closeOpen : ByteArray := prog_1_method_48_code
def yX11_closeOpen : MethodName := ⟨RX11, "closeOpen", "(LShareHouse$Open;)V"⟩
abbrev cX11_cancelLocksThatWait : ByteArray := prog_1_method_49_code
def yX11_cancelLocksThatWait : MethodName := ⟨RX11, "cancelLocksThatWait", "(LShareHouse$Open;)V"⟩
abbrev cX11_doAgain : ByteArray := prog_1_method_50_code
def yX11_doAgain : MethodName := ⟨RX11, "doAgain", "(LShareHouse$Node;)V"⟩
abbrev cX11_isOpened : ByteArray := prog_1_method_51_code
def yX11_isOpened : MethodName := ⟨RX11, "isOpened", "(LShareHouse$Node;)Z"⟩
abbrev cX11_negotiate : ByteArray := prog_1_method_52_code
def yX11_negotiate : MethodName := ⟨RX11, "negotiate", "(LShareHouse$Asked;)I"⟩
abbrev cX11_endFormer : ByteArray := prog_1_method_53_code
def yX11_endFormer : MethodName := ⟨RX11, "endFormer", "(LShareHouse$Asked;)I"⟩
abbrev cX11_setUp : ByteArray := prog_1_method_54_code
def yX11_setUp : MethodName := ⟨RX11, "setUp", "(LShareHouse$Asked;)I"⟩
abbrev cX11_logOff : ByteArray := prog_1_method_55_code
def yX11_logOff : MethodName := ⟨RX11, "logOff", "(LShareHouse$Asked;)I"⟩
abbrev cX11_connectTree : ByteArray := prog_1_method_56_code
def yX11_connectTree : MethodName := ⟨RX11, "connectTree", "(LShareHouse$Asked;)I"⟩
abbrev cX11_disconnectTree : ByteArray := prog_1_method_57_code
def yX11_disconnectTree : MethodName := ⟨RX11, "disconnectTree", "(LShareHouse$Asked;)I"⟩
abbrev cX11_readWish : ByteArray := prog_1_method_58_code
def yX11_readWish : MethodName := ⟨RX11, "readWish", "(LShareHouse$Asked;)I"⟩
abbrev cX11_openOrWait : ByteArray := prog_1_method_59_code
def yX11_openOrWait : MethodName := ⟨RX11, "openOrWait", "(LShareHouse$Asked;)I"⟩
abbrev cX11_tryOpen : ByteArray := prog_1_method_60_code
def yX11_tryOpen : MethodName := ⟨RX11, "tryOpen", "(LShareHouse$Asked;LShareHouse$Row;)I"⟩
abbrev cX11_walk : ByteArray := prog_1_method_61_code
def yX11_walk : MethodName := ⟨RX11, "walk", "(LShareHouse$Wish;LShareHouse$Node;)Z"⟩
abbrev cX11_openNew : ByteArray := prog_1_method_62_code
def yX11_openNew : MethodName := ⟨RX11, "openNew", "(LShareHouse$Asked;LShareHouse$Wish;LShareHouse$Row;)I"⟩
abbrev cX11_openThere : ByteArray := prog_1_method_63_code
def yX11_openThere : MethodName := ⟨RX11, "openThere", "(LShareHouse$Asked;LShareHouse$Wish;LShareHouse$Row;)I"⟩
abbrev cX11_refusal : ByteArray := prog_1_method_64_code
def yX11_refusal : MethodName := ⟨RX11, "refusal", "(LShareHouse$Node;LShareHouse$Wish;)I"⟩
abbrev cX11_holder : ByteArray := prog_1_method_65_code
def yX11_holder : MethodName := ⟨RX11, "holder", "(LShareHouse$Node;)LShareHouse$Open;"⟩
abbrev cX11_waitFor : ByteArray := prog_1_method_66_code
def yX11_waitFor : MethodName := ⟨RX11, "waitFor", "(LShareHouse$Asked;LShareHouse$Open;)I"⟩
abbrev cX11_sharesWithOthers : ByteArray := prog_1_method_67_code
def yX11_sharesWithOthers : MethodName := ⟨RX11, "sharesWithOthers", "(LShareHouse$Node;LShareHouse$Wish;)Z"⟩
abbrev cX11_wanted : ByteArray := prog_1_method_68_code
def yX11_wanted : MethodName := ⟨RX11, "wanted", "(I)I"⟩
abbrev cX11_addOpen : ByteArray := prog_1_method_69_code
def yX11_addOpen : MethodName := ⟨RX11, "addOpen", "(LShareHouse$Asked;LShareHouse$Node;ILShareHouse$Row;)V"⟩
abbrev cX11_granted : ByteArray := prog_1_method_70_code
def yX11_granted : MethodName := ⟨RX11, "granted", "(LShareHouse$Node;I)I"⟩
abbrev cX11_hasLocks : ByteArray := prog_1_method_71_code
def yX11_hasLocks : MethodName := ⟨RX11, "hasLocks", "(LShareHouse$Node;)Z"⟩
abbrev cX11_close : ByteArray := prog_1_method_72_code
def yX11_close : MethodName := ⟨RX11, "close", "(LShareHouse$Asked;LShareHouse$Open;)I"⟩
abbrev cX11_flush : ByteArray := prog_1_method_73_code
def yX11_flush : MethodName := ⟨RX11, "flush", "(LShareHouse$Open;)I"⟩
abbrev cX11_read : ByteArray := prog_1_method_74_code
def yX11_read : MethodName := ⟨RX11, "read", "(LShareHouse$Asked;LShareHouse$Open;)I"⟩
abbrev cX11_write : ByteArray := prog_1_method_75_code
def yX11_write : MethodName := ⟨RX11, "write", "(LShareHouse$Asked;LShareHouse$Open;)I"⟩
abbrev cX11_breakLevelTwo : ByteArray := prog_1_method_76_code
def yX11_breakLevelTwo : MethodName := ⟨RX11, "breakLevelTwo", "(LShareHouse$Node;LShareHouse$Open;)V"⟩
abbrev cX11_sendBreak : ByteArray := prog_1_method_77_code
def yX11_sendBreak : MethodName := ⟨RX11, "sendBreak", "(LShareHouse$Open;I)V"⟩
abbrev cX11_answerBreak : ByteArray := prog_1_method_78_code
def yX11_answerBreak : MethodName := ⟨RX11, "answerBreak", "(LShareHouse$Asked;LShareHouse$Open;)I"⟩
abbrev cX11_endBreak : ByteArray := prog_1_method_79_code
def yX11_endBreak : MethodName := ⟨RX11, "endBreak", "(LShareHouse$Open;I)V"⟩
abbrev cX11_lock : ByteArray := prog_1_method_80_code
def yX11_lock : MethodName := ⟨RX11, "lock", "(LShareHouse$Asked;LShareHouse$Open;)I"⟩
abbrev cX11_isLocking : ByteArray := prog_1_method_81_code
def yX11_isLocking : MethodName := ⟨RX11, "isLocking", "(JI)Z"⟩
abbrev cX11_isTooFar : ByteArray := prog_1_method_82_code
def yX11_isTooFar : MethodName := ⟨RX11, "isTooFar", "(JJ)Z"⟩
abbrev cX11_unlockEach : ByteArray := prog_1_method_83_code
def yX11_unlockEach : MethodName := ⟨RX11, "unlockEach", "(LShareHouse$Asked;LShareHouse$Open;I)I"⟩
abbrev cX11_eldestLock : ByteArray := prog_1_method_84_code
def yX11_eldestLock : MethodName := ⟨RX11, "eldestLock", "(LShareHouse$Open;JJ)I"⟩
abbrev cX11_lockAll : ByteArray := prog_1_method_85_code
def yX11_lockAll : MethodName := ⟨RX11, "lockAll", "(LShareHouse$Asked;LShareHouse$Open;I)I"⟩
abbrev cX11_undoLocks : ByteArray := prog_1_method_86_code
def yX11_undoLocks : MethodName := ⟨RX11, "undoLocks", "(I)V"⟩
abbrev cX11_canBe : ByteArray := prog_1_method_87_code
def yX11_canBe : MethodName := ⟨RX11, "canBe", "(LShareHouse$Lock;)Z"⟩
abbrev cX11_othersLock : ByteArray := prog_1_method_88_code
def yX11_othersLock : MethodName := ⟨RX11, "othersLock", "(LShareHouse$Open;JJZ)Z"⟩
abbrev cX11_ownSharedLock : ByteArray := prog_1_method_89_code
def yX11_ownSharedLock : MethodName := ⟨RX11, "ownSharedLock", "(LShareHouse$Open;JJ)Z"⟩
abbrev cX11_queryDirectory : ByteArray := prog_1_method_90_code
def yX11_queryDirectory : MethodName := ⟨RX11, "queryDirectory", "(LShareHouse$Asked;LShareHouse$Open;)I"⟩
abbrev cX11_list : ByteArray := prog_1_method_91_code
def yX11_list : MethodName := ⟨RX11, "list", "(LShareHouse$Open;III)I"⟩
abbrev cX11_nextStage : ByteArray := prog_1_method_92_code
def yX11_nextStage : MethodName := ⟨RX11, "nextStage", "(LShareHouse$Open;)I"⟩
abbrev cX11_entryNode : ByteArray := prog_1_method_93_code
def yX11_entryNode : MethodName := ⟨RX11, "entryNode", "(LShareHouse$Open;I)LShareHouse$Node;"⟩
abbrev cX11_putEntry : ByteArray := prog_1_method_94_code
def yX11_putEntry : MethodName := ⟨RX11, "putEntry", "(IILShareHouse$Node;[BI)V"⟩
abbrev cX11_queryInfo : ByteArray := prog_1_method_95_code
def yX11_queryInfo : MethodName := ⟨RX11, "queryInfo", "(LShareHouse$Asked;LShareHouse$Open;)I"⟩
abbrev cX11_infoSize : ByteArray := prog_1_method_96_code
def yX11_infoSize : MethodName := ⟨RX11, "infoSize", "(II)I"⟩
abbrev cX11_setInfo : ByteArray := prog_1_method_97_code
def yX11_setInfo : MethodName := ⟨RX11, "setInfo", "(LShareHouse$Asked;LShareHouse$Open;)I"⟩
abbrev cX11_setSizeOf : ByteArray := prog_1_method_98_code
def yX11_setSizeOf : MethodName := ⟨RX11, "setSizeOf", "(I)I"⟩
abbrev cX11_setAccessOf : ByteArray := prog_1_method_99_code
def yX11_setAccessOf : MethodName := ⟨RX11, "setAccessOf", "(I)I"⟩
abbrev cX11_setValues : ByteArray := prog_1_method_100_code
def yX11_setValues : MethodName := ⟨RX11, "setValues", "(LShareHouse$Asked;LShareHouse$Open;I)I"⟩
abbrev cX11_setSize : ByteArray := prog_1_method_101_code
def yX11_setSize : MethodName := ⟨RX11, "setSize", "(LShareHouse$Open;J)I"⟩
abbrev cX11_setToGo : ByteArray := prog_1_method_102_code
def yX11_setToGo : MethodName := ⟨RX11, "setToGo", "(LShareHouse$Node;Z)I"⟩
abbrev cX11_rename : ByteArray := prog_1_method_103_code
def yX11_rename : MethodName := ⟨RX11, "rename", "(LShareHouse$Asked;LShareHouse$Open;IJ)I"⟩
abbrev cX11_isOpenedBelow : ByteArray := prog_1_method_104_code
def yX11_isOpenedBelow : MethodName := ⟨RX11, "isOpenedBelow", "(LShareHouse$Node;)Z"⟩
abbrev cX11_upper : ByteArray := prog_1_method_105_code
def yX11_upper : MethodName := ⟨RX11, "upper", "(I)I"⟩
abbrev cX11_below : ByteArray := prog_1_method_106_code
def yX11_below : MethodName := ⟨RX11, "below", "(JJ)Z"⟩
abbrev cX12_init : ByteArray := prog_14_method_1_code
def yX12_init : MethodName := ⟨RX12, "<init>", "()V"⟩
abbrev cX12_feed : ByteArray := prog_14_method_3_code
def yX12_feed : MethodName := ⟨RX12, "feed", "(IIIII)I"⟩
abbrev cX12_lay : ByteArray := prog_14_method_4_code
def yX12_lay : MethodName := ⟨RX12, "lay", "(I)V"⟩
abbrev cX12_cut : ByteArray := prog_14_method_5_code
def yX12_cut : MethodName := ⟨RX12, "cut", "(I)I"⟩
abbrev cX12_isLess : ByteArray := prog_14_method_6_code
def yX12_isLess : MethodName := ⟨RX12, "isLess", "(JJ)Z"⟩
abbrev cX12_folded : ByteArray := prog_14_method_7_code
def yX12_folded : MethodName := ⟨RX12, "folded", "(I)I"⟩
abbrev cX12_nodes : ByteArray := prog_14_method_8_code
def yX12_nodes : MethodName := ⟨RX12, "nodes", "(I)I"⟩
abbrev cX12_freeNode : ByteArray := prog_14_method_9_code
def yX12_freeNode : MethodName := ⟨RX12, "freeNode", "()I"⟩
abbrev cX12_copyNode : ByteArray := prog_14_method_10_code
def yX12_copyNode : MethodName := ⟨RX12, "copyNode", "(II)V"⟩
abbrev cX12_record : ByteArray := prog_14_method_11_code
def yX12_record : MethodName := ⟨RX12, "record", "(II)I"⟩
abbrev cX12_done : ByteArray := prog_14_method_12_code
def yX12_done : MethodName := ⟨RX12, "done", "()V"⟩
abbrev cX12_allCome : ByteArray := prog_14_method_13_code
def yX12_allCome : MethodName := ⟨RX12, "allCome", "()V"⟩
abbrev cX12_come : ByteArray := prog_14_method_14_code
def yX12_come : MethodName := ⟨RX12, "come", "(IZ)V"⟩
abbrev cX12_apply : ByteArray := prog_14_method_15_code
def yX12_apply : MethodName := ⟨RX12, "apply", "(II)V"⟩
abbrev cX12_zero : ByteArray := prog_14_method_16_code
def yX12_zero : MethodName := ⟨RX12, "zero", "(III)V"⟩
abbrev cX12_begin : ByteArray := prog_14_method_17_code
def yX12_begin : MethodName := ⟨RX12, "begin", "()V"⟩
abbrev cX12_share : ByteArray := prog_14_method_18_code
def yX12_share : MethodName := ⟨RX12, "share", "(I)Z"⟩
abbrev cX12_isLine : ByteArray := prog_14_method_19_code
def yX12_isLine : MethodName := ⟨RX12, "isLine", "(I)Z"⟩
abbrev cX12_connect : ByteArray := prog_14_method_20_code
def yX12_connect : MethodName := ⟨RX12, "connect", "(I)Z"⟩
abbrev cX12_hang : ByteArray := prog_14_method_21_code
def yX12_hang : MethodName := ⟨RX12, "hang", "(I)Z"⟩
abbrev cX12_isOpen : ByteArray := prog_14_method_22_code
def yX12_isOpen : MethodName := ⟨RX12, "isOpen", "(I)Z"⟩
abbrev cX12_drops : ByteArray := prog_14_method_23_code
def yX12_drops : MethodName := ⟨RX12, "drops", "(I)V"⟩
abbrev cX12_eldestSession : ByteArray := prog_14_method_24_code
def yX12_eldestSession : MethodName := ⟨RX12, "eldestSession", "(I)I"⟩
abbrev cX12_forget : ByteArray := prog_14_method_25_code
def yX12_forget : MethodName := ⟨RX12, "forget", "(I)V"⟩
abbrev cX12_endSession : ByteArray := prog_14_method_26_code
def yX12_endSession : MethodName := ⟨RX12, "endSession", "(I)V"⟩
abbrev cX12_eldestTree : ByteArray := prog_14_method_27_code
def yX12_eldestTree : MethodName := ⟨RX12, "eldestTree", "(I)I"⟩
abbrev cX12_endTree : ByteArray := prog_14_method_28_code
def yX12_endTree : MethodName := ⟨RX12, "endTree", "(I)V"⟩
abbrev cX12_eldestOpen : ByteArray := prog_14_method_29_code
def yX12_eldestOpen : MethodName := ⟨RX12, "eldestOpen", "(I)I"⟩
abbrev cX12_openBy : ByteArray := prog_14_method_30_code
def yX12_openBy : MethodName := ⟨RX12, "openBy", "(J)I"⟩
abbrev cX12_count : ByteArray := prog_14_method_31_code
def yX12_count : MethodName := ⟨RX12, "count", "([J)I"⟩
abbrev cX12_vacant : ByteArray := prog_14_method_32_code
def yX12_vacant : MethodName := ⟨RX12, "vacant", "([J)I"⟩
abbrev cX12_come_ : ByteArray := prog_14_method_33_code
def yX12_come_ : MethodName := ⟨RX12, "come", "(I)I"⟩
abbrev cX12_number : ByteArray := prog_14_method_34_code
def yX12_number : MethodName := ⟨RX12, "number", "(II)J"⟩
abbrev cX12_number2 : ByteArray := prog_14_method_35_code
def yX12_number2 : MethodName := ⟨RX12, "number2", "(I)I"⟩
abbrev cX12_number1 : ByteArray := prog_14_method_36_code
def yX12_number1 : MethodName := ⟨RX12, "number1", "(I)I"⟩
abbrev cX12_set : ByteArray := prog_14_method_37_code
def yX12_set : MethodName := ⟨RX12, "set", "(IIJ)V"⟩
abbrev cX12_body : ByteArray := prog_14_method_38_code
def yX12_body : MethodName := ⟨RX12, "body", "(I)V"⟩
abbrev cX12_header : ByteArray := prog_14_method_39_code
def yX12_header : MethodName := ⟨RX12, "header", "(JIIIJJJJ)V"⟩
abbrev cX12_send : ByteArray := prog_14_method_40_code
def yX12_send : MethodName := ⟨RX12, "send", "(III)V"⟩
abbrev cX12_message : ByteArray := prog_14_method_41_code
def yX12_message : MethodName := ⟨RX12, "message", "(III)V"⟩
abbrev cX12_headerGood : ByteArray := prog_14_method_42_code
def yX12_headerGood : MethodName := ⟨RX12, "headerGood", "(I)Z"⟩
abbrev cX12_takeId : ByteArray := prog_14_method_43_code
def yX12_takeId : MethodName := ⟨RX12, "takeId", "(IJ)Z"⟩
abbrev cX12_grant : ByteArray := prog_14_method_44_code
def yX12_grant : MethodName := ⟨RX12, "grant", "(II)I"⟩
abbrev cX12_request : ByteArray := prog_14_method_45_code
def yX12_request : MethodName := ⟨RX12, "request", "(IJ)V"⟩
abbrev cX12_bodyOf : ByteArray := prog_14_method_46_code
def yX12_bodyOf : MethodName := ⟨RX12, "bodyOf", "(I)I"⟩
abbrev cX12_fileOf : ByteArray := prog_14_method_47_code
def yX12_fileOf : MethodName := ⟨RX12, "fileOf", "(I)I"⟩
abbrev cX12_lies : ByteArray := prog_14_method_48_code
def yX12_lies : MethodName := ⟨RX12, "lies", "(JJ)Z"⟩
abbrev cX12_isBody : ByteArray := prog_14_method_49_code
def yX12_isBody : MethodName := ⟨RX12, "isBody", "()Z"⟩
abbrev cX12_findSession : ByteArray := prog_14_method_50_code
def yX12_findSession : MethodName := ⟨RX12, "findSession", "(J)I"⟩
abbrev cX12_findTree : ByteArray := prog_14_method_51_code
def yX12_findTree : MethodName := ⟨RX12, "findTree", "(J)I"⟩
abbrev cX12_does : ByteArray := prog_14_method_52_code
def yX12_does : MethodName := ⟨RX12, "does", "()J"⟩
abbrev cX12_small : ByteArray := prog_14_method_53_code
def yX12_small : MethodName := ⟨RX12, "small", "(I)J"⟩
abbrev cX12_late : ByteArray := prog_14_method_54_code
def yX12_late : MethodName := ⟨RX12, "late", "(IJ)V"⟩
abbrev cX12_give : ByteArray := prog_14_method_55_code
def yX12_give : MethodName := ⟨RX12, "give", "(IJ)V"⟩
abbrev cX12_tellBreak : ByteArray := prog_14_method_56_code
def yX12_tellBreak : MethodName := ⟨RX12, "tellBreak", "(II)V"⟩
abbrev cX12_breaks : ByteArray := prog_14_method_57_code
def yX12_breaks : MethodName := ⟨RX12, "breaks", "(II)V"⟩
abbrev cX12_breakSecond : ByteArray := prog_14_method_58_code
def yX12_breakSecond : MethodName := ⟨RX12, "breakSecond", "(II)V"⟩
abbrev cX12_cancel : ByteArray := prog_14_method_59_code
def yX12_cancel : MethodName := ⟨RX12, "cancel", "(IJ)V"⟩
abbrev cX12_waitFor : ByteArray := prog_14_method_60_code
def yX12_waitFor : MethodName := ⟨RX12, "waitFor", "(IJ)I"⟩
abbrev cX12_redo : ByteArray := prog_14_method_61_code
def yX12_redo : MethodName := ⟨RX12, "redo", "(I)V"⟩
abbrev cX12_again : ByteArray := prog_14_method_62_code
def yX12_again : MethodName := ⟨RX12, "again", "(I)Z"⟩
abbrev cX12_negotiate : ByteArray := prog_14_method_63_code
def yX12_negotiate : MethodName := ⟨RX12, "negotiate", "()J"⟩
abbrev cX12_setUp : ByteArray := prog_14_method_64_code
def yX12_setUp : MethodName := ⟨RX12, "setUp", "()J"⟩
abbrev cX12_connectTree : ByteArray := prog_14_method_65_code
def yX12_connectTree : MethodName := ⟨RX12, "connectTree", "()J"⟩
abbrev cX12_isNameUnit : ByteArray := prog_14_method_66_code
def yX12_isNameUnit : MethodName := ⟨RX12, "isNameUnit", "(I)Z"⟩
abbrev cX12_readPath : ByteArray := prog_14_method_67_code
def yX12_readPath : MethodName := ⟨RX12, "readPath", "(IJ)Z"⟩
abbrev cX12_child : ByteArray := prog_14_method_68_code
def yX12_child : MethodName := ⟨RX12, "child", "(II)I"⟩
abbrev cX12_goes : ByteArray := prog_14_method_69_code
def yX12_goes : MethodName := ⟨RX12, "goes", "(I)Z"⟩
abbrev cX12_meant : ByteArray := prog_14_method_70_code
def yX12_meant : MethodName := ⟨RX12, "meant", "(J)I"⟩
abbrev cX12_wants : ByteArray := prog_14_method_71_code
def yX12_wants : MethodName := ⟨RX12, "wants", "(I)I"⟩
abbrev cX12_isShared : ByteArray := prog_14_method_72_code
def yX12_isShared : MethodName := ⟨RX12, "isShared", "(III)Z"⟩
abbrev cX12_openWith : ByteArray := prog_14_method_73_code
def yX12_openWith : MethodName := ⟨RX12, "openWith", "(II)I"⟩
abbrev cX12_isOpened : ByteArray := prog_14_method_74_code
def yX12_isOpened : MethodName := ⟨RX12, "isOpened", "(I)Z"⟩
abbrev cX12_waitsFor : ByteArray := prog_14_method_75_code
def yX12_waitsFor : MethodName := ⟨RX12, "waitsFor", "(II)J"⟩
abbrev cX12_create : ByteArray := prog_14_method_76_code
def yX12_create : MethodName := ⟨RX12, "create", "(I)J"⟩
abbrev cX12_there : ByteArray := prog_14_method_77_code
def yX12_there : MethodName := ⟨RX12, "there", "(IIIIIZZZZI)J"⟩
abbrev cX12_emptyIt : ByteArray := prog_14_method_78_code
def yX12_emptyIt : MethodName := ⟨RX12, "emptyIt", "(II)V"⟩
abbrev cX12_makeNode : ByteArray := prog_14_method_79_code
def yX12_makeNode : MethodName := ⟨RX12, "makeNode", "(ZI)I"⟩
abbrev cX12_nameIt : ByteArray := prog_14_method_80_code
def yX12_nameIt : MethodName := ⟨RX12, "nameIt", "(II)V"⟩
abbrev cX12_granted : ByteArray := prog_14_method_81_code
def yX12_granted : MethodName := ⟨RX12, "granted", "(II)I"⟩
abbrev cX12_setTimes : ByteArray := prog_14_method_82_code
def yX12_setTimes : MethodName := ⟨RX12, "setTimes", "(II)V"⟩
abbrev cX12_room : ByteArray := prog_14_method_83_code
def yX12_room : MethodName := ⟨RX12, "room", "(I)I"⟩
abbrev cX12_shown : ByteArray := prog_14_method_84_code
def yX12_shown : MethodName := ⟨RX12, "shown", "(I)I"⟩
abbrev cX12_close : ByteArray := prog_14_method_85_code
def yX12_close : MethodName := ⟨RX12, "close", "()J"⟩
abbrev cX12_isEmpty : ByteArray := prog_14_method_86_code
def yX12_isEmpty : MethodName := ⟨RX12, "isEmpty", "(I)Z"⟩
abbrev cX12_closes : ByteArray := prog_14_method_87_code
def yX12_closes : MethodName := ⟨RX12, "closes", "(I)V"⟩
abbrev cX12_unlock : ByteArray := prog_14_method_88_code
def yX12_unlock : MethodName := ⟨RX12, "unlock", "(I)V"⟩
abbrev cX12_flush : ByteArray := prog_14_method_89_code
def yX12_flush : MethodName := ⟨RX12, "flush", "()J"⟩
abbrev cX12_meet : ByteArray := prog_14_method_90_code
def yX12_meet : MethodName := ⟨RX12, "meet", "(JJJJ)Z"⟩
abbrev cX12_read : ByteArray := prog_14_method_91_code
def yX12_read : MethodName := ⟨RX12, "read", "()J"⟩
abbrev cX12_write : ByteArray := prog_14_method_92_code
def yX12_write : MethodName := ⟨RX12, "write", "()J"⟩
abbrev cX12_broken : ByteArray := prog_14_method_93_code
def yX12_broken : MethodName := ⟨RX12, "broken", "()J"⟩
abbrev cX12_canBe : ByteArray := prog_14_method_94_code
def yX12_canBe : MethodName := ⟨RX12, "canBe", "(IJJZ)Z"⟩
abbrev cX12_addLock : ByteArray := prog_14_method_95_code
def yX12_addLock : MethodName := ⟨RX12, "addLock", "(JIJJZ)V"⟩
abbrev cX12_lookLocks : ByteArray := prog_14_method_96_code
def yX12_lookLocks : MethodName := ⟨RX12, "lookLocks", "()V"⟩
abbrev cX12_lock : ByteArray := prog_14_method_97_code
def yX12_lock : MethodName := ⟨RX12, "lock", "()J"⟩
abbrev cX12_unlocks : ByteArray := prog_14_method_98_code
def yX12_unlocks : MethodName := ⟨RX12, "unlocks", "(I)J"⟩
abbrev cX12_locksAll : ByteArray := prog_14_method_99_code
def yX12_locksAll : MethodName := ⟨RX12, "locksAll", "(II)J"⟩
abbrev cX12_matches : ByteArray := prog_14_method_100_code
def yX12_matches : MethodName := ⟨RX12, "matches", "(III)Z"⟩
abbrev cX12_against : ByteArray := prog_14_method_101_code
def yX12_against : MethodName := ⟨RX12, "against", "(II)I"⟩
abbrev cX12_between : ByteArray := prog_14_method_102_code
def yX12_between : MethodName := ⟨RX12, "between", "(II)I"⟩
abbrev cX12_findNext : ByteArray := prog_14_method_103_code
def yX12_findNext : MethodName := ⟨RX12, "findNext", "(I)Z"⟩
abbrev cX12_list : ByteArray := prog_14_method_104_code
def yX12_list : MethodName := ⟨RX12, "list", "()J"⟩
abbrev cX12_remember : ByteArray := prog_14_method_105_code
def yX12_remember : MethodName := ⟨RX12, "remember", "(I)V"⟩
abbrev cX12_entryAt : ByteArray := prog_14_method_106_code
def yX12_entryAt : MethodName := ⟨RX12, "entryAt", "(III)V"⟩
abbrev cX12_basic : ByteArray := prog_14_method_107_code
def yX12_basic : MethodName := ⟨RX12, "basic", "(II)V"⟩
abbrev cX12_standard : ByteArray := prog_14_method_108_code
def yX12_standard : MethodName := ⟨RX12, "standard", "(II)V"⟩
abbrev cX12_ask : ByteArray := prog_14_method_109_code
def yX12_ask : MethodName := ⟨RX12, "ask", "()J"⟩
abbrev cX12_setInfo : ByteArray := prog_14_method_110_code
def yX12_setInfo : MethodName := ⟨RX12, "setInfo", "()J"⟩
abbrev cX12_setBasic : ByteArray := prog_14_method_111_code
def yX12_setBasic : MethodName := ⟨RX12, "setBasic", "(II)J"⟩
abbrev cX12_setSize : ByteArray := prog_14_method_112_code
def yX12_setSize : MethodName := ⟨RX12, "setSize", "(II)J"⟩
abbrev cX12_setToGo : ByteArray := prog_14_method_113_code
def yX12_setToGo : MethodName := ⟨RX12, "setToGo", "(II)J"⟩
abbrev cX12_isBelow : ByteArray := prog_14_method_114_code
def yX12_isBelow : MethodName := ⟨RX12, "isBelow", "(II)Z"⟩
abbrev cX12_rename : ByteArray := prog_14_method_115_code
def yX12_rename : MethodName := ⟨RX12, "rename", "(IIJ)J"⟩
abbrev cX12_tick : ByteArray := prog_14_method_116_code
def yX12_tick : MethodName := ⟨RX12, "tick", "(I)Z"⟩
abbrev cX12_crash : ByteArray := prog_14_method_117_code
def yX12_crash : MethodName := ⟨RX12, "crash", "(I)I"⟩
abbrev cX12_outs : ByteArray := prog_14_method_118_code
def yX12_outs : MethodName := ⟨RX12, "outs", "(I)I"⟩
abbrev cX12_out : ByteArray := prog_14_method_119_code
def yX12_out : MethodName := ⟨RX12, "out", "(II)I"⟩
abbrev cX12_drop : ByteArray := prog_14_method_120_code
def yX12_drop : MethodName := ⟨RX12, "drop", "(I)I"⟩
abbrev cX12_told : ByteArray := prog_14_method_121_code
def yX12_told : MethodName := ⟨RX12, "told", "(I)I"⟩
abbrev cJ11_isValidCodePoint_9a6ad : ByteArray := prog_16_method_11_code
def yJ11_isValidCodePoint_9a6ad : MethodName := ⟨RJ11, "isValidCodePoint", "(I)Z"⟩
abbrev cJ11_highSurrogate_5068e : ByteArray := prog_16_method_28_code
def yJ11_highSurrogate_5068e : MethodName := ⟨RJ11, "highSurrogate", "(I)C"⟩
abbrev cJ11_lowSurrogate_5068e : ByteArray := prog_16_method_29_code
def yJ11_lowSurrogate_5068e : MethodName := ⟨RJ11, "lowSurrogate", "(I)C"⟩
abbrev cJ9_abs_067f4 : ByteArray := prog_19_method_61_code
def yJ9_abs_067f4 : MethodName := ⟨RJ9, "abs", "(J)J"⟩
abbrev cJ9_max_7cf53 : ByteArray := prog_19_method_65_code
def yJ9_max_7cf53 : MethodName := ⟨RJ9, "max", "(II)I"⟩
abbrev cJ9_min_7cf53 : ByteArray := prog_19_method_69_code
def yJ9_min_7cf53 : MethodName := ⟨RJ9, "min", "(II)I"⟩
abbrev cJ9_min_f86c9 : ByteArray := prog_19_method_70_code
def yJ9_min_f86c9 : MethodName := ⟨RJ9, "min", "(JJ)J"⟩
abbrev cJ0_length_8abf5 : ByteArray := prog_20_method_54_code
def yJ0_length_8abf5 : MethodName := ⟨RJ0, "length", "()I"⟩
abbrev cJ0_indexOf_0f7a4 : ByteArray := prog_20_method_79_code
def yJ0_indexOf_0f7a4 : MethodName := ⟨RJ0, "indexOf", "(I)I"⟩
abbrev cJ0_indexOf_7cf53 : ByteArray := prog_20_method_80_code
def yJ0_indexOf_7cf53 : MethodName := ⟨RJ0, "indexOf", "(II)I"⟩
abbrev cJ0_coder_7d493 : ByteArray := prog_20_method_152_code
def yJ0_coder_7d493 : MethodName := ⟨RJ0, "coder", "()B"⟩
abbrev cJ0_isLatin1_aae02 : ByteArray := prog_20_method_154_code
def yJ0_isLatin1_aae02 : MethodName := ⟨RJ0, "isLatin1", "()Z"⟩
abbrev cJ0_checkBoundsBeginEnd_23922 : ByteArray := prog_20_method_158_code
def yJ0_checkBoundsBeginEnd_23922 : MethodName := ⟨RJ0, "checkBoundsBeginEnd", "(III)V"⟩
abbrev cJ1_canEncode_9a6ad : ByteArray := prog_21_method_4_code
def yJ1_canEncode_9a6ad : MethodName := ⟨RJ1, "canEncode", "(I)Z"⟩
abbrev cJ1_indexOf_4cfef : ByteArray := prog_21_method_22_code
def yJ1_indexOf_4cfef : MethodName := ⟨RJ1, "indexOf", "([BIII)I"⟩
abbrev cJ1_indexOfChar_4cfef : ByteArray := prog_21_method_23_code
def yJ1_indexOfChar_4cfef : MethodName := ⟨RJ1, "indexOfChar", "([BIII)I"⟩
abbrev cJ2_getChar_3b067 : ByteArray := prog_22_method_5_code
def yJ2_getChar_3b067 : MethodName := ⟨RJ2, "getChar", "([BI)C"⟩
abbrev cJ2_length_9d52b : ByteArray := prog_22_method_6_code
def yJ2_length_9d52b : MethodName := ⟨RJ2, "length", "([B)I"⟩
abbrev cJ2_indexOf_4cfef : ByteArray := prog_22_method_40_code
def yJ2_indexOf_4cfef : MethodName := ⟨RJ2, "indexOf", "([BIII)I"⟩
abbrev cJ2_indexOfChar_4cfef : ByteArray := prog_22_method_47_code
def yJ2_indexOfChar_4cfef : MethodName := ⟨RJ2, "indexOfChar", "([BIII)I"⟩
abbrev cJ2_indexOfCharUnsafe_4cfef : ByteArray := prog_22_method_48_code
def yJ2_indexOfCharUnsafe_4cfef : MethodName := ⟨RJ2, "indexOfCharUnsafe", "([BIII)I"⟩
abbrev cJ2_indexOfSupplementary_4cfef : ByteArray := prog_22_method_49_code
def yJ2_indexOfSupplementary_4cfef : MethodName := ⟨RJ2, "indexOfSupplementary", "([BIII)I"⟩
abbrev cJ2_checkBoundsBeginEnd_d044e : ByteArray := prog_22_method_93_code
def yJ2_checkBoundsBeginEnd_d044e : MethodName := ⟨RJ2, "checkBoundsBeginEnd", "(II[B)V"⟩
abbrev cJxa1e45_init_da8c8 : ByteArray := prog_24_method_1_code
def yJxa1e45_init_da8c8 : MethodName := ⟨RJxa1e45, "<init>", "()V"⟩
abbrev cJxc12de_init_da8c8 : ByteArray := prog_25_method_1_code
def yJxc12de_init_da8c8 : MethodName := ⟨RJxc12de, "<init>", "()V"⟩
abbrev cJx4a65c_init_da8c8 : ByteArray := prog_26_method_2_code
def yJx4a65c_init_da8c8 : MethodName := ⟨RJx4a65c, "<init>", "()V"⟩
abbrev cJx4a65c_grow_92f84 : ByteArray := prog_26_method_6_code
def yJx4a65c_grow_92f84 : MethodName := ⟨RJx4a65c, "grow", "(I)[Ljava/lang/Object;"⟩
abbrev cJx4a65c_grow_d5877 : ByteArray := prog_26_method_7_code
def yJx4a65c_grow_d5877 : MethodName := ⟨RJx4a65c, "grow", "()[Ljava/lang/Object;"⟩
abbrev cJx4a65c_size_8abf5 : ByteArray := prog_26_method_8_code
def yJx4a65c_size_8abf5 : MethodName := ⟨RJx4a65c, "size", "()I"⟩
abbrev cJx4a65c_elementData_915e3 : ByteArray := prog_26_method_18_code
def yJx4a65c_elementData_915e3 : MethodName := ⟨RJx4a65c, "elementData", "(I)Ljava/lang/Object;"⟩
abbrev cJx4a65c_get_915e3 : ByteArray := prog_26_method_20_code
def yJx4a65c_get_915e3 : MethodName := ⟨RJx4a65c, "get", "(I)Ljava/lang/Object;"⟩
abbrev cJx4a65c_add_72be8 : ByteArray := prog_26_method_24_code
def yJx4a65c_add_72be8 : MethodName := ⟨RJx4a65c, "add", "(Ljava/lang/Object;[Ljava/lang/Object;I)V"⟩
abbrev cJx4a65c_add_9ea2d : ByteArray := prog_26_method_25_code
def yJx4a65c_add_9ea2d : MethodName := ⟨RJx4a65c, "add", "(Ljava/lang/Object;)Z"⟩
abbrev cJx4a65c_remove_915e3 : ByteArray := prog_26_method_29_code
def yJx4a65c_remove_915e3 : MethodName := ⟨RJx4a65c, "remove", "(I)Ljava/lang/Object;"⟩
abbrev cJx4a65c_fastRemove_b59b0 : ByteArray := prog_26_method_39_code
def yJx4a65c_fastRemove_b59b0 : MethodName := ⟨RJx4a65c, "fastRemove", "([Ljava/lang/Object;I)V"⟩
abbrev cJx4a65c_clear_da8c8 : ByteArray := prog_26_method_40_code
def yJx4a65c_clear_da8c8 : MethodName := ⟨RJx4a65c, "clear", "()V"⟩
abbrev cJ7_rangeCheck_23922 : ByteArray := prog_27_method_30_code
def yJ7_rangeCheck_23922 : MethodName := ⟨RJ7, "rangeCheck", "(III)V"⟩
abbrev cJ7_fill_d0a16 : ByteArray := prog_27_method_101_code
def yJ7_fill_d0a16 : MethodName := ⟨RJ7, "fill", "([JJ)V"⟩
abbrev cJ7_fill_53178 : ByteArray := prog_27_method_103_code
def yJ7_fill_53178 : MethodName := ⟨RJ7, "fill", "([II)V"⟩
abbrev cJ7_fill_eb02e : ByteArray := prog_27_method_110_code
def yJ7_fill_eb02e : MethodName := ⟨RJ7, "fill", "([BIIB)V"⟩
abbrev cJ7_copyOf_1904c : ByteArray := prog_27_method_119_code
def yJ7_copyOf_1904c : MethodName := ⟨RJ7, "copyOf", "([Ljava/lang/Object;I)[Ljava/lang/Object;"⟩
abbrev cJ7_copyOf_6403c : ByteArray := prog_27_method_120_code
def yJ7_copyOf_6403c : MethodName := ⟨RJ7, "copyOf", "([Ljava/lang/Object;ILjava/lang/Class;)[Ljava/lang/Object;"⟩
abbrev cJ7_copyOf_9075b : ByteArray := prog_27_method_121_code
def yJ7_copyOf_9075b : MethodName := ⟨RJ7, "copyOf", "([BI)[B"⟩
abbrev cJ15_checkIndex_7cf53 : ByteArray := prog_30_method_17_code
def yJ15_checkIndex_7cf53 : MethodName := ⟨RJ15, "checkIndex", "(II)I"⟩
abbrev cJ8_newLength_cabcc : ByteArray := prog_33_method_27_code
def yJ8_newLength_cabcc : MethodName := ⟨RJ8, "newLength", "(III)I"⟩
abbrev cJ8_hugeLength_7cf53 : ByteArray := prog_33_method_28_code
def yJ8_hugeLength_7cf53 : MethodName := ⟨RJ8, "hugeLength", "(II)I"⟩
abbrev cJ3_checkIndex_8e157 : ByteArray := prog_34_method_11_code
def yJ3_checkIndex_8e157 : MethodName := ⟨RJ3, "checkIndex", "(IILjava/util/function/BiFunction;)I"⟩
abbrev cJ3_checkFromToIndex_8c36e : ByteArray := prog_34_method_12_code
def yJ3_checkFromToIndex_8c36e : MethodName := ⟨RJ3, "checkFromToIndex", "(IIILjava/util/function/BiFunction;)I"⟩
abbrev cL_law : ByteArray := code
