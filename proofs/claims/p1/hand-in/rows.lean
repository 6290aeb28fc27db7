section
/-- a private method of a class that the tables say can be made, by its rows of tables_1 -/
def lw_okq (q : MethodName × Nat) : Prop := (q.1.cls ≠ "java/lang/invoke/MethodHandle" ∧ q.1.cls ≠ "java/lang/invoke/VarHandle") ∧ Cond.instantiable q.1.cls q.2 ∈ tables_1 ∧ Cond.privateMethod q.1 ∈ tables_1 ∧ Cond.instanceMethod q.1 ∈ tables_1
theorem lw_p0 : lw_okq (⟨"ShareHouse", "tapeIsShareName", "()Z"⟩, 18) := ⟨⟨by decide +kernel, by decide +kernel⟩, List.mem_of_getElem? (i := 28) (by decide +kernel), List.mem_of_getElem? (i := 421) (by decide +kernel), List.mem_of_getElem? (i := 422) (by decide +kernel)⟩
theorem lw_p1 : lw_okq (⟨"ShareHouse", "connection", "(I)LShareHouse$Conn;"⟩, 18) := ⟨⟨by decide +kernel, by decide +kernel⟩, List.mem_of_getElem? (i := 28) (by decide +kernel), List.mem_of_getElem? (i := 489) (by decide +kernel), List.mem_of_getElem? (i := 490) (by decide +kernel)⟩
theorem lw_p2 : lw_okq (⟨"ShareHouse", "comeToDisk", "()V"⟩, 18) := ⟨⟨by decide +kernel, by decide +kernel⟩, List.mem_of_getElem? (i := 28) (by decide +kernel), List.mem_of_getElem? (i := 447) (by decide +kernel), List.mem_of_getElem? (i := 448) (by decide +kernel)⟩
theorem lw_p3 : lw_okq (⟨"ShareHouseModel", "begin", "()V"⟩, 120) := ⟨⟨by decide +kernel, by decide +kernel⟩, List.mem_of_getElem? (i := 1595) (by decide +kernel), List.mem_of_getElem? (i := 1606) (by decide +kernel), List.mem_of_getElem? (i := 1607) (by decide +kernel)⟩
theorem lw_p4 : lw_okq (⟨"ShareHouseModel", "copyNode", "(II)V"⟩, 120) := ⟨⟨by decide +kernel, by decide +kernel⟩, List.mem_of_getElem? (i := 1595) (by decide +kernel), List.mem_of_getElem? (i := 1610) (by decide +kernel), List.mem_of_getElem? (i := 1611) (by decide +kernel)⟩
theorem lw_p5 : lw_okq (⟨"ShareHouseModel", "lay", "(I)V"⟩, 120) := ⟨⟨by decide +kernel, by decide +kernel⟩, List.mem_of_getElem? (i := 1595) (by decide +kernel), List.mem_of_getElem? (i := 1980) (by decide +kernel), List.mem_of_getElem? (i := 1981) (by decide +kernel)⟩
theorem lw_p6 : lw_okq (⟨"ShareHouseModel", "come", "(IZ)V"⟩, 120) := ⟨⟨by decide +kernel, by decide +kernel⟩, List.mem_of_getElem? (i := 1595) (by decide +kernel), List.mem_of_getElem? (i := 2003) (by decide +kernel), List.mem_of_getElem? (i := 2004) (by decide +kernel)⟩
theorem lw_p7 : lw_okq (⟨"ShareHouseModel", "nodes", "(I)I"⟩, 120) := ⟨⟨by decide +kernel, by decide +kernel⟩, List.mem_of_getElem? (i := 1595) (by decide +kernel), List.mem_of_getElem? (i := 1995) (by decide +kernel), List.mem_of_getElem? (i := 1996) (by decide +kernel)⟩
theorem lw_p8 : lw_okq (⟨"ShareHouseModel", "count", "([J)I"⟩, 120) := ⟨⟨by decide +kernel, by decide +kernel⟩, List.mem_of_getElem? (i := 1595) (by decide +kernel), List.mem_of_getElem? (i := 2207) (by decide +kernel), List.mem_of_getElem? (i := 2208) (by decide +kernel)⟩
def lw_privs : List (MethodName × Nat) := [(⟨"ShareHouse", "tapeIsShareName", "()Z"⟩, 18), (⟨"ShareHouse", "connection", "(I)LShareHouse$Conn;"⟩, 18), (⟨"ShareHouse", "comeToDisk", "()V"⟩, 18), (⟨"ShareHouseModel", "begin", "()V"⟩, 120), (⟨"ShareHouseModel", "copyNode", "(II)V"⟩, 120), (⟨"ShareHouseModel", "lay", "(I)V"⟩, 120), (⟨"ShareHouseModel", "come", "(IZ)V"⟩, 120), (⟨"ShareHouseModel", "nodes", "(I)I"⟩, 120), (⟨"ShareHouseModel", "count", "([J)I"⟩, 120)]
def lw_tbl : List Cond := k2_sels lw_privs ++ tables_1
theorem lw_privs_ok : ∀ q ∈ lw_privs, lw_okq q := List.forall_mem_cons.mpr ⟨lw_p0, List.forall_mem_cons.mpr ⟨lw_p1, List.forall_mem_cons.mpr ⟨lw_p2, List.forall_mem_cons.mpr ⟨lw_p3, List.forall_mem_cons.mpr ⟨lw_p4, List.forall_mem_cons.mpr ⟨lw_p5, List.forall_mem_cons.mpr ⟨lw_p6, List.forall_mem_cons.mpr ⟨lw_p7, List.forall_mem_cons.mpr ⟨lw_p8, fun _ h => absurd h List.not_mem_nil⟩⟩⟩⟩⟩⟩⟩⟩⟩
def RX12 : String := "ShareHouseModel"
def TX12 : u_T := fun k => match k with
  | 0 => ("ShareHouseModel", "tape", "[B", true)
  | 1 => ("ShareHouseModel", "tapeSize", "I", false)
  | 2 => ("ShareHouseModel", "now", "J", false)
  | 3 => ("ShareHouseModel", "is", "[Z", true)
  | 4 => ("ShareHouseModel", "above", "[I", true)
  | 5 => ("ShareHouseModel", "isDir", "[Z", true)
  | 6 => ("ShareHouseModel", "names", "[B", true)
  | 7 => ("ShareHouseModel", "nameSize", "[I", true)
  | 8 => ("ShareHouseModel", "attributes", "[I", true)
  | 9 => ("ShareHouseModel", "times", "[J", true)
  | 10 => ("ShareHouseModel", "sizes", "[I", true)
  | 11 => ("ShareHouseModel", "bytes", "[B", true)
  | 12 => ("ShareHouseModel", "isToGo", "[Z", true)
  | 13 => ("ShareHouseModel", "shareRoot", "[I", true)
  | 14 => ("ShareHouseModel", "shareNames", "[B", true)
  | 15 => ("ShareHouseModel", "shareSize", "[I", true)
  | 16 => ("ShareHouseModel", "records", "I", false)
  | 17 => ("ShareHouseModel", "rKind", "[I", true)
  | 18 => ("ShareHouseModel", "rNode", "[I", true)
  | 19 => ("ShareHouseModel", "rAbove", "[I", true)
  | 20 => ("ShareHouseModel", "rDir", "[Z", true)
  | 21 => ("ShareHouseModel", "rName", "[B", true)
  | 22 => ("ShareHouseModel", "rNameSize", "[I", true)
  | 23 => ("ShareHouseModel", "rAttributes", "[I", true)
  | 24 => ("ShareHouseModel", "rTimes", "[J", true)
  | 25 => ("ShareHouseModel", "rFrom", "[I", true)
  | 26 => ("ShareHouseModel", "rMany", "[I", true)
  | 27 => ("ShareHouseModel", "rBytes", "[B", true)
  | 28 => ("ShareHouseModel", "isConnected", "[Z", true)
  | 29 => ("ShareHouseModel", "isAgreed", "[Z", true)
  | 30 => ("ShareHouseModel", "outs", "[B", true)
  | 31 => ("ShareHouseModel", "outSize", "[I", true)
  | 32 => ("ShareHouseModel", "ins", "[B", true)
  | 33 => ("ShareHouseModel", "inSize", "[I", true)
  | 34 => ("ShareHouseModel", "free", "[J", true)
  | 35 => ("ShareHouseModel", "frees", "[I", true)
  | 36 => ("ShareHouseModel", "highest", "[J", true)
  | 37 => ("ShareHouseModel", "sessionSerial", "[J", true)
  | 38 => ("ShareHouseModel", "sessionOn", "[I", true)
  | 39 => ("ShareHouseModel", "users", "[B", true)
  | 40 => ("ShareHouseModel", "userSize", "[I", true)
  | 41 => ("ShareHouseModel", "treeSerial", "[J", true)
  | 42 => ("ShareHouseModel", "treeOf", "[I", true)
  | 43 => ("ShareHouseModel", "treeShare", "[I", true)
  | 44 => ("ShareHouseModel", "openSerial", "[J", true)
  | 45 => ("ShareHouseModel", "openTree", "[I", true)
  | 46 => ("ShareHouseModel", "openNode", "[I", true)
  | 47 => ("ShareHouseModel", "access", "[I", true)
  | 48 => ("ShareHouseModel", "shares", "[I", true)
  | 49 => ("ShareHouseModel", "oplock", "[I", true)
  | 50 => ("ShareHouseModel", "isBroken", "[Z", true)
  | 51 => ("ShareHouseModel", "brokenTo", "[I", true)
  | 52 => ("ShareHouseModel", "brokenAt", "[J", true)
  | 53 => ("ShareHouseModel", "goesOnClose", "[Z", true)
  | 54 => ("ShareHouseModel", "patternSize", "[I", true)
  | 55 => ("ShareHouseModel", "patterns", "[I", true)
  | 56 => ("ShareHouseModel", "lastKind", "[I", true)
  | 57 => ("ShareHouseModel", "lastName", "[B", true)
  | 58 => ("ShareHouseModel", "lastSize", "[I", true)
  | 59 => ("ShareHouseModel", "sessionRow", "J", false)
  | 60 => ("ShareHouseModel", "treeRow", "J", false)
  | 61 => ("ShareHouseModel", "openRow", "J", false)
  | 62 => ("ShareHouseModel", "asyncRow", "J", false)
  | 63 => ("ShareHouseModel", "locks", "I", false)
  | 64 => ("ShareHouseModel", "lockOpen", "[J", true)
  | 65 => ("ShareHouseModel", "lockNode", "[I", true)
  | 66 => ("ShareHouseModel", "lockFrom", "[J", true)
  | 67 => ("ShareHouseModel", "lockMany", "[J", true)
  | 68 => ("ShareHouseModel", "lockShared", "[Z", true)
  | 69 => ("ShareHouseModel", "waits", "I", false)
  | 70 => ("ShareHouseModel", "wOn", "[I", true)
  | 71 => ("ShareHouseModel", "wCommand", "[I", true)
  | 72 => ("ShareHouseModel", "wCharge", "[I", true)
  | 73 => ("ShareHouseModel", "wRelated", "[Z", true)
  | 74 => ("ShareHouseModel", "wId", "[J", true)
  | 75 => ("ShareHouseModel", "wAsync", "[J", true)
  | 76 => ("ShareHouseModel", "wSession", "[I", true)
  | 77 => ("ShareHouseModel", "wTree", "[I", true)
  | 78 => ("ShareHouseModel", "wOpen", "[J", true)
  | 79 => ("ShareHouseModel", "wNode", "[I", true)
  | 80 => ("ShareHouseModel", "wFrom", "[J", true)
  | 81 => ("ShareHouseModel", "wMany", "[J", true)
  | 82 => ("ShareHouseModel", "wShared", "[Z", true)
  | 83 => ("ShareHouseModel", "wSize", "[I", true)
  | 84 => ("ShareHouseModel", "wBytes", "[B", true)
  | 85 => ("ShareHouseModel", "in", "[B", false)
  | 86 => ("ShareHouseModel", "base", "I", false)
  | 87 => ("ShareHouseModel", "length", "I", false)
  | 88 => ("ShareHouseModel", "line", "I", false)
  | 89 => ("ShareHouseModel", "answer", "[B", true)
  | 90 => ("ShareHouseModel", "start", "I", false)
  | 91 => ("ShareHouseModel", "size", "I", false)
  | 92 => ("ShareHouseModel", "isCut", "Z", false)
  | 93 => ("ShareHouseModel", "command", "I", false)
  | 94 => ("ShareHouseModel", "isRelated", "Z", false)
  | 95 => ("ShareHouseModel", "isLast", "Z", false)
  | 96 => ("ShareHouseModel", "sessionAsked", "J", false)
  | 97 => ("ShareHouseModel", "treeAsked", "J", false)
  | 98 => ("ShareHouseModel", "session", "I", false)
  | 99 => ("ShareHouseModel", "tree", "I", false)
  | 100 => ("ShareHouseModel", "open", "I", false)
  | 101 => ("ShareHouseModel", "fileLow", "J", false)
  | 102 => ("ShareHouseModel", "fileHigh", "J", false)
  | 103 => ("ShareHouseModel", "hasFile", "Z", false)
  | 104 => ("ShareHouseModel", "sessionBefore", "J", false)
  | 105 => ("ShareHouseModel", "treeBefore", "J", false)
  | 106 => ("ShareHouseModel", "lowBefore", "J", false)
  | 107 => ("ShareHouseModel", "highBefore", "J", false)
  | 108 => ("ShareHouseModel", "hadFile", "Z", false)
  | 109 => ("ShareHouseModel", "isWaiting", "Z", false)
  | 110 => ("ShareHouseModel", "answers", "I", false)
  | 111 => ("ShareHouseModel", "opened", "J", false)
  | 112 => ("ShareHouseModel", "units", "[I", true)
  | 113 => ("ShareHouseModel", "partFrom", "[I", true)
  | 114 => ("ShareHouseModel", "partSize", "[I", true)
  | 115 => ("ShareHouseModel", "parts", "I", false)
  | 116 => ("ShareHouseModel", "inside", "I", false)
  | 117 => ("ShareHouseModel", "found", "I", false)
  | 118 => ("ShareHouseModel", "nextKind", "I", false)
  | _ => ("ShareHouseModel", "nextNode", "I", false)
def tyX12 : Nat → FieldType := fun k => match k with
  | 0 => .array .byte
  | 1 => .int
  | 2 => .long
  | 3 => .array .boolean
  | 4 => .array .int
  | 5 => .array .boolean
  | 6 => .array .byte
  | 7 => .array .int
  | 8 => .array .int
  | 9 => .array .long
  | 10 => .array .int
  | 11 => .array .byte
  | 12 => .array .boolean
  | 13 => .array .int
  | 14 => .array .byte
  | 15 => .array .int
  | 16 => .int
  | 17 => .array .int
  | 18 => .array .int
  | 19 => .array .int
  | 20 => .array .boolean
  | 21 => .array .byte
  | 22 => .array .int
  | 23 => .array .int
  | 24 => .array .long
  | 25 => .array .int
  | 26 => .array .int
  | 27 => .array .byte
  | 28 => .array .boolean
  | 29 => .array .boolean
  | 30 => .array .byte
  | 31 => .array .int
  | 32 => .array .byte
  | 33 => .array .int
  | 34 => .array .long
  | 35 => .array .int
  | 36 => .array .long
  | 37 => .array .long
  | 38 => .array .int
  | 39 => .array .byte
  | 40 => .array .int
  | 41 => .array .long
  | 42 => .array .int
  | 43 => .array .int
  | 44 => .array .long
  | 45 => .array .int
  | 46 => .array .int
  | 47 => .array .int
  | 48 => .array .int
  | 49 => .array .int
  | 50 => .array .boolean
  | 51 => .array .int
  | 52 => .array .long
  | 53 => .array .boolean
  | 54 => .array .int
  | 55 => .array .int
  | 56 => .array .int
  | 57 => .array .byte
  | 58 => .array .int
  | 59 => .long
  | 60 => .long
  | 61 => .long
  | 62 => .long
  | 63 => .int
  | 64 => .array .long
  | 65 => .array .int
  | 66 => .array .long
  | 67 => .array .long
  | 68 => .array .boolean
  | 69 => .int
  | 70 => .array .int
  | 71 => .array .int
  | 72 => .array .int
  | 73 => .array .boolean
  | 74 => .array .long
  | 75 => .array .long
  | 76 => .array .int
  | 77 => .array .int
  | 78 => .array .long
  | 79 => .array .int
  | 80 => .array .long
  | 81 => .array .long
  | 82 => .array .boolean
  | 83 => .array .int
  | 84 => .array .byte
  | 85 => .array .byte
  | 86 => .int
  | 87 => .int
  | 88 => .int
  | 89 => .array .byte
  | 90 => .int
  | 91 => .int
  | 92 => .boolean
  | 93 => .int
  | 94 => .boolean
  | 95 => .boolean
  | 96 => .long
  | 97 => .long
  | 98 => .int
  | 99 => .int
  | 100 => .int
  | 101 => .long
  | 102 => .long
  | 103 => .boolean
  | 104 => .long
  | 105 => .long
  | 106 => .long
  | 107 => .long
  | 108 => .boolean
  | 109 => .boolean
  | 110 => .int
  | 111 => .long
  | 112 => .array .int
  | 113 => .array .int
  | 114 => .array .int
  | 115 => .int
  | 116 => .int
  | 117 => .int
  | 118 => .int
  | _ => .int
theorem nmX12 : ∀ a, a < 120 → ∀ b, b < 120 → a ≠ b → (TX12 a).2.1 ≠ (TX12 b).2.1 := by decide +kernel
theorem tyX12_ok : ∀ k, k < 120 → parseFieldDescriptor (TX12 k).2.2.1 = some (tyX12 k) := by decide +kernel
def RX11 : String := "ShareHouse"
def TX11 : u_T := fun k => match k with
  | 0 => ("ShareHouse", "tape", "LShareHouse$Row;", true)
  | 1 => ("ShareHouse", "conns", "[LShareHouse$Conn;", true)
  | 2 => ("ShareHouse", "roots", "[I", true)
  | 3 => ("ShareHouse", "live", "LShareHouse$Volume;", true)
  | 4 => ("ShareHouse", "disk", "LShareHouse$Volume;", true)
  | 5 => ("ShareHouse", "waiting", "[LShareHouse$Change;", true)
  | 6 => ("ShareHouse", "recordsWaiting", "I", false)
  | 7 => ("ShareHouse", "now", "J", false)
  | 8 => ("ShareHouse", "sessions", "Ljava/util/ArrayList;", true)
  | 9 => ("ShareHouse", "trees", "Ljava/util/ArrayList;", true)
  | 10 => ("ShareHouse", "opens", "Ljava/util/ArrayList;", true)
  | 11 => ("ShareHouse", "locks", "Ljava/util/ArrayList;", true)
  | 12 => ("ShareHouse", "waits", "Ljava/util/ArrayList;", true)
  | 13 => ("ShareHouse", "serials", "[J", true)
  | 14 => ("ShareHouse", "reply", "LShareHouse$Row;", true)
  | 15 => ("ShareHouse", "answer", "LShareHouse$Row;", true)
  | 16 => ("ShareHouse", "later", "LShareHouse$Row;", true)
  | _ => ("ShareHouse", "breaking", "LShareHouse$Row;", true)
def tyX11 : Nat → FieldType := fun k => match k with
  | 0 => .object "ShareHouse$Row"
  | 1 => .array (.object "ShareHouse$Conn")
  | 2 => .array .int
  | 3 => .object "ShareHouse$Volume"
  | 4 => .object "ShareHouse$Volume"
  | 5 => .array (.object "ShareHouse$Change")
  | 6 => .int
  | 7 => .long
  | 8 => .object "java/util/ArrayList"
  | 9 => .object "java/util/ArrayList"
  | 10 => .object "java/util/ArrayList"
  | 11 => .object "java/util/ArrayList"
  | 12 => .object "java/util/ArrayList"
  | 13 => .array .long
  | 14 => .object "ShareHouse$Row"
  | 15 => .object "ShareHouse$Row"
  | 16 => .object "ShareHouse$Row"
  | _ => .object "ShareHouse$Row"
theorem nmX11 : ∀ a, a < 18 → ∀ b, b < 18 → a ≠ b → (TX11 a).2.1 ≠ (TX11 b).2.1 := by decide +kernel
theorem tyX11_ok : ∀ k, k < 18 → parseFieldDescriptor (TX11 k).2.2.1 = some (tyX11 k) := by decide +kernel
def RX6 : String := "ShareHouse$Row"
def TX6 : u_T := fun k => match k with
  | 0 => ("ShareHouse$Row", "bytes", "[B", false)
  | _ => ("ShareHouse$Row", "length", "I", false)
def tyX6 : Nat → FieldType := fun k => match k with
  | 0 => .array .byte
  | _ => .int
theorem nmX6 : ∀ a, a < 2 → ∀ b, b < 2 → a ≠ b → (TX6 a).2.1 ≠ (TX6 b).2.1 := by decide +kernel
theorem tyX6_ok : ∀ k, k < 2 → parseFieldDescriptor (TX6 k).2.2.1 = some (tyX6 k) := by decide +kernel
def RX2 : String := "ShareHouse$Conn"
def TX2 : u_T := fun k => match k with
  | 0 => ("ShareHouse$Conn", "there", "Z", false)
  | 1 => ("ShareHouse$Conn", "negotiated", "Z", false)
  | 2 => ("ShareHouse$Conn", "came", "LShareHouse$Row;", true)
  | 3 => ("ShareHouse$Conn", "size", "J", false)
  | 4 => ("ShareHouse$Conn", "sent", "LShareHouse$Row;", true)
  | 5 => ("ShareHouse$Conn", "free", "[J", true)
  | 6 => ("ShareHouse$Conn", "freeCount", "I", false)
  | 7 => ("ShareHouse$Conn", "highest", "J", false)
  | 8 => ("ShareHouse$Conn", "at", "I", false)
  | 9 => ("ShareHouse$Conn", "answerAt", "I", false)
  | 10 => ("ShareHouse$Conn", "beforeSession", "J", false)
  | 11 => ("ShareHouse$Conn", "beforeTree", "J", false)
  | 12 => ("ShareHouse$Conn", "beforeFile", "Z", false)
  | 13 => ("ShareHouse$Conn", "beforeLow", "J", false)
  | _ => ("ShareHouse$Conn", "beforeHigh", "J", false)
def tyX2 : Nat → FieldType := fun k => match k with
  | 0 => .boolean
  | 1 => .boolean
  | 2 => .object "ShareHouse$Row"
  | 3 => .long
  | 4 => .object "ShareHouse$Row"
  | 5 => .array .long
  | 6 => .int
  | 7 => .long
  | 8 => .int
  | 9 => .int
  | 10 => .long
  | 11 => .long
  | 12 => .boolean
  | 13 => .long
  | _ => .long
theorem nmX2 : ∀ a, a < 15 → ∀ b, b < 15 → a ≠ b → (TX2 a).2.1 ≠ (TX2 b).2.1 := by decide +kernel
theorem tyX2_ok : ∀ k, k < 15 → parseFieldDescriptor (TX2 k).2.2.1 = some (tyX2 k) := by decide +kernel
def RX1 : String := "ShareHouse$Change"
def TX1 : u_T := fun k => match k with
  | 0 => ("ShareHouse$Change", "kind", "I", false)
  | 1 => ("ShareHouse$Change", "node", "I", false)
  | 2 => ("ShareHouse$Change", "parent", "I", false)
  | 3 => ("ShareHouse$Change", "directory", "Z", false)
  | 4 => ("ShareHouse$Change", "name", "[B", true)
  | 5 => ("ShareHouse$Change", "nameLength", "I", false)
  | 6 => ("ShareHouse$Change", "attributes", "I", false)
  | 7 => ("ShareHouse$Change", "made", "J", false)
  | 8 => ("ShareHouse$Change", "looked", "J", false)
  | 9 => ("ShareHouse$Change", "written", "J", false)
  | 10 => ("ShareHouse$Change", "changed", "J", false)
  | 11 => ("ShareHouse$Change", "size", "I", false)
  | 12 => ("ShareHouse$Change", "from", "I", false)
  | 13 => ("ShareHouse$Change", "many", "I", false)
  | _ => ("ShareHouse$Change", "bytes", "[B", false)
def tyX1 : Nat → FieldType := fun k => match k with
  | 0 => .int
  | 1 => .int
  | 2 => .int
  | 3 => .boolean
  | 4 => .array .byte
  | 5 => .int
  | 6 => .int
  | 7 => .long
  | 8 => .long
  | 9 => .long
  | 10 => .long
  | 11 => .int
  | 12 => .int
  | 13 => .int
  | _ => .array .byte
theorem nmX1 : ∀ a, a < 15 → ∀ b, b < 15 → a ≠ b → (TX1 a).2.1 ≠ (TX1 b).2.1 := by decide +kernel
theorem tyX1_ok : ∀ k, k < 15 → parseFieldDescriptor (TX1 k).2.2.1 = some (tyX1 k) := by decide +kernel
def RX4 : String := "ShareHouse$Node"
def TX4 : u_T := fun k => match k with
  | 0 => ("ShareHouse$Node", "number", "I", true)
  | 1 => ("ShareHouse$Node", "used", "Z", false)
  | 2 => ("ShareHouse$Node", "directory", "Z", false)
  | 3 => ("ShareHouse$Node", "toGo", "Z", false)
  | 4 => ("ShareHouse$Node", "parent", "I", false)
  | 5 => ("ShareHouse$Node", "name", "[B", true)
  | 6 => ("ShareHouse$Node", "nameLength", "I", false)
  | 7 => ("ShareHouse$Node", "attributes", "I", false)
  | 8 => ("ShareHouse$Node", "made", "J", false)
  | 9 => ("ShareHouse$Node", "looked", "J", false)
  | 10 => ("ShareHouse$Node", "written", "J", false)
  | 11 => ("ShareHouse$Node", "changed", "J", false)
  | 12 => ("ShareHouse$Node", "size", "I", false)
  | _ => ("ShareHouse$Node", "data", "[B", false)
def tyX4 : Nat → FieldType := fun k => match k with
  | 0 => .int
  | 1 => .boolean
  | 2 => .boolean
  | 3 => .boolean
  | 4 => .int
  | 5 => .array .byte
  | 6 => .int
  | 7 => .int
  | 8 => .long
  | 9 => .long
  | 10 => .long
  | 11 => .long
  | 12 => .int
  | _ => .array .byte
theorem nmX4 : ∀ a, a < 14 → ∀ b, b < 14 → a ≠ b → (TX4 a).2.1 ≠ (TX4 b).2.1 := by decide +kernel
theorem tyX4_ok : ∀ k, k < 14 → parseFieldDescriptor (TX4 k).2.2.1 = some (tyX4 k) := by decide +kernel
def RX9 : String := "ShareHouse$Volume"
def TX9 : u_T := fun k => match k with
  | 0 => ("ShareHouse$Volume", "nodes", "[LShareHouse$Node;", true)
  | _ => ("ShareHouse$Volume", "count", "I", false)
def tyX9 : Nat → FieldType := fun k => match k with
  | 0 => .array (.object "ShareHouse$Node")
  | _ => .int
theorem nmX9 : ∀ a, a < 2 → ∀ b, b < 2 → a ≠ b → (TX9 a).2.1 ≠ (TX9 b).2.1 := by decide +kernel
theorem tyX9_ok : ∀ k, k < 2 → parseFieldDescriptor (TX9 k).2.2.1 = some (tyX9 k) := by decide +kernel
def RJx4a65c : String := "java/util/ArrayList"
def TJx4a65c : u_T := fun k => match k with
  | 0 => ("java/util/AbstractList", "modCount", "I", false)
  | 1 => ("java/util/ArrayList", "elementData", "[Ljava/lang/Object;", false)
  | _ => ("java/util/ArrayList", "size", "I", false)
def tyJx4a65c : Nat → FieldType := fun k => match k with
  | 0 => .int
  | 1 => .array (.object "java/lang/Object")
  | _ => .int
theorem nmJx4a65c : ∀ a, a < 3 → ∀ b, b < 3 → a ≠ b → (TJx4a65c a).2.1 ≠ (TJx4a65c b).2.1 := by decide +kernel
theorem tyJx4a65c_ok : ∀ k, k < 3 → parseFieldDescriptor (TJx4a65c k).2.2.1 = some (tyJx4a65c k) := by decide +kernel
def RJxc12de : String := "java/util/AbstractList"
def RJxa1e45 : String := "java/util/AbstractCollection"
def RJ7 : String := "java/util/Arrays"
def RL : String := "ShareHouseLaw"
abbrev cX6_init : ByteArray := prog_8_method_1_code
def yX6_init : MethodName := ⟨RX6, "<init>", "()V"⟩
abbrev cX2_init : ByteArray := prog_4_method_1_code
def yX2_init : MethodName := ⟨RX2, "<init>", "()V"⟩
abbrev cX1_init : ByteArray := prog_3_method_1_code
def yX1_init : MethodName := ⟨RX1, "<init>", "()V"⟩
abbrev cX4_init : ByteArray := prog_6_method_1_code
def yX4_init : MethodName := ⟨RX4, "<init>", "(I)V"⟩
abbrev cX9_init : ByteArray := prog_11_method_1_code
def yX9_init : MethodName := ⟨RX9, "<init>", "()V"⟩
abbrev cX11_init : ByteArray := prog_1_method_1_code
def yX11_init : MethodName := ⟨RX11, "<init>", "()V"⟩
abbrev cJx4a65c_init_da8c8 : ByteArray := prog_26_method_2_code
def yJx4a65c_init_da8c8 : MethodName := ⟨RJx4a65c, "<init>", "()V"⟩
abbrev cJxc12de_init_da8c8 : ByteArray := prog_25_method_1_code
def yJxc12de_init_da8c8 : MethodName := ⟨RJxc12de, "<init>", "()V"⟩
abbrev cJxa1e45_init_da8c8 : ByteArray := prog_24_method_1_code
def yJxa1e45_init_da8c8 : MethodName := ⟨RJxa1e45, "<init>", "()V"⟩
abbrev cJ7_fill_53178 : ByteArray := prog_27_method_103_code
def yJ7_fill_53178 : MethodName := ⟨RJ7, "fill", "([II)V"⟩
abbrev cX6_add : ByteArray := prog_8_method_3_code
def yX6_add : MethodName := ⟨RX6, "add", "(I)V"⟩
abbrev cX6_addHighestFirst : ByteArray := prog_8_method_4_code
def yX6_addHighestFirst : MethodName := ⟨RX6, "addHighestFirst", "(I)V"⟩
abbrev cX11_feed : ByteArray := prog_1_method_2_code
def yX11_feed : MethodName := ⟨RX11, "feed", "(IIIII)I"⟩
abbrev cX11_cut : ByteArray := prog_1_method_3_code
def yX11_cut : MethodName := ⟨RX11, "cut", "(I)I"⟩
abbrev cX11_share : ByteArray := prog_1_method_4_code
def yX11_share : MethodName := ⟨RX11, "share", "(I)Z"⟩
abbrev cX11_tapeIsShareName : ByteArray := prog_1_method_16_code
def yX11_tapeIsShareName : MethodName := ⟨RX11, "tapeIsShareName", "()Z"⟩
abbrev cX11_connection : ByteArray := prog_1_method_15_code
def yX11_connection : MethodName := ⟨RX11, "connection", "(I)LShareHouse$Conn;"⟩
abbrev cX11_connect : ByteArray := prog_1_method_5_code
def yX11_connect : MethodName := ⟨RX11, "connect", "(I)Z"⟩
abbrev cX2_begin : ByteArray := prog_4_method_2_code
def yX2_begin : MethodName := ⟨RX2, "begin", "()V"⟩
abbrev cX11_hang : ByteArray := prog_1_method_6_code
def yX11_hang : MethodName := ⟨RX11, "hang", "(I)Z"⟩
abbrev cX11_come : ByteArray := prog_1_method_7_code
def yX11_come : MethodName := ⟨RX11, "come", "(I)I"⟩
abbrev cX11_isOpen : ByteArray := prog_1_method_8_code
def yX11_isOpen : MethodName := ⟨RX11, "isOpen", "(I)Z"⟩
abbrev cX11_tick : ByteArray := prog_1_method_9_code
def yX11_tick : MethodName := ⟨RX11, "tick", "(I)Z"⟩
abbrev cJx4a65c_size_8abf5 : ByteArray := prog_26_method_8_code
def yJx4a65c_size_8abf5 : MethodName := ⟨RJx4a65c, "size", "()I"⟩
abbrev cX11_crash : ByteArray := prog_1_method_10_code
def yX11_crash : MethodName := ⟨RX11, "crash", "(I)I"⟩
abbrev cX11_comeToDisk : ByteArray := prog_1_method_21_code
def yX11_comeToDisk : MethodName := ⟨RX11, "comeToDisk", "()V"⟩
abbrev cX9_copyFrom : ByteArray := prog_11_method_8_code
def yX9_copyFrom : MethodName := ⟨RX9, "copyFrom", "(LShareHouse$Volume;)V"⟩
abbrev cX4_copyFrom : ByteArray := prog_6_method_9_code
def yX4_copyFrom : MethodName := ⟨RX4, "copyFrom", "(LShareHouse$Node;)V"⟩
abbrev cX2_vanish : ByteArray := prog_4_method_3_code
def yX2_vanish : MethodName := ⟨RX2, "vanish", "()V"⟩
abbrev cJx4a65c_clear_da8c8 : ByteArray := prog_26_method_40_code
def yJx4a65c_clear_da8c8 : MethodName := ⟨RJx4a65c, "clear", "()V"⟩
abbrev cJ7_fill_d0a16 : ByteArray := prog_27_method_101_code
def yJ7_fill_d0a16 : MethodName := ⟨RJ7, "fill", "([JJ)V"⟩
abbrev cX11_outs : ByteArray := prog_1_method_11_code
def yX11_outs : MethodName := ⟨RX11, "outs", "(I)I"⟩
abbrev cX11_out : ByteArray := prog_1_method_12_code
def yX11_out : MethodName := ⟨RX11, "out", "(II)I"⟩
abbrev cX11_drop : ByteArray := prog_1_method_13_code
def yX11_drop : MethodName := ⟨RX11, "drop", "(I)I"⟩
abbrev cX11_told : ByteArray := prog_1_method_14_code
def yX11_told : MethodName := ⟨RX11, "told", "(I)I"⟩
abbrev cX12_init : ByteArray := prog_14_method_1_code
def yX12_init : MethodName := ⟨RX12, "<init>", "()V"⟩
abbrev cX12_begin : ByteArray := prog_14_method_17_code
def yX12_begin : MethodName := ⟨RX12, "begin", "()V"⟩
abbrev cX12_copyNode : ByteArray := prog_14_method_10_code
def yX12_copyNode : MethodName := ⟨RX12, "copyNode", "(II)V"⟩
abbrev cX12_feed : ByteArray := prog_14_method_3_code
def yX12_feed : MethodName := ⟨RX12, "feed", "(IIIII)I"⟩
abbrev cX12_lay : ByteArray := prog_14_method_4_code
def yX12_lay : MethodName := ⟨RX12, "lay", "(I)V"⟩
abbrev cX12_cut : ByteArray := prog_14_method_5_code
def yX12_cut : MethodName := ⟨RX12, "cut", "(I)I"⟩
abbrev cX12_share : ByteArray := prog_14_method_18_code
def yX12_share : MethodName := ⟨RX12, "share", "(I)Z"⟩
abbrev cX12_isLine : ByteArray := prog_14_method_19_code
def yX12_isLine : MethodName := ⟨RX12, "isLine", "(I)Z"⟩
abbrev cX12_connect : ByteArray := prog_14_method_20_code
def yX12_connect : MethodName := ⟨RX12, "connect", "(I)Z"⟩
abbrev cX12_hang : ByteArray := prog_14_method_21_code
def yX12_hang : MethodName := ⟨RX12, "hang", "(I)Z"⟩
abbrev cX12_come_ : ByteArray := prog_14_method_33_code
def yX12_come_ : MethodName := ⟨RX12, "come", "(I)I"⟩
abbrev cX12_isOpen : ByteArray := prog_14_method_22_code
def yX12_isOpen : MethodName := ⟨RX12, "isOpen", "(I)Z"⟩
abbrev cX12_tick : ByteArray := prog_14_method_116_code
def yX12_tick : MethodName := ⟨RX12, "tick", "(I)Z"⟩
abbrev cX12_crash : ByteArray := prog_14_method_117_code
def yX12_crash : MethodName := ⟨RX12, "crash", "(I)I"⟩
abbrev cX12_come : ByteArray := prog_14_method_14_code
def yX12_come : MethodName := ⟨RX12, "come", "(IZ)V"⟩
abbrev cX12_outs : ByteArray := prog_14_method_118_code
def yX12_outs : MethodName := ⟨RX12, "outs", "(I)I"⟩
abbrev cX12_out : ByteArray := prog_14_method_119_code
def yX12_out : MethodName := ⟨RX12, "out", "(II)I"⟩
abbrev cX12_drop : ByteArray := prog_14_method_120_code
def yX12_drop : MethodName := ⟨RX12, "drop", "(I)I"⟩
abbrev cX12_told : ByteArray := prog_14_method_121_code
def yX12_told : MethodName := ⟨RX12, "told", "(I)I"⟩
abbrev cX12_nodes : ByteArray := prog_14_method_8_code
def yX12_nodes : MethodName := ⟨RX12, "nodes", "(I)I"⟩
abbrev cX12_count : ByteArray := prog_14_method_31_code
def yX12_count : MethodName := ⟨RX12, "count", "([J)I"⟩
abbrev cL_law : ByteArray := code
theorem in_r {bg ws : List Cond} (ps : List Nat) (hp : ws = ps.filterMap (fun i => bg[i]?)) : ∀ w ∈ ws, w ∈ bg := by
  intro w hw
  rw [hp] at hw
  obtain ⟨i, -, hi⟩ := List.mem_filterMap.mp hw
  exact List.mem_of_getElem? hi
theorem tb_0 {w : Cond} (h : w ∈ k2_sels lw_privs) : w ∈ lw_tbl := List.mem_append_left _ h
theorem tb_1 {w : Cond} (h : w ∈ tables_1_1) : w ∈ lw_tbl := List.mem_append_right _ (List.mem_append_left _ h)
theorem tb_2 {w : Cond} (h : w ∈ tables_1_2) : w ∈ lw_tbl := List.mem_append_right _ (List.mem_append_right _ (List.mem_append_left _ h))
theorem tb_3 {w : Cond} (h : w ∈ tables_1_3) : w ∈ lw_tbl := List.mem_append_right _ (List.mem_append_right _ (List.mem_append_right _ (List.mem_append_left _ h)))
theorem tb_4 {w : Cond} (h : w ∈ tables_1_4) : w ∈ lw_tbl := List.mem_append_right _ (List.mem_append_right _ (List.mem_append_right _ (List.mem_append_right _ (List.mem_append_left _ h))))
theorem tb_5 {w : Cond} (h : w ∈ tables_1_5) : w ∈ lw_tbl := List.mem_append_right _ (List.mem_append_right _ (List.mem_append_right _ (List.mem_append_right _ (List.mem_append_right _ (List.mem_append_left _ h)))))
theorem tb_6 {w : Cond} (h : w ∈ tables_1_6) : w ∈ lw_tbl := List.mem_append_right _ (List.mem_append_right _ (List.mem_append_right _ (List.mem_append_right _ (List.mem_append_right _ (List.mem_append_right _ (List.mem_append_left _ h))))))
theorem tb_7 {w : Cond} (h : w ∈ tables_1_7) : w ∈ lw_tbl := List.mem_append_right _ (List.mem_append_right _ (List.mem_append_right _ (List.mem_append_right _ (List.mem_append_right _ (List.mem_append_right _ (List.mem_append_right _ (List.mem_append_left _ h)))))))
theorem tb_8 {w : Cond} (h : w ∈ tables_1_8) : w ∈ lw_tbl := List.mem_append_right _ (List.mem_append_right _ (List.mem_append_right _ (List.mem_append_right _ (List.mem_append_right _ (List.mem_append_right _ (List.mem_append_right _ (List.mem_append_right _ (List.mem_append_left _ h))))))))
theorem tb_9 {w : Cond} (h : w ∈ tables_1_9) : w ∈ lw_tbl := List.mem_append_right _ (List.mem_append_right _ (List.mem_append_right _ (List.mem_append_right _ (List.mem_append_right _ (List.mem_append_right _ (List.mem_append_right _ (List.mem_append_right _ (List.mem_append_right _ (List.mem_append_left _ h)))))))))
theorem tb_10 {w : Cond} (h : w ∈ tables_1_10) : w ∈ lw_tbl := List.mem_append_right _ (List.mem_append_right _ (List.mem_append_right _ (List.mem_append_right _ (List.mem_append_right _ (List.mem_append_right _ (List.mem_append_right _ (List.mem_append_right _ (List.mem_append_right _ (List.mem_append_right _ (List.mem_append_left _ h))))))))))
theorem tb_11 {w : Cond} (h : w ∈ tables_1_11) : w ∈ lw_tbl := List.mem_append_right _ (List.mem_append_right _ (List.mem_append_right _ (List.mem_append_right _ (List.mem_append_right _ (List.mem_append_right _ (List.mem_append_right _ (List.mem_append_right _ (List.mem_append_right _ (List.mem_append_right _ (List.mem_append_right _ (h)))))))))))
def big_0_0 : List Cond := [Cond.selects "ShareHouse" ⟨"ShareHouse", "tapeIsShareName", "()Z"⟩ ⟨"ShareHouse", "tapeIsShareName", "()Z"⟩, Cond.selects "ShareHouse" ⟨"ShareHouse", "connection", "(I)LShareHouse$Conn;"⟩ ⟨"ShareHouse", "connection", "(I)LShareHouse$Conn;"⟩, Cond.selects "ShareHouse" ⟨"ShareHouse", "comeToDisk", "()V"⟩ ⟨"ShareHouse", "comeToDisk", "()V"⟩, Cond.selects "ShareHouseModel" ⟨"ShareHouseModel", "begin", "()V"⟩ ⟨"ShareHouseModel", "begin", "()V"⟩, Cond.selects "ShareHouseModel" ⟨"ShareHouseModel", "copyNode", "(II)V"⟩ ⟨"ShareHouseModel", "copyNode", "(II)V"⟩, Cond.selects "ShareHouseModel" ⟨"ShareHouseModel", "lay", "(I)V"⟩ ⟨"ShareHouseModel", "lay", "(I)V"⟩, Cond.selects "ShareHouseModel" ⟨"ShareHouseModel", "come", "(IZ)V"⟩ ⟨"ShareHouseModel", "come", "(IZ)V"⟩, Cond.selects "ShareHouseModel" ⟨"ShareHouseModel", "nodes", "(I)I"⟩ ⟨"ShareHouseModel", "nodes", "(I)I"⟩, Cond.selects "ShareHouseModel" ⟨"ShareHouseModel", "count", "([J)I"⟩ ⟨"ShareHouseModel", "count", "([J)I"⟩]
theorem big_0_0_in : big_0_0 = [0, 1, 2, 3, 4, 5, 6, 7, 8].filterMap (fun i => (k2_sels lw_privs)[i]?) := rfl
theorem big_0_0_tbl : ∀ w ∈ big_0_0, w ∈ lw_tbl := fun w h => tb_0 (in_r _ big_0_0_in w h)
theorem big_0_0_good : big_0_0.all goodWord = true := by decide +kernel
def big_1_9 : List Cond := [Cond.methodLink "ShareHouse$Row" 1 ⟨"java/lang/Object", "<init>", "()V"⟩, Cond.instanceMethod ⟨"java/lang/Object", "<init>", "()V"⟩, Cond.code ⟨"java/lang/Object", "<init>", "()V"⟩ object_method_1_code 1 none, Cond.arrayClass .byte, Cond.fieldLink "ShareHouse$Row" 7 "ShareHouse$Row" "bytes" "[B", Cond.methodLink "ShareHouse$Conn" 3 ⟨"java/lang/Object", "<init>", "()V"⟩, Cond.classLink "ShareHouse$Conn" 9 "ShareHouse$Row", Cond.initialized "ShareHouse$Row", Cond.instantiable "ShareHouse$Row" 2, Cond.code ⟨"ShareHouse$Row", "<init>", "()V"⟩ prog_8_method_1_code 1 none, Cond.instanceMethod ⟨"ShareHouse$Row", "<init>", "()V"⟩, Cond.fieldLink "ShareHouse$Conn" 12 "ShareHouse$Conn" "came" "LShareHouse$Row;", Cond.fieldLink "ShareHouse$Conn" 18 "ShareHouse$Conn" "sent" "LShareHouse$Row;", Cond.fieldLink "ShareHouse$Conn" 21 "ShareHouse$Conn" "free" "[J", Cond.methodLink "ShareHouse$Node" 3 ⟨"java/lang/Object", "<init>", "()V"⟩, Cond.fieldLink "ShareHouse$Node" 9 "ShareHouse$Node" "parent" "I", Cond.fieldLink "ShareHouse$Node" 15 "ShareHouse$Node" "name" "[B", Cond.fieldLink "ShareHouse$Node" 19 "ShareHouse$Node" "data" "[B", Cond.fieldLink "ShareHouse$Node" 22 "ShareHouse$Node" "number" "I", Cond.methodLink "ShareHouse$Volume" 3 ⟨"java/lang/Object", "<init>", "()V"⟩, Cond.classLink "ShareHouse$Volume" 9 "ShareHouse$Node", Cond.fieldLink "ShareHouse$Volume" 11 "ShareHouse$Volume" "nodes" "[LShareHouse$Node;", Cond.initialized "ShareHouse$Node", Cond.instantiable "ShareHouse$Node" 14, Cond.methodLink "ShareHouse$Volume" 17 ⟨"ShareHouse$Node", "<init>", "(I)V"⟩, Cond.code ⟨"ShareHouse$Node", "<init>", "(I)V"⟩ prog_6_method_1_code 2 none, Cond.instanceMethod ⟨"ShareHouse$Node", "<init>", "(I)V"⟩, Cond.methodLink "ShareHouse" 1 ⟨"java/lang/Object", "<init>", "()V"⟩, Cond.classLink "ShareHouse" 7 "ShareHouse$Row", Cond.classLink "ShareHouse" 16 "ShareHouse$Conn"]
theorem big_1_9_in : big_1_9 = [40, 33, 34, 53, 41, 187, 188, 2, 36, 39, 38, 194, 198, 200, 68, 81, 85, 115, 69, 61, 62, 147, 4, 64, 65, 67, 66, 32, 35, 54].filterMap (fun i => (tables_1_1)[i]?) := rfl
theorem big_1_9_tbl : ∀ w ∈ big_1_9, w ∈ lw_tbl := fun w h => tb_1 (in_r _ big_1_9_in w h)
theorem big_1_9_good : big_1_9.all goodWord = true := by decide +kernel
def big_1_39 : List Cond := [Cond.arrayClass .int, Cond.classLink "ShareHouse" 26 "ShareHouse$Volume", Cond.initialized "ShareHouse$Volume", Cond.instantiable "ShareHouse$Volume" 2, Cond.methodLink "ShareHouse" 28 ⟨"ShareHouse$Volume", "<init>", "()V"⟩, Cond.code ⟨"ShareHouse$Volume", "<init>", "()V"⟩ prog_11_method_1_code 2 none, Cond.instanceMethod ⟨"ShareHouse$Volume", "<init>", "()V"⟩, Cond.classLink "ShareHouse" 36 "ShareHouse$Change", Cond.classLink "ShareHouse" 42 "java/util/ArrayList", Cond.initialized "java/util/ArrayList", Cond.instantiable "java/util/ArrayList" 3, Cond.methodLink "ShareHouse" 44 ⟨"java/util/ArrayList", "<init>", "()V"⟩, Cond.code ⟨"java/util/ArrayList", "<init>", "()V"⟩ prog_26_method_2_code 1 none, Cond.instanceMethod ⟨"java/util/ArrayList", "<init>", "()V"⟩, Cond.initialized "ShareHouse$Conn", Cond.instantiable "ShareHouse$Conn" 15, Cond.code ⟨"ShareHouse$Conn", "<init>", "()V"⟩ prog_4_method_1_code 1 none, Cond.instanceMethod ⟨"ShareHouse$Conn", "<init>", "()V"⟩, Cond.initialized "ShareHouse$Change", Cond.initialized "java/util/Arrays", Cond.methodLink "java/util/ArrayList" 1 ⟨"java/util/AbstractList", "<init>", "()V"⟩, Cond.initialized "java/util/AbstractList", Cond.code ⟨"java/util/AbstractList", "<init>", "()V"⟩ prog_25_method_1_code 1 none, Cond.instanceMethod ⟨"java/util/AbstractList", "<init>", "()V"⟩, Cond.fieldLink "java/util/ArrayList" 39 "java/util/ArrayList" "DEFAULTCAPACITY_EMPTY_ELEMENTDATA" "[Ljava/lang/Object;", Cond.fieldLink "java/util/ArrayList" 9 "java/util/ArrayList" "elementData" "[Ljava/lang/Object;", Cond.methodLink "java/util/AbstractList" 1 ⟨"java/util/AbstractCollection", "<init>", "()V"⟩, Cond.initialized "java/util/AbstractCollection", Cond.code ⟨"java/util/AbstractCollection", "<init>", "()V"⟩ prog_24_method_1_code 1 none, Cond.instanceMethod ⟨"java/util/AbstractCollection", "<init>", "()V"⟩]
theorem big_1_39_in : big_1_39 = [146, 56, 3, 57, 58, 60, 59, 155, 157, 7, 158, 159, 161, 160, 8, 183, 186, 185, 9, 10, 162, 6, 164, 163, 169, 171, 165, 5, 167, 166].filterMap (fun i => (tables_1_1)[i]?) := rfl
theorem big_1_39_tbl : ∀ w ∈ big_1_39, w ∈ lw_tbl := fun w h => tb_1 (in_r _ big_1_39_in w h)
theorem big_1_39_good : big_1_39.all goodWord = true := by decide +kernel
def big_1_69 : List Cond := [Cond.fieldLink "java/util/AbstractList" 7 "java/util/AbstractList" "modCount" "I", Cond.methodLink "java/util/AbstractCollection" 1 ⟨"java/lang/Object", "<init>", "()V"⟩, Cond.fieldLink "ShareHouse$Row" 25 "ShareHouse$Row" "length" "I", Cond.fieldLink "ShareHouse" 85 "ShareHouse$Row" "length" "I", Cond.initialized "ShareHouse", Cond.fieldLink "ShareHouse" 112 "ShareHouse$Conn" "there" "Z", Cond.fieldLink "ShareHouse$Conn" 25 "ShareHouse$Conn" "there" "Z", Cond.fieldLink "ShareHouse$Conn" 29 "ShareHouse$Conn" "negotiated" "Z", Cond.fieldLink "ShareHouse$Conn" 32 "ShareHouse$Row" "length" "I", Cond.fieldLink "ShareHouse$Conn" 36 "ShareHouse$Conn" "freeCount" "I", Cond.fieldLink "ShareHouse$Conn" 39 "ShareHouse$Conn" "highest" "J", Cond.fieldLink "ShareHouse" 126 "ShareHouse$Row" "bytes" "[B", Cond.initialized "java/lang/Math", Cond.fieldLink "java/util/ArrayList" 48 "java/util/ArrayList" "size" "I", Cond.fieldLink "ShareHouse$Volume" 52 "ShareHouse$Volume" "count" "I", Cond.fieldLink "ShareHouse$Node" 77 "ShareHouse$Node" "used" "Z", Cond.fieldLink "ShareHouse$Node" 28 "ShareHouse$Node" "directory" "Z", Cond.fieldLink "ShareHouse$Node" 61 "ShareHouse$Node" "toGo" "Z", Cond.fieldLink "ShareHouse$Node" 64 "ShareHouse$Node" "nameLength" "I", Cond.initialized "java/lang/System", Cond.fieldLink "ShareHouse$Node" 25 "ShareHouse$Node" "attributes" "I", Cond.fieldLink "ShareHouse$Node" 35 "ShareHouse$Node" "made" "J", Cond.fieldLink "ShareHouse$Node" 45 "ShareHouse$Node" "looked" "J", Cond.fieldLink "ShareHouse$Node" 48 "ShareHouse$Node" "written" "J", Cond.fieldLink "ShareHouse$Node" 51 "ShareHouse$Node" "changed" "J", Cond.fieldLink "ShareHouse$Node" 32 "ShareHouse$Node" "size" "I", Cond.fieldLink "java/util/ArrayList" 63 "java/util/ArrayList" "modCount" "I", Cond.fieldLink "ShareHouse" 201 "ShareHouse$Conn" "sent" "LShareHouse$Row;", Cond.fieldLink "ShareHouse" 101 "ShareHouse$Volume" "count" "I", Cond.initialized "ShareHouseModel"]
theorem big_1_69_in : big_1_69 = [173, 168, 47, 45, 1, 191, 190, 192, 46, 201, 202, 42, 12, 172, 149, 73, 74, 78, 93, 13, 95, 100, 103, 106, 109, 112, 174, 199, 148, 11].filterMap (fun i => (tables_1_1)[i]?) := rfl
theorem big_1_69_tbl : ∀ w ∈ big_1_69, w ∈ lw_tbl := fun w h => tb_1 (in_r _ big_1_69_in w h)
theorem big_1_69_good : big_1_69.all goodWord = true := by decide +kernel
def big_1_99 : List Cond := [Cond.classLink "ShareHouseLaw" 7 "ShareHouse", Cond.instantiable "ShareHouse" 18, Cond.methodLink "ShareHouseLaw" 9 ⟨"ShareHouse", "<init>", "()V"⟩, Cond.code ⟨"ShareHouse", "<init>", "()V"⟩ prog_1_method_1_code 2 none, Cond.instanceMethod ⟨"ShareHouse", "<init>", "()V"⟩, Cond.sameField "java/util/ArrayList" "java/util/AbstractList" "modCount" "I", Cond.lays "ShareHouse$Row" "ShareHouse$Row" "bytes" "[B", Cond.lays "ShareHouse$Row" "ShareHouse$Row" "length" "I", Cond.lays "ShareHouse$Conn" "ShareHouse$Conn" "there" "Z", Cond.lays "ShareHouse$Conn" "ShareHouse$Conn" "negotiated" "Z", Cond.laysFinal "ShareHouse$Conn" "ShareHouse$Conn" "came" "LShareHouse$Row;", Cond.lays "ShareHouse$Conn" "ShareHouse$Conn" "size" "J", Cond.laysFinal "ShareHouse$Conn" "ShareHouse$Conn" "sent" "LShareHouse$Row;", Cond.laysFinal "ShareHouse$Conn" "ShareHouse$Conn" "free" "[J", Cond.lays "ShareHouse$Conn" "ShareHouse$Conn" "freeCount" "I", Cond.lays "ShareHouse$Conn" "ShareHouse$Conn" "highest" "J", Cond.lays "ShareHouse$Conn" "ShareHouse$Conn" "at" "I", Cond.lays "ShareHouse$Conn" "ShareHouse$Conn" "answerAt" "I", Cond.lays "ShareHouse$Conn" "ShareHouse$Conn" "beforeSession" "J", Cond.lays "ShareHouse$Conn" "ShareHouse$Conn" "beforeTree" "J", Cond.laysFinal "ShareHouse$Node" "ShareHouse$Node" "number" "I", Cond.lays "ShareHouse$Node" "ShareHouse$Node" "used" "Z", Cond.lays "ShareHouse$Node" "ShareHouse$Node" "directory" "Z", Cond.lays "ShareHouse$Node" "ShareHouse$Node" "toGo" "Z", Cond.lays "ShareHouse$Node" "ShareHouse$Node" "parent" "I", Cond.laysFinal "ShareHouse$Node" "ShareHouse$Node" "name" "[B", Cond.lays "ShareHouse$Node" "ShareHouse$Node" "nameLength" "I", Cond.lays "ShareHouse$Node" "ShareHouse$Node" "attributes" "I", Cond.lays "ShareHouse$Node" "ShareHouse$Node" "made" "J", Cond.lays "ShareHouse$Node" "ShareHouse$Node" "looked" "J"]
theorem big_1_99_in : big_1_99 = [27, 28, 29, 31, 30, 175, 48, 50, 217, 219, 221, 223, 225, 227, 229, 231, 233, 235, 237, 239, 117, 119, 121, 123, 125, 127, 129, 131, 133, 135].filterMap (fun i => (tables_1_1)[i]?) := rfl
theorem big_1_99_tbl : ∀ w ∈ big_1_99, w ∈ lw_tbl := fun w h => tb_1 (in_r _ big_1_99_in w h)
theorem big_1_99_good : big_1_99.all goodWord = true := by decide +kernel
def big_1_129 : List Cond := [Cond.lays "ShareHouse$Node" "ShareHouse$Node" "written" "J", Cond.lays "ShareHouse$Node" "ShareHouse$Node" "changed" "J", Cond.lays "ShareHouse$Node" "ShareHouse$Node" "size" "I", Cond.lays "ShareHouse$Node" "ShareHouse$Node" "data" "[B", Cond.laysFinal "ShareHouse$Volume" "ShareHouse$Volume" "nodes" "[LShareHouse$Node;", Cond.lays "ShareHouse$Volume" "ShareHouse$Volume" "count" "I", Cond.lays "java/util/ArrayList" "java/util/AbstractList" "modCount" "I", Cond.lays "java/util/ArrayList" "java/util/ArrayList" "elementData" "[Ljava/lang/Object;", Cond.lays "java/util/ArrayList" "java/util/ArrayList" "size" "I"]
theorem big_1_129_in : big_1_129 = [137, 139, 141, 143, 150, 152, 180, 176, 178].filterMap (fun i => (tables_1_1)[i]?) := rfl
theorem big_1_129_tbl : ∀ w ∈ big_1_129, w ∈ lw_tbl := fun w h => tb_1 (in_r _ big_1_129_in w h)
theorem big_1_129_good : big_1_129.all goodWord = true := by decide +kernel
def big_2_138 : List Cond := [Cond.arrayClass .long, Cond.methodLink "ShareHouse$Change" 3 ⟨"java/lang/Object", "<init>", "()V"⟩, Cond.fieldLink "ShareHouse$Change" 9 "ShareHouse$Change" "name" "[B", Cond.fieldLink "ShareHouse$Change" 15 "ShareHouse$Change" "bytes" "[B", Cond.fieldLink "ShareHouse" 10 "ShareHouse" "tape" "LShareHouse$Row;", Cond.fieldLink "ShareHouse" 18 "ShareHouse" "conns" "[LShareHouse$Conn;", Cond.fieldLink "ShareHouse" 22 "ShareHouse" "roots" "[I", Cond.fieldLink "ShareHouse" 29 "ShareHouse" "live" "LShareHouse$Volume;", Cond.fieldLink "ShareHouse" 33 "ShareHouse" "disk" "LShareHouse$Volume;", Cond.fieldLink "ShareHouse" 38 "ShareHouse" "waiting" "[LShareHouse$Change;", Cond.fieldLink "ShareHouse" 45 "ShareHouse" "sessions" "Ljava/util/ArrayList;", Cond.fieldLink "ShareHouse" 49 "ShareHouse" "trees" "Ljava/util/ArrayList;", Cond.fieldLink "ShareHouse" 52 "ShareHouse" "opens" "Ljava/util/ArrayList;", Cond.fieldLink "ShareHouse" 55 "ShareHouse" "locks" "Ljava/util/ArrayList;", Cond.fieldLink "ShareHouse" 58 "ShareHouse" "waits" "Ljava/util/ArrayList;", Cond.fieldLink "ShareHouse" 61 "ShareHouse" "serials" "[J", Cond.fieldLink "ShareHouse" 65 "ShareHouse" "reply" "LShareHouse$Row;", Cond.fieldLink "ShareHouse" 68 "ShareHouse" "answer" "LShareHouse$Row;", Cond.fieldLink "ShareHouse" 71 "ShareHouse" "later" "LShareHouse$Row;", Cond.fieldLink "ShareHouse" 74 "ShareHouse" "breaking" "LShareHouse$Row;", Cond.instantiable "ShareHouse$Change" 15, Cond.code ⟨"ShareHouse$Change", "<init>", "()V"⟩ prog_3_method_1_code 1 none, Cond.instanceMethod ⟨"ShareHouse$Change", "<init>", "()V"⟩, Cond.methodLink "ShareHouse" 79 ⟨"java/util/Arrays", "fill", "([II)V"⟩, Cond.code ⟨"java/util/Arrays", "fill", "([II)V"⟩ prog_27_method_103_code 4 none, Cond.static ⟨"java/util/Arrays", "fill", "([II)V"⟩, Cond.methodLink "ShareHouse$Row" 33 ⟨"ShareHouse$Row", "add", "(I)V"⟩, Cond.code ⟨"ShareHouse$Row", "add", "(I)V"⟩ prog_8_method_3_code 2 none, Cond.instanceMethod ⟨"ShareHouse$Row", "add", "(I)V"⟩, Cond.selects "ShareHouse$Row" ⟨"ShareHouse$Row", "add", "(I)V"⟩ ⟨"ShareHouse$Row", "add", "(I)V"⟩]
theorem big_2_138_in : big_2_138 = [8, 13, 23, 53, 89, 90, 91, 92, 93, 94, 97, 98, 99, 100, 101, 102, 103, 104, 105, 106, 9, 12, 11, 86, 88, 87, 152, 155, 153, 154].filterMap (fun i => (tables_1_2)[i]?) := rfl
theorem big_2_138_tbl : ∀ w ∈ big_2_138, w ∈ lw_tbl := fun w h => tb_2 (in_r _ big_2_138_in w h)
theorem big_2_138_good : big_2_138.all goodWord = true := by decide +kernel
def big_2_168 : List Cond := [Cond.methodLink "ShareHouse" 89 ⟨"ShareHouse$Row", "addHighestFirst", "(I)V"⟩, Cond.code ⟨"ShareHouse$Row", "addHighestFirst", "(I)V"⟩ prog_8_method_4_code 2 none, Cond.instanceMethod ⟨"ShareHouse$Row", "addHighestFirst", "(I)V"⟩, Cond.selects "ShareHouse$Row" ⟨"ShareHouse$Row", "addHighestFirst", "(I)V"⟩ ⟨"ShareHouse$Row", "addHighestFirst", "(I)V"⟩, Cond.methodLink "ShareHouse" 93 ⟨"ShareHouse", "tapeIsShareName", "()Z"⟩, Cond.code ⟨"ShareHouse", "tapeIsShareName", "()Z"⟩ prog_1_method_16_code 4 (some .boolean), Cond.instanceMethod ⟨"ShareHouse", "tapeIsShareName", "()Z"⟩, Cond.code ⟨"java/lang/Math", "min", "(II)I"⟩ prog_19_method_69_code 2 (some .int), Cond.static ⟨"java/lang/Math", "min", "(II)I"⟩, Cond.fieldLink "ShareHouse" 157 "ShareHouse" "now" "J", Cond.fieldLink "ShareHouse" 182 "ShareHouse" "recordsWaiting" "I", Cond.methodLink "ShareHouse" 185 ⟨"ShareHouse", "comeToDisk", "()V"⟩, Cond.code ⟨"ShareHouse", "comeToDisk", "()V"⟩ prog_1_method_21_code 2 none, Cond.instanceMethod ⟨"ShareHouse", "comeToDisk", "()V"⟩, Cond.native ⟨"java/lang/System", "arraycopy", "(Ljava/lang/Object;ILjava/lang/Object;II)V"⟩, Cond.static ⟨"java/lang/System", "arraycopy", "(Ljava/lang/Object;ILjava/lang/Object;II)V"⟩, Cond.methodLink "ShareHouseLaw" 13 ⟨"ShareHouse", "feed", "(IIIII)I"⟩, Cond.code ⟨"ShareHouse", "feed", "(IIIII)I"⟩ prog_1_method_2_code 6 (some .int), Cond.instanceMethod ⟨"ShareHouse", "feed", "(IIIII)I"⟩, Cond.selects "ShareHouse" ⟨"ShareHouse", "feed", "(IIIII)I"⟩ ⟨"ShareHouse", "feed", "(IIIII)I"⟩, Cond.methodLink "ShareHouseLaw" 18 ⟨"ShareHouse", "cut", "(I)I"⟩, Cond.code ⟨"ShareHouse", "cut", "(I)I"⟩ prog_1_method_3_code 3 (some .int), Cond.instanceMethod ⟨"ShareHouse", "cut", "(I)I"⟩, Cond.selects "ShareHouse" ⟨"ShareHouse", "cut", "(I)I"⟩ ⟨"ShareHouse", "cut", "(I)I"⟩, Cond.methodLink "ShareHouseLaw" 23 ⟨"ShareHouse", "share", "(I)Z"⟩, Cond.code ⟨"ShareHouse", "share", "(I)Z"⟩ prog_1_method_4_code 3 (some .boolean), Cond.instanceMethod ⟨"ShareHouse", "share", "(I)Z"⟩, Cond.selects "ShareHouse" ⟨"ShareHouse", "share", "(I)Z"⟩ ⟨"ShareHouse", "share", "(I)Z"⟩, Cond.laysFinal "ShareHouse" "ShareHouse" "tape" "LShareHouse$Row;", Cond.laysFinal "ShareHouse" "ShareHouse" "conns" "[LShareHouse$Conn;"]
theorem big_2_168_in : big_2_168 = [148, 151, 149, 150, 180, 183, 182, 168, 167, 96, 95, 206, 209, 208, 171, 170, 144, 147, 145, 146, 172, 175, 173, 174, 176, 179, 177, 178, 107, 109].filterMap (fun i => (tables_1_2)[i]?) := rfl
theorem big_2_168_tbl : ∀ w ∈ big_2_168, w ∈ lw_tbl := fun w h => tb_2 (in_r _ big_2_168_in w h)
theorem big_2_168_good : big_2_168.all goodWord = true := by decide +kernel
def big_2_198 : List Cond := [Cond.laysFinal "ShareHouse" "ShareHouse" "roots" "[I", Cond.laysFinal "ShareHouse" "ShareHouse" "live" "LShareHouse$Volume;", Cond.laysFinal "ShareHouse" "ShareHouse" "disk" "LShareHouse$Volume;", Cond.laysFinal "ShareHouse" "ShareHouse" "waiting" "[LShareHouse$Change;", Cond.lays "ShareHouse" "ShareHouse" "recordsWaiting" "I", Cond.lays "ShareHouse" "ShareHouse" "now" "J", Cond.laysFinal "ShareHouse" "ShareHouse" "sessions" "Ljava/util/ArrayList;", Cond.laysFinal "ShareHouse" "ShareHouse" "trees" "Ljava/util/ArrayList;", Cond.laysFinal "ShareHouse" "ShareHouse" "opens" "Ljava/util/ArrayList;", Cond.laysFinal "ShareHouse" "ShareHouse" "locks" "Ljava/util/ArrayList;", Cond.laysFinal "ShareHouse" "ShareHouse" "waits" "Ljava/util/ArrayList;", Cond.laysFinal "ShareHouse" "ShareHouse" "serials" "[J", Cond.laysFinal "ShareHouse" "ShareHouse" "reply" "LShareHouse$Row;", Cond.laysFinal "ShareHouse" "ShareHouse" "answer" "LShareHouse$Row;", Cond.laysFinal "ShareHouse" "ShareHouse" "later" "LShareHouse$Row;", Cond.laysFinal "ShareHouse" "ShareHouse" "breaking" "LShareHouse$Row;", Cond.lays "ShareHouse$Conn" "ShareHouse$Conn" "beforeFile" "Z", Cond.lays "ShareHouse$Conn" "ShareHouse$Conn" "beforeLow" "J", Cond.lays "ShareHouse$Conn" "ShareHouse$Conn" "beforeHigh" "J", Cond.lays "ShareHouse$Change" "ShareHouse$Change" "kind" "I", Cond.lays "ShareHouse$Change" "ShareHouse$Change" "node" "I", Cond.lays "ShareHouse$Change" "ShareHouse$Change" "parent" "I", Cond.lays "ShareHouse$Change" "ShareHouse$Change" "directory" "Z", Cond.laysFinal "ShareHouse$Change" "ShareHouse$Change" "name" "[B", Cond.lays "ShareHouse$Change" "ShareHouse$Change" "nameLength" "I", Cond.lays "ShareHouse$Change" "ShareHouse$Change" "attributes" "I", Cond.lays "ShareHouse$Change" "ShareHouse$Change" "made" "J", Cond.lays "ShareHouse$Change" "ShareHouse$Change" "looked" "J", Cond.lays "ShareHouse$Change" "ShareHouse$Change" "written" "J", Cond.lays "ShareHouse$Change" "ShareHouse$Change" "changed" "J"]
theorem big_2_198_in : big_2_198 = [111, 113, 115, 117, 119, 121, 123, 125, 127, 129, 131, 133, 135, 137, 139, 141, 1, 3, 5, 55, 57, 59, 61, 63, 65, 67, 69, 71, 73, 75].filterMap (fun i => (tables_1_2)[i]?) := rfl
theorem big_2_198_tbl : ∀ w ∈ big_2_198, w ∈ lw_tbl := fun w h => tb_2 (in_r _ big_2_198_in w h)
theorem big_2_198_good : big_2_198.all goodWord = true := by decide +kernel
def big_2_228 : List Cond := [Cond.lays "ShareHouse$Change" "ShareHouse$Change" "size" "I", Cond.lays "ShareHouse$Change" "ShareHouse$Change" "from" "I", Cond.lays "ShareHouse$Change" "ShareHouse$Change" "many" "I", Cond.lays "ShareHouse$Change" "ShareHouse$Change" "bytes" "[B"]
theorem big_2_228_in : big_2_228 = [77, 79, 81, 83].filterMap (fun i => (tables_1_2)[i]?) := rfl
theorem big_2_228_tbl : ∀ w ∈ big_2_228, w ∈ lw_tbl := fun w h => tb_2 (in_r _ big_2_228_in w h)
theorem big_2_228_good : big_2_228.all goodWord = true := by decide +kernel
def big_3_232 : List Cond := [Cond.methodLink "ShareHouse" 108 ⟨"ShareHouse", "connection", "(I)LShareHouse$Conn;"⟩, Cond.code ⟨"ShareHouse", "connection", "(I)LShareHouse$Conn;"⟩ prog_1_method_15_code 2 (some (.object "ShareHouse$Conn")), Cond.instanceMethod ⟨"ShareHouse", "connection", "(I)LShareHouse$Conn;"⟩, Cond.methodLink "ShareHouse" 116 ⟨"ShareHouse$Conn", "begin", "()V"⟩, Cond.code ⟨"ShareHouse$Conn", "begin", "()V"⟩ prog_4_method_2_code 1 none, Cond.instanceMethod ⟨"ShareHouse$Conn", "begin", "()V"⟩, Cond.selects "ShareHouse$Conn" ⟨"ShareHouse$Conn", "begin", "()V"⟩ ⟨"ShareHouse$Conn", "begin", "()V"⟩, Cond.methodLink "ShareHouse" 130 ⟨"java/lang/Math", "min", "(II)I"⟩, Cond.constant "ShareHouse" 156 1000000, Cond.methodLink "ShareHouse" 161 ⟨"java/util/ArrayList", "size", "()I"⟩, Cond.code ⟨"java/util/ArrayList", "size", "()I"⟩ prog_26_method_8_code 1 (some .int), Cond.instanceMethod ⟨"java/util/ArrayList", "size", "()I"⟩, Cond.selects "java/util/ArrayList" ⟨"java/util/ArrayList", "size", "()I"⟩ ⟨"java/util/ArrayList", "size", "()I"⟩, Cond.methodLink "ShareHouseLaw" 28 ⟨"ShareHouse", "connect", "(I)Z"⟩, Cond.code ⟨"ShareHouse", "connect", "(I)Z"⟩ prog_1_method_5_code 3 (some .boolean), Cond.instanceMethod ⟨"ShareHouse", "connect", "(I)Z"⟩, Cond.selects "ShareHouse" ⟨"ShareHouse", "connect", "(I)Z"⟩ ⟨"ShareHouse", "connect", "(I)Z"⟩, Cond.methodLink "ShareHouseLaw" 32 ⟨"ShareHouse", "hang", "(I)Z"⟩, Cond.code ⟨"ShareHouse", "hang", "(I)Z"⟩ prog_1_method_6_code 3 (some .boolean), Cond.instanceMethod ⟨"ShareHouse", "hang", "(I)Z"⟩, Cond.selects "ShareHouse" ⟨"ShareHouse", "hang", "(I)Z"⟩ ⟨"ShareHouse", "hang", "(I)Z"⟩]
theorem big_3_232_in : big_3_232 = [8, 11, 10, 12, 15, 13, 14, 3, 61, 28, 31, 29, 30, 4, 7, 5, 6, 16, 19, 17, 18].filterMap (fun i => (tables_1_3)[i]?) := rfl
theorem big_3_232_tbl : ∀ w ∈ big_3_232, w ∈ lw_tbl := fun w h => tb_3 (in_r _ big_3_232_in w h)
theorem big_3_232_good : big_3_232.all goodWord = true := by decide +kernel
def big_4_253 : List Cond := [Cond.methodLink "ShareHouseLaw" 36 ⟨"ShareHouse", "come", "(I)I"⟩, Cond.code ⟨"ShareHouse", "come", "(I)I"⟩ prog_1_method_7_code 9 (some .int), Cond.instanceMethod ⟨"ShareHouse", "come", "(I)I"⟩, Cond.selects "ShareHouse" ⟨"ShareHouse", "come", "(I)I"⟩ ⟨"ShareHouse", "come", "(I)I"⟩]
theorem big_4_253_in : big_4_253 = [148, 151, 149, 150].filterMap (fun i => (tables_1_4)[i]?) := rfl
theorem big_4_253_tbl : ∀ w ∈ big_4_253, w ∈ lw_tbl := fun w h => tb_4 (in_r _ big_4_253_in w h)
theorem big_4_253_good : big_4_253.all goodWord = true := by decide +kernel
def big_7_257 : List Cond := [Cond.methodLink "ShareHouse" 188 ⟨"ShareHouse$Volume", "copyFrom", "(LShareHouse$Volume;)V"⟩, Cond.code ⟨"ShareHouse$Volume", "copyFrom", "(LShareHouse$Volume;)V"⟩ prog_11_method_8_code 3 none, Cond.instanceMethod ⟨"ShareHouse$Volume", "copyFrom", "(LShareHouse$Volume;)V"⟩, Cond.selects "ShareHouse$Volume" ⟨"ShareHouse$Volume", "copyFrom", "(LShareHouse$Volume;)V"⟩ ⟨"ShareHouse$Volume", "copyFrom", "(LShareHouse$Volume;)V"⟩, Cond.methodLink "ShareHouse" 192 ⟨"ShareHouse$Conn", "vanish", "()V"⟩, Cond.code ⟨"ShareHouse$Conn", "vanish", "()V"⟩ prog_4_method_3_code 1 none, Cond.instanceMethod ⟨"ShareHouse$Conn", "vanish", "()V"⟩, Cond.selects "ShareHouse$Conn" ⟨"ShareHouse$Conn", "vanish", "()V"⟩ ⟨"ShareHouse$Conn", "vanish", "()V"⟩, Cond.methodLink "ShareHouse" 195 ⟨"java/util/ArrayList", "clear", "()V"⟩, Cond.code ⟨"java/util/ArrayList", "clear", "()V"⟩ prog_26_method_40_code 4 none, Cond.instanceMethod ⟨"java/util/ArrayList", "clear", "()V"⟩, Cond.selects "java/util/ArrayList" ⟨"java/util/ArrayList", "clear", "()V"⟩ ⟨"java/util/ArrayList", "clear", "()V"⟩, Cond.methodLink "ShareHouse" 198 ⟨"java/util/Arrays", "fill", "([JJ)V"⟩, Cond.code ⟨"java/util/Arrays", "fill", "([JJ)V"⟩ prog_27_method_101_code 5 none, Cond.static ⟨"java/util/Arrays", "fill", "([JJ)V"⟩, Cond.methodLink "ShareHouse$Volume" 130 ⟨"ShareHouse$Node", "copyFrom", "(LShareHouse$Node;)V"⟩, Cond.code ⟨"ShareHouse$Node", "copyFrom", "(LShareHouse$Node;)V"⟩ prog_6_method_9_code 2 none, Cond.instanceMethod ⟨"ShareHouse$Node", "copyFrom", "(LShareHouse$Node;)V"⟩, Cond.selects "ShareHouse$Node" ⟨"ShareHouse$Node", "copyFrom", "(LShareHouse$Node;)V"⟩ ⟨"ShareHouse$Node", "copyFrom", "(LShareHouse$Node;)V"⟩, Cond.methodLink "ShareHouse$Node" 80 ⟨"java/lang/System", "arraycopy", "(Ljava/lang/Object;ILjava/lang/Object;II)V"⟩, Cond.methodLink "ShareHouseModel" 1 ⟨"java/lang/Object", "<init>", "()V"⟩, Cond.fieldLink "ShareHouseModel" 7 "ShareHouseModel" "tape" "[B", Cond.fieldLink "ShareHouseModel" 13 "ShareHouseModel" "is" "[Z", Cond.fieldLink "ShareHouseModel" 17 "ShareHouseModel" "above" "[I", Cond.fieldLink "ShareHouseModel" 21 "ShareHouseModel" "isDir" "[Z", Cond.fieldLink "ShareHouseModel" 24 "ShareHouseModel" "names" "[B", Cond.fieldLink "ShareHouseModel" 27 "ShareHouseModel" "nameSize" "[I", Cond.fieldLink "ShareHouseModel" 30 "ShareHouseModel" "attributes" "[I", Cond.fieldLink "ShareHouseModel" 33 "ShareHouseModel" "times" "[J", Cond.fieldLink "ShareHouseModel" 37 "ShareHouseModel" "sizes" "[I"]
theorem big_7_257_in : big_7_257 = [118, 121, 119, 120, 127, 130, 128, 129, 131, 134, 132, 133, 135, 137, 136, 122, 125, 123, 124, 126, 159, 173, 176, 177, 178, 179, 180, 181, 182, 183].filterMap (fun i => (tables_1_7)[i]?) := rfl
theorem big_7_257_tbl : ∀ w ∈ big_7_257, w ∈ lw_tbl := fun w h => tb_7 (in_r _ big_7_257_in w h)
theorem big_7_257_good : big_7_257.all goodWord = true := by decide +kernel
def big_7_287 : List Cond := [Cond.constant "ShareHouseModel" 40 655360, Cond.fieldLink "ShareHouseModel" 41 "ShareHouseModel" "bytes" "[B", Cond.fieldLink "ShareHouseModel" 44 "ShareHouseModel" "isToGo" "[Z", Cond.fieldLink "ShareHouseModel" 47 "ShareHouseModel" "shareRoot" "[I", Cond.fieldLink "ShareHouseModel" 50 "ShareHouseModel" "shareNames" "[B", Cond.fieldLink "ShareHouseModel" 53 "ShareHouseModel" "shareSize" "[I", Cond.fieldLink "ShareHouseModel" 56 "ShareHouseModel" "rKind" "[I", Cond.fieldLink "ShareHouseModel" 59 "ShareHouseModel" "rNode" "[I", Cond.fieldLink "ShareHouseModel" 62 "ShareHouseModel" "rAbove" "[I", Cond.fieldLink "ShareHouseModel" 65 "ShareHouseModel" "rDir" "[Z", Cond.fieldLink "ShareHouseModel" 68 "ShareHouseModel" "rName" "[B", Cond.fieldLink "ShareHouseModel" 71 "ShareHouseModel" "rNameSize" "[I", Cond.fieldLink "ShareHouseModel" 74 "ShareHouseModel" "rAttributes" "[I", Cond.fieldLink "ShareHouseModel" 77 "ShareHouseModel" "rTimes" "[J", Cond.fieldLink "ShareHouseModel" 80 "ShareHouseModel" "rFrom" "[I", Cond.fieldLink "ShareHouseModel" 83 "ShareHouseModel" "rMany" "[I", Cond.fieldLink "ShareHouseModel" 86 "ShareHouseModel" "rBytes" "[B", Cond.fieldLink "ShareHouseModel" 89 "ShareHouseModel" "isConnected" "[Z", Cond.fieldLink "ShareHouseModel" 92 "ShareHouseModel" "isAgreed" "[Z", Cond.constant "ShareHouseModel" 95 96000, Cond.fieldLink "ShareHouseModel" 96 "ShareHouseModel" "outs" "[B", Cond.fieldLink "ShareHouseModel" 99 "ShareHouseModel" "outSize" "[I", Cond.constant "ShareHouseModel" 102 72600, Cond.fieldLink "ShareHouseModel" 103 "ShareHouseModel" "ins" "[B", Cond.fieldLink "ShareHouseModel" 106 "ShareHouseModel" "inSize" "[I", Cond.fieldLink "ShareHouseModel" 109 "ShareHouseModel" "free" "[J", Cond.fieldLink "ShareHouseModel" 112 "ShareHouseModel" "frees" "[I", Cond.fieldLink "ShareHouseModel" 115 "ShareHouseModel" "highest" "[J", Cond.fieldLink "ShareHouseModel" 118 "ShareHouseModel" "sessionSerial" "[J", Cond.fieldLink "ShareHouseModel" 121 "ShareHouseModel" "sessionOn" "[I"]
theorem big_7_287_in : big_7_287 = [160, 184, 185, 186, 187, 188, 190, 191, 192, 193, 194, 195, 196, 197, 198, 199, 200, 201, 202, 161, 203, 204, 162, 205, 206, 207, 208, 209, 210, 211].filterMap (fun i => (tables_1_7)[i]?) := rfl
theorem big_7_287_tbl : ∀ w ∈ big_7_287, w ∈ lw_tbl := fun w h => tb_7 (in_r _ big_7_287_in w h)
theorem big_7_287_good : big_7_287.all goodWord = true := by decide +kernel
def big_7_317 : List Cond := [Cond.fieldLink "ShareHouseModel" 124 "ShareHouseModel" "users" "[B", Cond.fieldLink "ShareHouseModel" 127 "ShareHouseModel" "userSize" "[I", Cond.fieldLink "ShareHouseModel" 130 "ShareHouseModel" "treeSerial" "[J", Cond.fieldLink "ShareHouseModel" 133 "ShareHouseModel" "treeOf" "[I", Cond.fieldLink "ShareHouseModel" 136 "ShareHouseModel" "treeShare" "[I", Cond.fieldLink "ShareHouseModel" 139 "ShareHouseModel" "openSerial" "[J", Cond.fieldLink "ShareHouseModel" 142 "ShareHouseModel" "openTree" "[I", Cond.fieldLink "ShareHouseModel" 145 "ShareHouseModel" "openNode" "[I", Cond.fieldLink "ShareHouseModel" 148 "ShareHouseModel" "access" "[I", Cond.fieldLink "ShareHouseModel" 151 "ShareHouseModel" "shares" "[I", Cond.fieldLink "ShareHouseModel" 154 "ShareHouseModel" "oplock" "[I", Cond.fieldLink "ShareHouseModel" 157 "ShareHouseModel" "isBroken" "[Z", Cond.fieldLink "ShareHouseModel" 160 "ShareHouseModel" "brokenTo" "[I", Cond.fieldLink "ShareHouseModel" 163 "ShareHouseModel" "brokenAt" "[J", Cond.fieldLink "ShareHouseModel" 166 "ShareHouseModel" "goesOnClose" "[Z", Cond.fieldLink "ShareHouseModel" 169 "ShareHouseModel" "patternSize" "[I", Cond.fieldLink "ShareHouseModel" 172 "ShareHouseModel" "patterns" "[I", Cond.fieldLink "ShareHouseModel" 175 "ShareHouseModel" "lastKind" "[I", Cond.fieldLink "ShareHouseModel" 178 "ShareHouseModel" "lastName" "[B", Cond.fieldLink "ShareHouseModel" 181 "ShareHouseModel" "lastSize" "[I", Cond.fieldLink "ShareHouseModel" 184 "ShareHouseModel" "lockOpen" "[J", Cond.fieldLink "ShareHouseModel" 187 "ShareHouseModel" "lockNode" "[I", Cond.fieldLink "ShareHouseModel" 190 "ShareHouseModel" "lockFrom" "[J", Cond.constant "ShareHouseModel" 241 64000, Cond.constant "ShareHouseModel" 245 90000, Cond.methodLink "ShareHouseModel" 258 ⟨"ShareHouseModel", "begin", "()V"⟩, Cond.code ⟨"ShareHouseModel", "begin", "()V"⟩ prog_14_method_17_code 2 none, Cond.instanceMethod ⟨"ShareHouseModel", "begin", "()V"⟩, Cond.fieldLink "ShareHouseModel" 289 "ShareHouseModel" "locks" "I", Cond.fieldLink "ShareHouseModel" 271 "ShareHouseModel" "records" "I"]
theorem big_7_317_in : big_7_317 = [212, 213, 214, 215, 216, 217, 218, 219, 220, 221, 222, 223, 224, 225, 226, 227, 228, 229, 230, 231, 237, 238, 239, 163, 164, 165, 168, 167, 236, 189].filterMap (fun i => (tables_1_7)[i]?) := rfl
theorem big_7_317_tbl : ∀ w ∈ big_7_317, w ∈ lw_tbl := fun w h => tb_7 (in_r _ big_7_317_in w h)
theorem big_7_317_good : big_7_317.all goodWord = true := by decide +kernel
def big_7_347 : List Cond := [Cond.fieldLink "ShareHouseModel" 295 "ShareHouseModel" "sessionRow" "J", Cond.fieldLink "ShareHouseModel" 299 "ShareHouseModel" "treeRow" "J", Cond.fieldLink "ShareHouseModel" 302 "ShareHouseModel" "openRow" "J", Cond.fieldLink "ShareHouseModel" 305 "ShareHouseModel" "asyncRow" "J", Cond.methodLink "ShareHouseModel" 308 ⟨"ShareHouseModel", "copyNode", "(II)V"⟩, Cond.code ⟨"ShareHouseModel", "copyNode", "(II)V"⟩ prog_14_method_10_code 4 none, Cond.instanceMethod ⟨"ShareHouseModel", "copyNode", "(II)V"⟩, Cond.fieldLink "ShareHouseModel" 261 "ShareHouseModel" "tapeSize" "I", Cond.fieldLink "ShareHouseModel" 322 "ShareHouseModel" "now" "J", Cond.classLink "ShareHouseLaw" 10 "ShareHouseModel", Cond.instantiable "ShareHouseModel" 120, Cond.methodLink "ShareHouseLaw" 12 ⟨"ShareHouseModel", "<init>", "()V"⟩, Cond.code ⟨"ShareHouseModel", "<init>", "()V"⟩ prog_14_method_1_code 2 none, Cond.instanceMethod ⟨"ShareHouseModel", "<init>", "()V"⟩, Cond.methodLink "ShareHouseLaw" 40 ⟨"ShareHouse", "isOpen", "(I)Z"⟩, Cond.code ⟨"ShareHouse", "isOpen", "(I)Z"⟩ prog_1_method_8_code 3 (some .boolean), Cond.instanceMethod ⟨"ShareHouse", "isOpen", "(I)Z"⟩, Cond.selects "ShareHouse" ⟨"ShareHouse", "isOpen", "(I)Z"⟩ ⟨"ShareHouse", "isOpen", "(I)Z"⟩, Cond.methodLink "ShareHouseLaw" 44 ⟨"ShareHouse", "tick", "(I)Z"⟩, Cond.code ⟨"ShareHouse", "tick", "(I)Z"⟩ prog_1_method_9_code 4 (some .boolean), Cond.instanceMethod ⟨"ShareHouse", "tick", "(I)Z"⟩, Cond.selects "ShareHouse" ⟨"ShareHouse", "tick", "(I)Z"⟩ ⟨"ShareHouse", "tick", "(I)Z"⟩, Cond.methodLink "ShareHouseLaw" 48 ⟨"ShareHouse", "crash", "(I)I"⟩, Cond.code ⟨"ShareHouse", "crash", "(I)I"⟩ prog_1_method_10_code 4 (some .int), Cond.instanceMethod ⟨"ShareHouse", "crash", "(I)I"⟩, Cond.selects "ShareHouse" ⟨"ShareHouse", "crash", "(I)I"⟩ ⟨"ShareHouse", "crash", "(I)I"⟩, Cond.methodLink "ShareHouseLaw" 52 ⟨"ShareHouse", "outs", "(I)I"⟩, Cond.code ⟨"ShareHouse", "outs", "(I)I"⟩ prog_1_method_11_code 3 (some .int), Cond.instanceMethod ⟨"ShareHouse", "outs", "(I)I"⟩, Cond.selects "ShareHouse" ⟨"ShareHouse", "outs", "(I)I"⟩ ⟨"ShareHouse", "outs", "(I)I"⟩]
theorem big_7_347_in : big_7_347 = [232, 233, 234, 235, 169, 172, 171, 174, 175, 154, 155, 156, 158, 157, 105, 108, 106, 107, 109, 112, 110, 111, 114, 117, 115, 116, 138, 141, 139, 140].filterMap (fun i => (tables_1_7)[i]?) := rfl
theorem big_7_347_tbl : ∀ w ∈ big_7_347, w ∈ lw_tbl := fun w h => tb_7 (in_r _ big_7_347_in w h)
theorem big_7_347_good : big_7_347.all goodWord = true := by decide +kernel
def big_7_377 : List Cond := [Cond.methodLink "ShareHouseLaw" 56 ⟨"ShareHouse", "out", "(II)I"⟩, Cond.code ⟨"ShareHouse", "out", "(II)I"⟩ prog_1_method_12_code 4 (some .int), Cond.instanceMethod ⟨"ShareHouse", "out", "(II)I"⟩, Cond.selects "ShareHouse" ⟨"ShareHouse", "out", "(II)I"⟩ ⟨"ShareHouse", "out", "(II)I"⟩, Cond.methodLink "ShareHouseLaw" 61 ⟨"ShareHouse", "drop", "(I)I"⟩, Cond.code ⟨"ShareHouse", "drop", "(I)I"⟩ prog_1_method_13_code 4 (some .int), Cond.instanceMethod ⟨"ShareHouse", "drop", "(I)I"⟩, Cond.selects "ShareHouse" ⟨"ShareHouse", "drop", "(I)I"⟩ ⟨"ShareHouse", "drop", "(I)I"⟩, Cond.methodLink "ShareHouseLaw" 65 ⟨"ShareHouse", "told", "(I)I"⟩, Cond.code ⟨"ShareHouse", "told", "(I)I"⟩ prog_1_method_14_code 2 (some .int), Cond.instanceMethod ⟨"ShareHouse", "told", "(I)I"⟩, Cond.selects "ShareHouse" ⟨"ShareHouse", "told", "(I)I"⟩ ⟨"ShareHouse", "told", "(I)I"⟩]
theorem big_7_377_in : big_7_377 = [142, 145, 143, 144, 146, 149, 147, 148, 150, 153, 151, 152].filterMap (fun i => (tables_1_7)[i]?) := rfl
theorem big_7_377_tbl : ∀ w ∈ big_7_377, w ∈ lw_tbl := fun w h => tb_7 (in_r _ big_7_377_in w h)
theorem big_7_377_good : big_7_377.all goodWord = true := by decide +kernel
def big_8_389 : List Cond := [Cond.fieldLink "ShareHouseModel" 193 "ShareHouseModel" "lockMany" "[J", Cond.fieldLink "ShareHouseModel" 196 "ShareHouseModel" "lockShared" "[Z", Cond.fieldLink "ShareHouseModel" 199 "ShareHouseModel" "wOn" "[I", Cond.fieldLink "ShareHouseModel" 202 "ShareHouseModel" "wCommand" "[I", Cond.fieldLink "ShareHouseModel" 205 "ShareHouseModel" "wCharge" "[I", Cond.fieldLink "ShareHouseModel" 208 "ShareHouseModel" "wRelated" "[Z", Cond.fieldLink "ShareHouseModel" 211 "ShareHouseModel" "wId" "[J", Cond.fieldLink "ShareHouseModel" 214 "ShareHouseModel" "wAsync" "[J", Cond.fieldLink "ShareHouseModel" 217 "ShareHouseModel" "wSession" "[I", Cond.fieldLink "ShareHouseModel" 220 "ShareHouseModel" "wTree" "[I", Cond.fieldLink "ShareHouseModel" 223 "ShareHouseModel" "wOpen" "[J", Cond.fieldLink "ShareHouseModel" 226 "ShareHouseModel" "wNode" "[I", Cond.fieldLink "ShareHouseModel" 229 "ShareHouseModel" "wFrom" "[J", Cond.fieldLink "ShareHouseModel" 232 "ShareHouseModel" "wMany" "[J", Cond.fieldLink "ShareHouseModel" 235 "ShareHouseModel" "wShared" "[Z", Cond.fieldLink "ShareHouseModel" 238 "ShareHouseModel" "wSize" "[I", Cond.fieldLink "ShareHouseModel" 242 "ShareHouseModel" "wBytes" "[B", Cond.fieldLink "ShareHouseModel" 246 "ShareHouseModel" "answer" "[B", Cond.fieldLink "ShareHouseModel" 249 "ShareHouseModel" "units" "[I", Cond.fieldLink "ShareHouseModel" 252 "ShareHouseModel" "partFrom" "[I", Cond.fieldLink "ShareHouseModel" 255 "ShareHouseModel" "partSize" "[I", Cond.fieldLink "ShareHouseModel" 292 "ShareHouseModel" "waits" "I", Cond.laysFinal "ShareHouseModel" "ShareHouseModel" "tape" "[B", Cond.lays "ShareHouseModel" "ShareHouseModel" "tapeSize" "I", Cond.lays "ShareHouseModel" "ShareHouseModel" "now" "J", Cond.laysFinal "ShareHouseModel" "ShareHouseModel" "is" "[Z", Cond.laysFinal "ShareHouseModel" "ShareHouseModel" "above" "[I", Cond.laysFinal "ShareHouseModel" "ShareHouseModel" "isDir" "[Z", Cond.laysFinal "ShareHouseModel" "ShareHouseModel" "names" "[B", Cond.laysFinal "ShareHouseModel" "ShareHouseModel" "nameSize" "[I"]
theorem big_8_389_in : big_8_389 = [0, 1, 3, 4, 5, 6, 7, 8, 9, 10, 11, 12, 13, 14, 15, 16, 17, 22, 45, 46, 47, 2, 53, 55, 57, 59, 61, 63, 65, 67].filterMap (fun i => (tables_1_8)[i]?) := rfl
theorem big_8_389_tbl : ∀ w ∈ big_8_389, w ∈ lw_tbl := fun w h => tb_8 (in_r _ big_8_389_in w h)
theorem big_8_389_good : big_8_389.all goodWord = true := by decide +kernel
def big_8_419 : List Cond := [Cond.laysFinal "ShareHouseModel" "ShareHouseModel" "attributes" "[I", Cond.laysFinal "ShareHouseModel" "ShareHouseModel" "times" "[J", Cond.laysFinal "ShareHouseModel" "ShareHouseModel" "sizes" "[I", Cond.laysFinal "ShareHouseModel" "ShareHouseModel" "bytes" "[B", Cond.laysFinal "ShareHouseModel" "ShareHouseModel" "isToGo" "[Z", Cond.laysFinal "ShareHouseModel" "ShareHouseModel" "shareRoot" "[I", Cond.laysFinal "ShareHouseModel" "ShareHouseModel" "shareNames" "[B", Cond.laysFinal "ShareHouseModel" "ShareHouseModel" "shareSize" "[I", Cond.lays "ShareHouseModel" "ShareHouseModel" "records" "I", Cond.laysFinal "ShareHouseModel" "ShareHouseModel" "rKind" "[I", Cond.laysFinal "ShareHouseModel" "ShareHouseModel" "rNode" "[I", Cond.laysFinal "ShareHouseModel" "ShareHouseModel" "rAbove" "[I", Cond.laysFinal "ShareHouseModel" "ShareHouseModel" "rDir" "[Z", Cond.laysFinal "ShareHouseModel" "ShareHouseModel" "rName" "[B", Cond.laysFinal "ShareHouseModel" "ShareHouseModel" "rNameSize" "[I", Cond.laysFinal "ShareHouseModel" "ShareHouseModel" "rAttributes" "[I", Cond.laysFinal "ShareHouseModel" "ShareHouseModel" "rTimes" "[J", Cond.laysFinal "ShareHouseModel" "ShareHouseModel" "rFrom" "[I", Cond.laysFinal "ShareHouseModel" "ShareHouseModel" "rMany" "[I", Cond.laysFinal "ShareHouseModel" "ShareHouseModel" "rBytes" "[B", Cond.laysFinal "ShareHouseModel" "ShareHouseModel" "isConnected" "[Z", Cond.laysFinal "ShareHouseModel" "ShareHouseModel" "isAgreed" "[Z", Cond.laysFinal "ShareHouseModel" "ShareHouseModel" "outs" "[B", Cond.laysFinal "ShareHouseModel" "ShareHouseModel" "outSize" "[I", Cond.laysFinal "ShareHouseModel" "ShareHouseModel" "ins" "[B", Cond.laysFinal "ShareHouseModel" "ShareHouseModel" "inSize" "[I", Cond.laysFinal "ShareHouseModel" "ShareHouseModel" "free" "[J", Cond.laysFinal "ShareHouseModel" "ShareHouseModel" "frees" "[I", Cond.laysFinal "ShareHouseModel" "ShareHouseModel" "highest" "[J", Cond.laysFinal "ShareHouseModel" "ShareHouseModel" "sessionSerial" "[J"]
theorem big_8_419_in : big_8_419 = [69, 71, 73, 75, 77, 79, 81, 83, 85, 87, 89, 91, 93, 95, 97, 99, 101, 103, 105, 107, 109, 111, 113, 115, 117, 119, 121, 123, 125, 127].filterMap (fun i => (tables_1_8)[i]?) := rfl
theorem big_8_419_tbl : ∀ w ∈ big_8_419, w ∈ lw_tbl := fun w h => tb_8 (in_r _ big_8_419_in w h)
theorem big_8_419_good : big_8_419.all goodWord = true := by decide +kernel
def big_8_449 : List Cond := [Cond.laysFinal "ShareHouseModel" "ShareHouseModel" "sessionOn" "[I", Cond.laysFinal "ShareHouseModel" "ShareHouseModel" "users" "[B", Cond.laysFinal "ShareHouseModel" "ShareHouseModel" "userSize" "[I", Cond.laysFinal "ShareHouseModel" "ShareHouseModel" "treeSerial" "[J", Cond.laysFinal "ShareHouseModel" "ShareHouseModel" "treeOf" "[I", Cond.laysFinal "ShareHouseModel" "ShareHouseModel" "treeShare" "[I", Cond.laysFinal "ShareHouseModel" "ShareHouseModel" "openSerial" "[J", Cond.laysFinal "ShareHouseModel" "ShareHouseModel" "openTree" "[I", Cond.laysFinal "ShareHouseModel" "ShareHouseModel" "openNode" "[I", Cond.laysFinal "ShareHouseModel" "ShareHouseModel" "access" "[I", Cond.laysFinal "ShareHouseModel" "ShareHouseModel" "shares" "[I", Cond.laysFinal "ShareHouseModel" "ShareHouseModel" "oplock" "[I", Cond.laysFinal "ShareHouseModel" "ShareHouseModel" "isBroken" "[Z", Cond.laysFinal "ShareHouseModel" "ShareHouseModel" "brokenTo" "[I", Cond.laysFinal "ShareHouseModel" "ShareHouseModel" "brokenAt" "[J", Cond.laysFinal "ShareHouseModel" "ShareHouseModel" "goesOnClose" "[Z", Cond.laysFinal "ShareHouseModel" "ShareHouseModel" "patternSize" "[I", Cond.laysFinal "ShareHouseModel" "ShareHouseModel" "patterns" "[I", Cond.laysFinal "ShareHouseModel" "ShareHouseModel" "lastKind" "[I", Cond.laysFinal "ShareHouseModel" "ShareHouseModel" "lastName" "[B", Cond.laysFinal "ShareHouseModel" "ShareHouseModel" "lastSize" "[I", Cond.lays "ShareHouseModel" "ShareHouseModel" "sessionRow" "J", Cond.lays "ShareHouseModel" "ShareHouseModel" "treeRow" "J", Cond.lays "ShareHouseModel" "ShareHouseModel" "openRow" "J", Cond.lays "ShareHouseModel" "ShareHouseModel" "asyncRow" "J", Cond.lays "ShareHouseModel" "ShareHouseModel" "locks" "I", Cond.laysFinal "ShareHouseModel" "ShareHouseModel" "lockOpen" "[J", Cond.laysFinal "ShareHouseModel" "ShareHouseModel" "lockNode" "[I", Cond.laysFinal "ShareHouseModel" "ShareHouseModel" "lockFrom" "[J", Cond.laysFinal "ShareHouseModel" "ShareHouseModel" "lockMany" "[J"]
theorem big_8_449_in : big_8_449 = [129, 131, 133, 135, 137, 139, 141, 143, 145, 147, 149, 151, 153, 155, 157, 159, 161, 163, 165, 167, 169, 171, 173, 175, 177, 179, 181, 183, 185, 187].filterMap (fun i => (tables_1_8)[i]?) := rfl
theorem big_8_449_tbl : ∀ w ∈ big_8_449, w ∈ lw_tbl := fun w h => tb_8 (in_r _ big_8_449_in w h)
theorem big_8_449_good : big_8_449.all goodWord = true := by decide +kernel
def big_8_479 : List Cond := [Cond.laysFinal "ShareHouseModel" "ShareHouseModel" "lockShared" "[Z", Cond.lays "ShareHouseModel" "ShareHouseModel" "waits" "I", Cond.laysFinal "ShareHouseModel" "ShareHouseModel" "wOn" "[I", Cond.laysFinal "ShareHouseModel" "ShareHouseModel" "wCommand" "[I", Cond.laysFinal "ShareHouseModel" "ShareHouseModel" "wCharge" "[I", Cond.laysFinal "ShareHouseModel" "ShareHouseModel" "wRelated" "[Z", Cond.laysFinal "ShareHouseModel" "ShareHouseModel" "wId" "[J", Cond.laysFinal "ShareHouseModel" "ShareHouseModel" "wAsync" "[J", Cond.laysFinal "ShareHouseModel" "ShareHouseModel" "wSession" "[I", Cond.laysFinal "ShareHouseModel" "ShareHouseModel" "wTree" "[I", Cond.laysFinal "ShareHouseModel" "ShareHouseModel" "wOpen" "[J", Cond.laysFinal "ShareHouseModel" "ShareHouseModel" "wNode" "[I", Cond.laysFinal "ShareHouseModel" "ShareHouseModel" "wFrom" "[J", Cond.laysFinal "ShareHouseModel" "ShareHouseModel" "wMany" "[J", Cond.laysFinal "ShareHouseModel" "ShareHouseModel" "wShared" "[Z", Cond.laysFinal "ShareHouseModel" "ShareHouseModel" "wSize" "[I", Cond.laysFinal "ShareHouseModel" "ShareHouseModel" "wBytes" "[B", Cond.lays "ShareHouseModel" "ShareHouseModel" "in" "[B", Cond.lays "ShareHouseModel" "ShareHouseModel" "base" "I", Cond.lays "ShareHouseModel" "ShareHouseModel" "length" "I", Cond.lays "ShareHouseModel" "ShareHouseModel" "line" "I", Cond.laysFinal "ShareHouseModel" "ShareHouseModel" "answer" "[B", Cond.lays "ShareHouseModel" "ShareHouseModel" "start" "I", Cond.lays "ShareHouseModel" "ShareHouseModel" "size" "I", Cond.lays "ShareHouseModel" "ShareHouseModel" "isCut" "Z", Cond.lays "ShareHouseModel" "ShareHouseModel" "command" "I"]
theorem big_8_479_in : big_8_479 = [189, 191, 193, 195, 197, 199, 201, 203, 205, 207, 209, 211, 213, 215, 217, 219, 221, 223, 225, 227, 229, 231, 233, 235, 237, 239].filterMap (fun i => (tables_1_8)[i]?) := rfl
theorem big_8_479_tbl : ∀ w ∈ big_8_479, w ∈ lw_tbl := fun w h => tb_8 (in_r _ big_8_479_in w h)
theorem big_8_479_good : big_8_479.all goodWord = true := by decide +kernel
def big_9_505 : List Cond := [Cond.arrayClass .boolean, Cond.methodLink "ShareHouseModel" 265 ⟨"ShareHouseModel", "lay", "(I)V"⟩, Cond.code ⟨"ShareHouseModel", "lay", "(I)V"⟩ prog_14_method_4_code 3 none, Cond.instanceMethod ⟨"ShareHouseModel", "lay", "(I)V"⟩, Cond.methodLink "ShareHouseModel" 325 ⟨"ShareHouseModel", "isLine", "(I)Z"⟩, Cond.code ⟨"ShareHouseModel", "isLine", "(I)Z"⟩ prog_14_method_19_code 1 (some .boolean), Cond.static ⟨"ShareHouseModel", "isLine", "(I)Z"⟩, Cond.methodLink "ShareHouseModel" 281 ⟨"ShareHouseModel", "come", "(IZ)V"⟩, Cond.code ⟨"ShareHouseModel", "come", "(IZ)V"⟩ prog_14_method_14_code 4 none, Cond.instanceMethod ⟨"ShareHouseModel", "come", "(IZ)V"⟩, Cond.methodLink "ShareHouseModel" 315 ⟨"ShareHouseModel", "nodes", "(I)I"⟩, Cond.code ⟨"ShareHouseModel", "nodes", "(I)I"⟩ prog_14_method_8_code 4 (some .int), Cond.instanceMethod ⟨"ShareHouseModel", "nodes", "(I)I"⟩, Cond.methodLink "ShareHouseLaw" 17 ⟨"ShareHouseModel", "feed", "(IIIII)I"⟩, Cond.code ⟨"ShareHouseModel", "feed", "(IIIII)I"⟩ prog_14_method_3_code 6 (some .int), Cond.instanceMethod ⟨"ShareHouseModel", "feed", "(IIIII)I"⟩, Cond.selects "ShareHouseModel" ⟨"ShareHouseModel", "feed", "(IIIII)I"⟩ ⟨"ShareHouseModel", "feed", "(IIIII)I"⟩, Cond.methodLink "ShareHouseLaw" 22 ⟨"ShareHouseModel", "cut", "(I)I"⟩, Cond.code ⟨"ShareHouseModel", "cut", "(I)I"⟩ prog_14_method_5_code 3 (some .int), Cond.instanceMethod ⟨"ShareHouseModel", "cut", "(I)I"⟩, Cond.selects "ShareHouseModel" ⟨"ShareHouseModel", "cut", "(I)I"⟩ ⟨"ShareHouseModel", "cut", "(I)I"⟩, Cond.methodLink "ShareHouseLaw" 27 ⟨"ShareHouseModel", "share", "(I)Z"⟩, Cond.code ⟨"ShareHouseModel", "share", "(I)Z"⟩ prog_14_method_18_code 7 (some .boolean), Cond.instanceMethod ⟨"ShareHouseModel", "share", "(I)Z"⟩, Cond.selects "ShareHouseModel" ⟨"ShareHouseModel", "share", "(I)Z"⟩ ⟨"ShareHouseModel", "share", "(I)Z"⟩, Cond.methodLink "ShareHouseLaw" 31 ⟨"ShareHouseModel", "connect", "(I)Z"⟩, Cond.code ⟨"ShareHouseModel", "connect", "(I)Z"⟩ prog_14_method_20_code 2 (some .boolean), Cond.instanceMethod ⟨"ShareHouseModel", "connect", "(I)Z"⟩, Cond.selects "ShareHouseModel" ⟨"ShareHouseModel", "connect", "(I)Z"⟩ ⟨"ShareHouseModel", "connect", "(I)Z"⟩, Cond.methodLink "ShareHouseLaw" 35 ⟨"ShareHouseModel", "hang", "(I)Z"⟩]
theorem big_9_505_in : big_9_505 = [54, 59, 62, 61, 102, 104, 103, 82, 85, 84, 74, 77, 76, 55, 58, 56, 57, 63, 66, 64, 65, 67, 70, 68, 69, 98, 101, 99, 100, 105].filterMap (fun i => (tables_1_9)[i]?) := rfl
theorem big_9_505_tbl : ∀ w ∈ big_9_505, w ∈ lw_tbl := fun w h => tb_9 (in_r _ big_9_505_in w h)
theorem big_9_505_good : big_9_505.all goodWord = true := by decide +kernel
def big_9_535 : List Cond := [Cond.code ⟨"ShareHouseModel", "hang", "(I)Z"⟩ prog_14_method_21_code 2 (some .boolean), Cond.instanceMethod ⟨"ShareHouseModel", "hang", "(I)Z"⟩, Cond.selects "ShareHouseModel" ⟨"ShareHouseModel", "hang", "(I)Z"⟩ ⟨"ShareHouseModel", "hang", "(I)Z"⟩, Cond.lays "ShareHouseModel" "ShareHouseModel" "isRelated" "Z", Cond.lays "ShareHouseModel" "ShareHouseModel" "isLast" "Z", Cond.lays "ShareHouseModel" "ShareHouseModel" "sessionAsked" "J", Cond.lays "ShareHouseModel" "ShareHouseModel" "treeAsked" "J", Cond.lays "ShareHouseModel" "ShareHouseModel" "session" "I", Cond.lays "ShareHouseModel" "ShareHouseModel" "tree" "I", Cond.lays "ShareHouseModel" "ShareHouseModel" "open" "I", Cond.lays "ShareHouseModel" "ShareHouseModel" "fileLow" "J", Cond.lays "ShareHouseModel" "ShareHouseModel" "fileHigh" "J", Cond.lays "ShareHouseModel" "ShareHouseModel" "hasFile" "Z", Cond.lays "ShareHouseModel" "ShareHouseModel" "sessionBefore" "J", Cond.lays "ShareHouseModel" "ShareHouseModel" "treeBefore" "J", Cond.lays "ShareHouseModel" "ShareHouseModel" "lowBefore" "J", Cond.lays "ShareHouseModel" "ShareHouseModel" "highBefore" "J", Cond.lays "ShareHouseModel" "ShareHouseModel" "hadFile" "Z", Cond.lays "ShareHouseModel" "ShareHouseModel" "isWaiting" "Z", Cond.lays "ShareHouseModel" "ShareHouseModel" "answers" "I", Cond.lays "ShareHouseModel" "ShareHouseModel" "opened" "J", Cond.laysFinal "ShareHouseModel" "ShareHouseModel" "units" "[I", Cond.laysFinal "ShareHouseModel" "ShareHouseModel" "partFrom" "[I", Cond.laysFinal "ShareHouseModel" "ShareHouseModel" "partSize" "[I", Cond.lays "ShareHouseModel" "ShareHouseModel" "parts" "I", Cond.lays "ShareHouseModel" "ShareHouseModel" "inside" "I", Cond.lays "ShareHouseModel" "ShareHouseModel" "found" "I", Cond.lays "ShareHouseModel" "ShareHouseModel" "nextKind" "I", Cond.lays "ShareHouseModel" "ShareHouseModel" "nextNode" "I"]
theorem big_9_535_in : big_9_535 = [108, 106, 107, 1, 3, 5, 7, 9, 11, 13, 15, 17, 19, 21, 23, 25, 27, 29, 31, 33, 35, 37, 39, 41, 43, 45, 47, 49, 51].filterMap (fun i => (tables_1_9)[i]?) := rfl
theorem big_9_535_tbl : ∀ w ∈ big_9_535, w ∈ lw_tbl := fun w h => tb_9 (in_r _ big_9_535_in w h)
theorem big_9_535_good : big_9_535.all goodWord = true := by decide +kernel
def big_10_564 : List Cond := [Cond.methodLink "ShareHouseModel" 688 ⟨"ShareHouseModel", "count", "([J)I"⟩, Cond.code ⟨"ShareHouseModel", "count", "([J)I"⟩ prog_14_method_31_code 4 (some .int), Cond.instanceMethod ⟨"ShareHouseModel", "count", "([J)I"⟩, Cond.methodLink "ShareHouseLaw" 39 ⟨"ShareHouseModel", "come", "(I)I"⟩, Cond.code ⟨"ShareHouseModel", "come", "(I)I"⟩ prog_14_method_33_code 8 (some .int), Cond.instanceMethod ⟨"ShareHouseModel", "come", "(I)I"⟩, Cond.selects "ShareHouseModel" ⟨"ShareHouseModel", "come", "(I)I"⟩ ⟨"ShareHouseModel", "come", "(I)I"⟩, Cond.methodLink "ShareHouseLaw" 43 ⟨"ShareHouseModel", "isOpen", "(I)Z"⟩, Cond.code ⟨"ShareHouseModel", "isOpen", "(I)Z"⟩ prog_14_method_22_code 2 (some .boolean), Cond.instanceMethod ⟨"ShareHouseModel", "isOpen", "(I)Z"⟩, Cond.selects "ShareHouseModel" ⟨"ShareHouseModel", "isOpen", "(I)Z"⟩ ⟨"ShareHouseModel", "isOpen", "(I)Z"⟩]
theorem big_10_564_in : big_10_564 = [46, 49, 48, 124, 127, 125, 126, 120, 123, 121, 122].filterMap (fun i => (tables_1_10)[i]?) := rfl
theorem big_10_564_tbl : ∀ w ∈ big_10_564, w ∈ lw_tbl := fun w h => tb_10 (in_r _ big_10_564_in w h)
theorem big_10_564_good : big_10_564.all goodWord = true := by decide +kernel
def big_11_575 : List Cond := [Cond.constant "ShareHouseModel" 863 1000000, Cond.methodLink "ShareHouseLaw" 47 ⟨"ShareHouseModel", "tick", "(I)Z"⟩, Cond.code ⟨"ShareHouseModel", "tick", "(I)Z"⟩ prog_14_method_116_code 8 (some .boolean), Cond.instanceMethod ⟨"ShareHouseModel", "tick", "(I)Z"⟩, Cond.selects "ShareHouseModel" ⟨"ShareHouseModel", "tick", "(I)Z"⟩ ⟨"ShareHouseModel", "tick", "(I)Z"⟩, Cond.methodLink "ShareHouseLaw" 51 ⟨"ShareHouseModel", "crash", "(I)I"⟩, Cond.code ⟨"ShareHouseModel", "crash", "(I)I"⟩ prog_14_method_117_code 3 (some .int), Cond.instanceMethod ⟨"ShareHouseModel", "crash", "(I)I"⟩, Cond.selects "ShareHouseModel" ⟨"ShareHouseModel", "crash", "(I)I"⟩ ⟨"ShareHouseModel", "crash", "(I)I"⟩, Cond.methodLink "ShareHouseLaw" 55 ⟨"ShareHouseModel", "outs", "(I)I"⟩, Cond.code ⟨"ShareHouseModel", "outs", "(I)I"⟩ prog_14_method_118_code 2 (some .int), Cond.instanceMethod ⟨"ShareHouseModel", "outs", "(I)I"⟩, Cond.selects "ShareHouseModel" ⟨"ShareHouseModel", "outs", "(I)I"⟩ ⟨"ShareHouseModel", "outs", "(I)I"⟩, Cond.methodLink "ShareHouseLaw" 60 ⟨"ShareHouseModel", "out", "(II)I"⟩, Cond.code ⟨"ShareHouseModel", "out", "(II)I"⟩ prog_14_method_119_code 3 (some .int), Cond.instanceMethod ⟨"ShareHouseModel", "out", "(II)I"⟩, Cond.selects "ShareHouseModel" ⟨"ShareHouseModel", "out", "(II)I"⟩ ⟨"ShareHouseModel", "out", "(II)I"⟩, Cond.methodLink "ShareHouseLaw" 64 ⟨"ShareHouseModel", "drop", "(I)I"⟩, Cond.code ⟨"ShareHouseModel", "drop", "(I)I"⟩ prog_14_method_120_code 3 (some .int), Cond.instanceMethod ⟨"ShareHouseModel", "drop", "(I)I"⟩, Cond.selects "ShareHouseModel" ⟨"ShareHouseModel", "drop", "(I)I"⟩ ⟨"ShareHouseModel", "drop", "(I)I"⟩, Cond.methodLink "ShareHouseLaw" 68 ⟨"ShareHouseModel", "told", "(I)I"⟩, Cond.code ⟨"ShareHouseModel", "told", "(I)I"⟩ prog_14_method_121_code 2 (some .int), Cond.instanceMethod ⟨"ShareHouseModel", "told", "(I)I"⟩, Cond.selects "ShareHouseModel" ⟨"ShareHouseModel", "told", "(I)I"⟩ ⟨"ShareHouseModel", "told", "(I)I"⟩]
theorem big_11_575_in : big_11_575 = [83, 79, 82, 80, 81, 85, 88, 86, 87, 89, 92, 90, 91, 93, 96, 94, 95, 97, 100, 98, 99, 101, 104, 102, 103].filterMap (fun i => (tables_1_11)[i]?) := rfl
theorem big_11_575_tbl : ∀ w ∈ big_11_575, w ∈ lw_tbl := fun w h => tb_11 (in_r _ big_11_575_in w h)
theorem big_11_575_good : big_11_575.all goodWord = true := by decide +kernel
def big : List Cond := big_0_0 ++ (big_1_9 ++ (big_1_39 ++ (big_1_69 ++ (big_1_99 ++ (big_1_129 ++ (big_2_138 ++ (big_2_168 ++ (big_2_198 ++ (big_2_228 ++ (big_3_232 ++ (big_4_253 ++ (big_7_257 ++ (big_7_287 ++ (big_7_317 ++ (big_7_347 ++ (big_7_377 ++ (big_8_389 ++ (big_8_419 ++ (big_8_449 ++ (big_8_479 ++ (big_9_505 ++ (big_9_535 ++ (big_10_564 ++ (big_11_575))))))))))))))))))))))))
theorem big_tbl : ∀ w ∈ big, w ∈ lw_tbl := by
  show ∀ w ∈ big_0_0 ++ (big_1_9 ++ (big_1_39 ++ (big_1_69 ++ (big_1_99 ++ (big_1_129 ++ (big_2_138 ++ (big_2_168 ++ (big_2_198 ++ (big_2_228 ++ (big_3_232 ++ (big_4_253 ++ (big_7_257 ++ (big_7_287 ++ (big_7_317 ++ (big_7_347 ++ (big_7_377 ++ (big_8_389 ++ (big_8_419 ++ (big_8_449 ++ (big_8_479 ++ (big_9_505 ++ (big_9_535 ++ (big_10_564 ++ (big_11_575)))))))))))))))))))))))), w ∈ lw_tbl
  exact List.forall_mem_append.mpr ⟨big_0_0_tbl, List.forall_mem_append.mpr ⟨big_1_9_tbl, List.forall_mem_append.mpr ⟨big_1_39_tbl, List.forall_mem_append.mpr ⟨big_1_69_tbl, List.forall_mem_append.mpr ⟨big_1_99_tbl, List.forall_mem_append.mpr ⟨big_1_129_tbl, List.forall_mem_append.mpr ⟨big_2_138_tbl, List.forall_mem_append.mpr ⟨big_2_168_tbl, List.forall_mem_append.mpr ⟨big_2_198_tbl, List.forall_mem_append.mpr ⟨big_2_228_tbl, List.forall_mem_append.mpr ⟨big_3_232_tbl, List.forall_mem_append.mpr ⟨big_4_253_tbl, List.forall_mem_append.mpr ⟨big_7_257_tbl, List.forall_mem_append.mpr ⟨big_7_287_tbl, List.forall_mem_append.mpr ⟨big_7_317_tbl, List.forall_mem_append.mpr ⟨big_7_347_tbl, List.forall_mem_append.mpr ⟨big_7_377_tbl, List.forall_mem_append.mpr ⟨big_8_389_tbl, List.forall_mem_append.mpr ⟨big_8_419_tbl, List.forall_mem_append.mpr ⟨big_8_449_tbl, List.forall_mem_append.mpr ⟨big_8_479_tbl, List.forall_mem_append.mpr ⟨big_9_505_tbl, List.forall_mem_append.mpr ⟨big_9_535_tbl, List.forall_mem_append.mpr ⟨big_10_564_tbl, big_11_575_tbl⟩⟩⟩⟩⟩⟩⟩⟩⟩⟩⟩⟩⟩⟩⟩⟩⟩⟩⟩⟩⟩⟩⟩⟩
theorem big_good : ∀ w ∈ big, goodWord w = true := by
  show ∀ w ∈ big_0_0 ++ (big_1_9 ++ (big_1_39 ++ (big_1_69 ++ (big_1_99 ++ (big_1_129 ++ (big_2_138 ++ (big_2_168 ++ (big_2_198 ++ (big_2_228 ++ (big_3_232 ++ (big_4_253 ++ (big_7_257 ++ (big_7_287 ++ (big_7_317 ++ (big_7_347 ++ (big_7_377 ++ (big_8_389 ++ (big_8_419 ++ (big_8_449 ++ (big_8_479 ++ (big_9_505 ++ (big_9_535 ++ (big_10_564 ++ (big_11_575)))))))))))))))))))))))), goodWord w = true
  exact List.forall_mem_append.mpr ⟨List.all_eq_true.mp big_0_0_good, List.forall_mem_append.mpr ⟨List.all_eq_true.mp big_1_9_good, List.forall_mem_append.mpr ⟨List.all_eq_true.mp big_1_39_good, List.forall_mem_append.mpr ⟨List.all_eq_true.mp big_1_69_good, List.forall_mem_append.mpr ⟨List.all_eq_true.mp big_1_99_good, List.forall_mem_append.mpr ⟨List.all_eq_true.mp big_1_129_good, List.forall_mem_append.mpr ⟨List.all_eq_true.mp big_2_138_good, List.forall_mem_append.mpr ⟨List.all_eq_true.mp big_2_168_good, List.forall_mem_append.mpr ⟨List.all_eq_true.mp big_2_198_good, List.forall_mem_append.mpr ⟨List.all_eq_true.mp big_2_228_good, List.forall_mem_append.mpr ⟨List.all_eq_true.mp big_3_232_good, List.forall_mem_append.mpr ⟨List.all_eq_true.mp big_4_253_good, List.forall_mem_append.mpr ⟨List.all_eq_true.mp big_7_257_good, List.forall_mem_append.mpr ⟨List.all_eq_true.mp big_7_287_good, List.forall_mem_append.mpr ⟨List.all_eq_true.mp big_7_317_good, List.forall_mem_append.mpr ⟨List.all_eq_true.mp big_7_347_good, List.forall_mem_append.mpr ⟨List.all_eq_true.mp big_7_377_good, List.forall_mem_append.mpr ⟨List.all_eq_true.mp big_8_389_good, List.forall_mem_append.mpr ⟨List.all_eq_true.mp big_8_419_good, List.forall_mem_append.mpr ⟨List.all_eq_true.mp big_8_449_good, List.forall_mem_append.mpr ⟨List.all_eq_true.mp big_8_479_good, List.forall_mem_append.mpr ⟨List.all_eq_true.mp big_9_505_good, List.forall_mem_append.mpr ⟨List.all_eq_true.mp big_9_535_good, List.forall_mem_append.mpr ⟨List.all_eq_true.mp big_10_564_good, List.all_eq_true.mp big_11_575_good⟩⟩⟩⟩⟩⟩⟩⟩⟩⟩⟩⟩⟩⟩⟩⟩⟩⟩⟩⟩⟩⟩⟩⟩
theorem wb {w : Cond} (i : Nat) (h : big[i]? = some w) : w ∈ big := List.mem_of_getElem? h
theorem lay_X12 : ∀ w ∈ u_ws RX12 TX12 120, w ∈ big := in_r [411, 412, 413, 414, 415, 416, 417, 418, 419, 420, 421, 422, 423, 424, 425, 426, 427, 428, 429, 430, 431, 432, 433, 434, 435, 436, 437, 438, 439, 440, 441, 442, 443, 444, 445, 446, 447, 448, 449, 450, 451, 452, 453, 454, 455, 456, 457, 458, 459, 460, 461, 462, 463, 464, 465, 466, 467, 468, 469, 470, 471, 472, 473, 474, 475, 476, 477, 478, 479, 480, 481, 482, 483, 484, 485, 486, 487, 488, 489, 490, 491, 492, 493, 494, 495, 496, 497, 498, 499, 500, 501, 502, 503, 504, 538, 539, 540, 541, 542, 543, 544, 545, 546, 547, 548, 549, 550, 551, 552, 553, 554, 555, 556, 557, 558, 559, 560, 561, 562, 563] (by decide +kernel)
theorem lay_X11 : ∀ w ∈ u_ws RX11 TX11 18, w ∈ big := in_r [196, 197, 198, 199, 200, 201, 202, 203, 204, 205, 206, 207, 208, 209, 210, 211, 212, 213] (by decide +kernel)
theorem lay_X6 : ∀ w ∈ u_ws RX6 TX6 2, w ∈ big := in_r [105, 106] (by decide +kernel)
theorem lay_X2 : ∀ w ∈ u_ws RX2 TX2 15, w ∈ big := in_r [107, 108, 109, 110, 111, 112, 113, 114, 115, 116, 117, 118, 214, 215, 216] (by decide +kernel)
theorem lay_X1 : ∀ w ∈ u_ws RX1 TX1 15, w ∈ big := in_r [217, 218, 219, 220, 221, 222, 223, 224, 225, 226, 227, 228, 229, 230, 231] (by decide +kernel)
theorem lay_X4 : ∀ w ∈ u_ws RX4 TX4 14, w ∈ big := in_r [119, 120, 121, 122, 123, 124, 125, 126, 127, 128, 129, 130, 131, 132] (by decide +kernel)
theorem lay_X9 : ∀ w ∈ u_ws RX9 TX9 2, w ∈ big := in_r [133, 134] (by decide +kernel)
theorem lay_Jx4a65c : ∀ w ∈ u_ws RJx4a65c TJx4a65c 3, w ∈ big := in_r [135, 136, 137] (by decide +kernel)
abbrev cl1 : List vw_C := [(RX12, TX12, 120), (RX11, TX11, 18), (RX6, TX6, 2), (RX2, TX2, 15), (RX1, TX1, 15), (RX4, TX4, 14), (RX9, TX9, 2), (RJx4a65c, TJx4a65c, 3)]
end
section
theorem dX6_init_0 : decode cX6_init 0 = .ok (.aload_n 0, 1) := by decide +kernel
theorem dX6_init_1 : decode cX6_init 1 = .ok (.invokespecial 1, 3) := by decide +kernel
theorem dX6_init_4 : decode cX6_init 4 = .ok (.aload_n 0, 1) := by decide +kernel
theorem dX6_init_5 : decode cX6_init 5 = .ok (.bipush 64, 2) := by decide +kernel
theorem dX6_init_7 : decode cX6_init 7 = .ok (.newarray .byte, 2) := by decide +kernel
theorem dX6_init_9 : decode cX6_init 9 = .ok (.putfield 7, 3) := by decide +kernel
theorem dX6_init_12 : decode cX6_init 12 = .ok (.return_, 1) := by decide +kernel
theorem dX2_init_0 : decode cX2_init 0 = .ok (.aload_n 0, 1) := by decide +kernel
theorem dX2_init_1 : decode cX2_init 1 = .ok (.invokespecial 3, 3) := by decide +kernel
theorem dX2_init_4 : decode cX2_init 4 = .ok (.aload_n 0, 1) := by decide +kernel
theorem dX2_init_5 : decode cX2_init 5 = .ok (.new 9, 3) := by decide +kernel
theorem dX2_init_8 : decode cX2_init 8 = .ok (.dup, 1) := by decide +kernel
theorem dX2_init_9 : decode cX2_init 9 = .ok (.invokespecial 11, 3) := by decide +kernel
theorem dX2_init_12 : decode cX2_init 12 = .ok (.putfield 12, 3) := by decide +kernel
theorem dX2_init_15 : decode cX2_init 15 = .ok (.aload_n 0, 1) := by decide +kernel
theorem dX2_init_16 : decode cX2_init 16 = .ok (.new 9, 3) := by decide +kernel
theorem dX2_init_19 : decode cX2_init 19 = .ok (.dup, 1) := by decide +kernel
theorem dX2_init_20 : decode cX2_init 20 = .ok (.invokespecial 11, 3) := by decide +kernel
theorem dX2_init_23 : decode cX2_init 23 = .ok (.putfield 18, 3) := by decide +kernel
theorem dX2_init_26 : decode cX2_init 26 = .ok (.aload_n 0, 1) := by decide +kernel
theorem dX2_init_27 : decode cX2_init 27 = .ok (.bipush 16, 2) := by decide +kernel
theorem dX2_init_29 : decode cX2_init 29 = .ok (.newarray .long, 2) := by decide +kernel
theorem dX2_init_31 : decode cX2_init 31 = .ok (.putfield 21, 3) := by decide +kernel
theorem dX2_init_34 : decode cX2_init 34 = .ok (.return_, 1) := by decide +kernel
theorem dX1_init_0 : decode cX1_init 0 = .ok (.aload_n 0, 1) := by decide +kernel
theorem dX1_init_1 : decode cX1_init 1 = .ok (.invokespecial 3, 3) := by decide +kernel
theorem dX1_init_4 : decode cX1_init 4 = .ok (.aload_n 0, 1) := by decide +kernel
theorem dX1_init_5 : decode cX1_init 5 = .ok (.bipush 12, 2) := by decide +kernel
theorem dX1_init_7 : decode cX1_init 7 = .ok (.newarray .byte, 2) := by decide +kernel
theorem dX1_init_9 : decode cX1_init 9 = .ok (.putfield 9, 3) := by decide +kernel
theorem dX1_init_12 : decode cX1_init 12 = .ok (.aload_n 0, 1) := by decide +kernel
theorem dX1_init_13 : decode cX1_init 13 = .ok (.iconst 0, 1) := by decide +kernel
theorem dX1_init_14 : decode cX1_init 14 = .ok (.newarray .byte, 2) := by decide +kernel
theorem dX1_init_16 : decode cX1_init 16 = .ok (.putfield 15, 3) := by decide +kernel
theorem dX1_init_19 : decode cX1_init 19 = .ok (.return_, 1) := by decide +kernel
theorem dX4_init_0 : decode cX4_init 0 = .ok (.aload_n 0, 1) := by decide +kernel
theorem dX4_init_1 : decode cX4_init 1 = .ok (.invokespecial 3, 3) := by decide +kernel
theorem dX4_init_4 : decode cX4_init 4 = .ok (.aload_n 0, 1) := by decide +kernel
theorem dX4_init_5 : decode cX4_init 5 = .ok (.iconst (-1), 1) := by decide +kernel
theorem dX4_init_6 : decode cX4_init 6 = .ok (.putfield 9, 3) := by decide +kernel
theorem dX4_init_9 : decode cX4_init 9 = .ok (.aload_n 0, 1) := by decide +kernel
theorem dX4_init_10 : decode cX4_init 10 = .ok (.bipush 12, 2) := by decide +kernel
theorem dX4_init_12 : decode cX4_init 12 = .ok (.newarray .byte, 2) := by decide +kernel
theorem dX4_init_14 : decode cX4_init 14 = .ok (.putfield 15, 3) := by decide +kernel
theorem dX4_init_17 : decode cX4_init 17 = .ok (.aload_n 0, 1) := by decide +kernel
theorem dX4_init_18 : decode cX4_init 18 = .ok (.iconst 0, 1) := by decide +kernel
theorem dX4_init_19 : decode cX4_init 19 = .ok (.newarray .byte, 2) := by decide +kernel
theorem dX4_init_21 : decode cX4_init 21 = .ok (.putfield 19, 3) := by decide +kernel
theorem dX4_init_24 : decode cX4_init 24 = .ok (.aload_n 0, 1) := by decide +kernel
theorem dX4_init_25 : decode cX4_init 25 = .ok (.iload_n 1, 1) := by decide +kernel
theorem dX4_init_26 : decode cX4_init 26 = .ok (.putfield 22, 3) := by decide +kernel
theorem dX4_init_29 : decode cX4_init 29 = .ok (.return_, 1) := by decide +kernel
theorem dX9_init_0 : decode cX9_init 0 = .ok (.aload_n 0, 1) := by decide +kernel
theorem dX9_init_1 : decode cX9_init 1 = .ok (.invokespecial 3, 3) := by decide +kernel
theorem dX9_init_4 : decode cX9_init 4 = .ok (.aload_n 0, 1) := by decide +kernel
theorem dX9_init_5 : decode cX9_init 5 = .ok (.bipush 80, 2) := by decide +kernel
theorem dX9_init_7 : decode cX9_init 7 = .ok (.anewarray 9, 3) := by decide +kernel
theorem dX9_init_10 : decode cX9_init 10 = .ok (.putfield 11, 3) := by decide +kernel
theorem dX9_init_13 : decode cX9_init 13 = .ok (.iconst 0, 1) := by decide +kernel
theorem dX9_init_14 : decode cX9_init 14 = .ok (.istore_n 1, 1) := by decide +kernel
theorem dX9_init_15 : decode cX9_init 15 = .ok (.iload_n 1, 1) := by decide +kernel
theorem dX9_init_16 : decode cX9_init 16 = .ok (.aload_n 0, 1) := by decide +kernel
theorem dX9_init_17 : decode cX9_init 17 = .ok (.getfield 11, 3) := by decide +kernel
theorem dX9_init_20 : decode cX9_init 20 = .ok (.arraylength, 1) := by decide +kernel
theorem dX9_init_21 : decode cX9_init 21 = .ok (.if_icmp .ge 23, 3) := by decide +kernel
theorem dX9_init_24 : decode cX9_init 24 = .ok (.aload_n 0, 1) := by decide +kernel
theorem dX9_init_25 : decode cX9_init 25 = .ok (.getfield 11, 3) := by decide +kernel
theorem dX9_init_28 : decode cX9_init 28 = .ok (.iload_n 1, 1) := by decide +kernel
theorem dX9_init_29 : decode cX9_init 29 = .ok (.new 9, 3) := by decide +kernel
theorem dX9_init_32 : decode cX9_init 32 = .ok (.dup, 1) := by decide +kernel
theorem dX9_init_33 : decode cX9_init 33 = .ok (.iload_n 1, 1) := by decide +kernel
theorem dX9_init_34 : decode cX9_init 34 = .ok (.invokespecial 17, 3) := by decide +kernel
theorem dX9_init_37 : decode cX9_init 37 = .ok (.aastore, 1) := by decide +kernel
theorem dX9_init_38 : decode cX9_init 38 = .ok (.iinc 1 1, 3) := by decide +kernel
theorem dX9_init_41 : decode cX9_init 41 = .ok (.goto (-26), 3) := by decide +kernel
theorem dX9_init_44 : decode cX9_init 44 = .ok (.return_, 1) := by decide +kernel
theorem dX11_init_0 : decode cX11_init 0 = .ok (.aload_n 0, 1) := by decide +kernel
theorem dX11_init_1 : decode cX11_init 1 = .ok (.invokespecial 1, 3) := by decide +kernel
theorem dX11_init_4 : decode cX11_init 4 = .ok (.aload_n 0, 1) := by decide +kernel
theorem dX11_init_5 : decode cX11_init 5 = .ok (.new 7, 3) := by decide +kernel
theorem dX11_init_8 : decode cX11_init 8 = .ok (.dup, 1) := by decide +kernel
theorem dX11_init_9 : decode cX11_init 9 = .ok (.invokespecial 9, 3) := by decide +kernel
theorem dX11_init_12 : decode cX11_init 12 = .ok (.putfield 10, 3) := by decide +kernel
theorem dX11_init_15 : decode cX11_init 15 = .ok (.aload_n 0, 1) := by decide +kernel
theorem dX11_init_16 : decode cX11_init 16 = .ok (.bipush 6, 2) := by decide +kernel
theorem dX11_init_18 : decode cX11_init 18 = .ok (.anewarray 16, 3) := by decide +kernel
theorem dX11_init_21 : decode cX11_init 21 = .ok (.putfield 18, 3) := by decide +kernel
theorem dX11_init_24 : decode cX11_init 24 = .ok (.aload_n 0, 1) := by decide +kernel
theorem dX11_init_25 : decode cX11_init 25 = .ok (.iconst 4, 1) := by decide +kernel
theorem dX11_init_26 : decode cX11_init 26 = .ok (.newarray .int, 2) := by decide +kernel
theorem dX11_init_28 : decode cX11_init 28 = .ok (.putfield 22, 3) := by decide +kernel
theorem dX11_init_31 : decode cX11_init 31 = .ok (.aload_n 0, 1) := by decide +kernel
theorem dX11_init_32 : decode cX11_init 32 = .ok (.new 26, 3) := by decide +kernel
theorem dX11_init_35 : decode cX11_init 35 = .ok (.dup, 1) := by decide +kernel
theorem dX11_init_36 : decode cX11_init 36 = .ok (.invokespecial 28, 3) := by decide +kernel
theorem dX11_init_39 : decode cX11_init 39 = .ok (.putfield 29, 3) := by decide +kernel
theorem dX11_init_42 : decode cX11_init 42 = .ok (.aload_n 0, 1) := by decide +kernel
theorem dX11_init_43 : decode cX11_init 43 = .ok (.new 26, 3) := by decide +kernel
theorem dX11_init_46 : decode cX11_init 46 = .ok (.dup, 1) := by decide +kernel
theorem dX11_init_47 : decode cX11_init 47 = .ok (.invokespecial 28, 3) := by decide +kernel
theorem dX11_init_50 : decode cX11_init 50 = .ok (.putfield 33, 3) := by decide +kernel
theorem dX11_init_53 : decode cX11_init 53 = .ok (.aload_n 0, 1) := by decide +kernel
theorem dX11_init_54 : decode cX11_init 54 = .ok (.bipush 8, 2) := by decide +kernel
theorem dX11_init_56 : decode cX11_init 56 = .ok (.anewarray 36, 3) := by decide +kernel
theorem dX11_init_59 : decode cX11_init 59 = .ok (.putfield 38, 3) := by decide +kernel
theorem dX11_init_62 : decode cX11_init 62 = .ok (.aload_n 0, 1) := by decide +kernel
theorem dX11_init_63 : decode cX11_init 63 = .ok (.new 42, 3) := by decide +kernel
theorem dX11_init_66 : decode cX11_init 66 = .ok (.dup, 1) := by decide +kernel
theorem dX11_init_67 : decode cX11_init 67 = .ok (.invokespecial 44, 3) := by decide +kernel
theorem dX11_init_70 : decode cX11_init 70 = .ok (.putfield 45, 3) := by decide +kernel
theorem dX11_init_73 : decode cX11_init 73 = .ok (.aload_n 0, 1) := by decide +kernel
theorem dX11_init_74 : decode cX11_init 74 = .ok (.new 42, 3) := by decide +kernel
theorem dX11_init_77 : decode cX11_init 77 = .ok (.dup, 1) := by decide +kernel
theorem dX11_init_78 : decode cX11_init 78 = .ok (.invokespecial 44, 3) := by decide +kernel
theorem dX11_init_81 : decode cX11_init 81 = .ok (.putfield 49, 3) := by decide +kernel
theorem dX11_init_84 : decode cX11_init 84 = .ok (.aload_n 0, 1) := by decide +kernel
theorem dX11_init_85 : decode cX11_init 85 = .ok (.new 42, 3) := by decide +kernel
theorem dX11_init_88 : decode cX11_init 88 = .ok (.dup, 1) := by decide +kernel
theorem dX11_init_89 : decode cX11_init 89 = .ok (.invokespecial 44, 3) := by decide +kernel
theorem dX11_init_92 : decode cX11_init 92 = .ok (.putfield 52, 3) := by decide +kernel
theorem dX11_init_95 : decode cX11_init 95 = .ok (.aload_n 0, 1) := by decide +kernel
theorem dX11_init_96 : decode cX11_init 96 = .ok (.new 42, 3) := by decide +kernel
theorem dX11_init_99 : decode cX11_init 99 = .ok (.dup, 1) := by decide +kernel
theorem dX11_init_100 : decode cX11_init 100 = .ok (.invokespecial 44, 3) := by decide +kernel
theorem dX11_init_103 : decode cX11_init 103 = .ok (.putfield 55, 3) := by decide +kernel
theorem dX11_init_106 : decode cX11_init 106 = .ok (.aload_n 0, 1) := by decide +kernel
theorem dX11_init_107 : decode cX11_init 107 = .ok (.new 42, 3) := by decide +kernel
theorem dX11_init_110 : decode cX11_init 110 = .ok (.dup, 1) := by decide +kernel
theorem dX11_init_111 : decode cX11_init 111 = .ok (.invokespecial 44, 3) := by decide +kernel
theorem dX11_init_114 : decode cX11_init 114 = .ok (.putfield 58, 3) := by decide +kernel
theorem dX11_init_117 : decode cX11_init 117 = .ok (.aload_n 0, 1) := by decide +kernel
theorem dX11_init_118 : decode cX11_init 118 = .ok (.iconst 4, 1) := by decide +kernel
theorem dX11_init_119 : decode cX11_init 119 = .ok (.newarray .long, 2) := by decide +kernel
theorem dX11_init_121 : decode cX11_init 121 = .ok (.putfield 61, 3) := by decide +kernel
theorem dX11_init_124 : decode cX11_init 124 = .ok (.aload_n 0, 1) := by decide +kernel
theorem dX11_init_125 : decode cX11_init 125 = .ok (.new 7, 3) := by decide +kernel
theorem dX11_init_128 : decode cX11_init 128 = .ok (.dup, 1) := by decide +kernel
theorem dX11_init_129 : decode cX11_init 129 = .ok (.invokespecial 9, 3) := by decide +kernel
theorem dX11_init_132 : decode cX11_init 132 = .ok (.putfield 65, 3) := by decide +kernel
theorem dX11_init_135 : decode cX11_init 135 = .ok (.aload_n 0, 1) := by decide +kernel
theorem dX11_init_136 : decode cX11_init 136 = .ok (.new 7, 3) := by decide +kernel
theorem dX11_init_139 : decode cX11_init 139 = .ok (.dup, 1) := by decide +kernel
theorem dX11_init_140 : decode cX11_init 140 = .ok (.invokespecial 9, 3) := by decide +kernel
theorem dX11_init_143 : decode cX11_init 143 = .ok (.putfield 68, 3) := by decide +kernel
theorem dX11_init_146 : decode cX11_init 146 = .ok (.aload_n 0, 1) := by decide +kernel
theorem dX11_init_147 : decode cX11_init 147 = .ok (.new 7, 3) := by decide +kernel
theorem dX11_init_150 : decode cX11_init 150 = .ok (.dup, 1) := by decide +kernel
theorem dX11_init_151 : decode cX11_init 151 = .ok (.invokespecial 9, 3) := by decide +kernel
theorem dX11_init_154 : decode cX11_init 154 = .ok (.putfield 71, 3) := by decide +kernel
theorem dX11_init_157 : decode cX11_init 157 = .ok (.aload_n 0, 1) := by decide +kernel
theorem dX11_init_158 : decode cX11_init 158 = .ok (.new 7, 3) := by decide +kernel
theorem dX11_init_161 : decode cX11_init 161 = .ok (.dup, 1) := by decide +kernel
theorem dX11_init_162 : decode cX11_init 162 = .ok (.invokespecial 9, 3) := by decide +kernel
theorem dX11_init_165 : decode cX11_init 165 = .ok (.putfield 74, 3) := by decide +kernel
theorem dX11_init_168 : decode cX11_init 168 = .ok (.iconst 0, 1) := by decide +kernel
theorem dX11_init_169 : decode cX11_init 169 = .ok (.istore_n 1, 1) := by decide +kernel
theorem dX11_init_170 : decode cX11_init 170 = .ok (.iload_n 1, 1) := by decide +kernel
theorem dX11_init_171 : decode cX11_init 171 = .ok (.aload_n 0, 1) := by decide +kernel
theorem dX11_init_172 : decode cX11_init 172 = .ok (.getfield 18, 3) := by decide +kernel
theorem dX11_init_175 : decode cX11_init 175 = .ok (.arraylength, 1) := by decide +kernel
theorem dX11_init_176 : decode cX11_init 176 = .ok (.if_icmp .ge 22, 3) := by decide +kernel
theorem dX11_init_179 : decode cX11_init 179 = .ok (.aload_n 0, 1) := by decide +kernel
theorem dX11_init_180 : decode cX11_init 180 = .ok (.getfield 18, 3) := by decide +kernel
theorem dX11_init_183 : decode cX11_init 183 = .ok (.iload_n 1, 1) := by decide +kernel
theorem dX11_init_184 : decode cX11_init 184 = .ok (.new 16, 3) := by decide +kernel
theorem dX11_init_187 : decode cX11_init 187 = .ok (.dup, 1) := by decide +kernel
theorem dX11_init_188 : decode cX11_init 188 = .ok (.invokespecial 77, 3) := by decide +kernel
theorem dX11_init_191 : decode cX11_init 191 = .ok (.aastore, 1) := by decide +kernel
theorem dX11_init_192 : decode cX11_init 192 = .ok (.iinc 1 1, 3) := by decide +kernel
theorem dX11_init_195 : decode cX11_init 195 = .ok (.goto (-25), 3) := by decide +kernel
theorem dX11_init_198 : decode cX11_init 198 = .ok (.iconst 0, 1) := by decide +kernel
theorem dX11_init_199 : decode cX11_init 199 = .ok (.istore_n 1, 1) := by decide +kernel
theorem dX11_init_200 : decode cX11_init 200 = .ok (.iload_n 1, 1) := by decide +kernel
theorem dX11_init_201 : decode cX11_init 201 = .ok (.aload_n 0, 1) := by decide +kernel
theorem dX11_init_202 : decode cX11_init 202 = .ok (.getfield 38, 3) := by decide +kernel
theorem dX11_init_205 : decode cX11_init 205 = .ok (.arraylength, 1) := by decide +kernel
theorem dX11_init_206 : decode cX11_init 206 = .ok (.if_icmp .ge 22, 3) := by decide +kernel
theorem dX11_init_209 : decode cX11_init 209 = .ok (.aload_n 0, 1) := by decide +kernel
theorem dX11_init_210 : decode cX11_init 210 = .ok (.getfield 38, 3) := by decide +kernel
theorem dX11_init_213 : decode cX11_init 213 = .ok (.iload_n 1, 1) := by decide +kernel
theorem dX11_init_214 : decode cX11_init 214 = .ok (.new 36, 3) := by decide +kernel
theorem dX11_init_217 : decode cX11_init 217 = .ok (.dup, 1) := by decide +kernel
theorem dX11_init_218 : decode cX11_init 218 = .ok (.invokespecial 78, 3) := by decide +kernel
theorem dX11_init_221 : decode cX11_init 221 = .ok (.aastore, 1) := by decide +kernel
theorem dX11_init_222 : decode cX11_init 222 = .ok (.iinc 1 1, 3) := by decide +kernel
theorem dX11_init_225 : decode cX11_init 225 = .ok (.goto (-25), 3) := by decide +kernel
theorem dX11_init_228 : decode cX11_init 228 = .ok (.aload_n 0, 1) := by decide +kernel
theorem dX11_init_229 : decode cX11_init 229 = .ok (.getfield 22, 3) := by decide +kernel
theorem dX11_init_232 : decode cX11_init 232 = .ok (.iconst (-1), 1) := by decide +kernel
theorem dX11_init_233 : decode cX11_init 233 = .ok (.invokestatic 79, 3) := by decide +kernel
theorem dX11_init_236 : decode cX11_init 236 = .ok (.return_, 1) := by decide +kernel
theorem dJx4a65c_init_da8c8_0 : decode cJx4a65c_init_da8c8 0 = .ok (.aload_n 0, 1) := by decide +kernel
theorem dJx4a65c_init_da8c8_1 : decode cJx4a65c_init_da8c8 1 = .ok (.invokespecial 1, 3) := by decide +kernel
theorem dJx4a65c_init_da8c8_4 : decode cJx4a65c_init_da8c8 4 = .ok (.aload_n 0, 1) := by decide +kernel
theorem dJx4a65c_init_da8c8_5 : decode cJx4a65c_init_da8c8 5 = .ok (.getstatic 39, 3) := by decide +kernel
theorem dJx4a65c_init_da8c8_8 : decode cJx4a65c_init_da8c8 8 = .ok (.putfield 9, 3) := by decide +kernel
theorem dJx4a65c_init_da8c8_11 : decode cJx4a65c_init_da8c8 11 = .ok (.return_, 1) := by decide +kernel
theorem dJxc12de_init_da8c8_0 : decode cJxc12de_init_da8c8 0 = .ok (.aload_n 0, 1) := by decide +kernel
theorem dJxc12de_init_da8c8_1 : decode cJxc12de_init_da8c8 1 = .ok (.invokespecial 1, 3) := by decide +kernel
theorem dJxc12de_init_da8c8_4 : decode cJxc12de_init_da8c8 4 = .ok (.aload_n 0, 1) := by decide +kernel
theorem dJxc12de_init_da8c8_5 : decode cJxc12de_init_da8c8 5 = .ok (.iconst 0, 1) := by decide +kernel
theorem dJxc12de_init_da8c8_6 : decode cJxc12de_init_da8c8 6 = .ok (.putfield 7, 3) := by decide +kernel
theorem dJxc12de_init_da8c8_9 : decode cJxc12de_init_da8c8 9 = .ok (.return_, 1) := by decide +kernel
theorem dJxa1e45_init_da8c8_0 : decode cJxa1e45_init_da8c8 0 = .ok (.aload_n 0, 1) := by decide +kernel
theorem dJxa1e45_init_da8c8_1 : decode cJxa1e45_init_da8c8 1 = .ok (.invokespecial 1, 3) := by decide +kernel
theorem dJxa1e45_init_da8c8_4 : decode cJxa1e45_init_da8c8 4 = .ok (.return_, 1) := by decide +kernel
theorem dJ7_fill_53178_0 : decode cJ7_fill_53178 0 = .ok (.iconst 0, 1) := by decide +kernel
theorem dJ7_fill_53178_1 : decode cJ7_fill_53178 1 = .ok (.istore_n 2, 1) := by decide +kernel
theorem dJ7_fill_53178_2 : decode cJ7_fill_53178 2 = .ok (.aload_n 0, 1) := by decide +kernel
theorem dJ7_fill_53178_3 : decode cJ7_fill_53178 3 = .ok (.arraylength, 1) := by decide +kernel
theorem dJ7_fill_53178_4 : decode cJ7_fill_53178 4 = .ok (.istore_n 3, 1) := by decide +kernel
theorem dJ7_fill_53178_5 : decode cJ7_fill_53178 5 = .ok (.iload_n 2, 1) := by decide +kernel
theorem dJ7_fill_53178_6 : decode cJ7_fill_53178 6 = .ok (.iload_n 3, 1) := by decide +kernel
theorem dJ7_fill_53178_7 : decode cJ7_fill_53178 7 = .ok (.if_icmp .ge 13, 3) := by decide +kernel
theorem dJ7_fill_53178_10 : decode cJ7_fill_53178 10 = .ok (.aload_n 0, 1) := by decide +kernel
theorem dJ7_fill_53178_11 : decode cJ7_fill_53178 11 = .ok (.iload_n 2, 1) := by decide +kernel
theorem dJ7_fill_53178_12 : decode cJ7_fill_53178 12 = .ok (.iload_n 1, 1) := by decide +kernel
theorem dJ7_fill_53178_13 : decode cJ7_fill_53178 13 = .ok (.iastore, 1) := by decide +kernel
theorem dJ7_fill_53178_14 : decode cJ7_fill_53178 14 = .ok (.iinc 2 1, 3) := by decide +kernel
theorem dJ7_fill_53178_17 : decode cJ7_fill_53178 17 = .ok (.goto (-12), 3) := by decide +kernel
theorem dJ7_fill_53178_20 : decode cJ7_fill_53178 20 = .ok (.return_, 1) := by decide +kernel
theorem dX6_add_0 : decode cX6_add 0 = .ok (.aload_n 0, 1) := by decide +kernel
theorem dX6_add_1 : decode cX6_add 1 = .ok (.getfield 25, 3) := by decide +kernel
theorem dX6_add_4 : decode cX6_add 4 = .ok (.aload_n 0, 1) := by decide +kernel
theorem dX6_add_5 : decode cX6_add 5 = .ok (.getfield 7, 3) := by decide +kernel
theorem dX6_add_8 : decode cX6_add 8 = .ok (.arraylength, 1) := by decide +kernel
theorem dX6_add_9 : decode cX6_add 9 = .ok (.if_icmp .lt 23, 3) := by decide +kernel
theorem dX6_add_32 : decode cX6_add 32 = .ok (.aload_n 0, 1) := by decide +kernel
theorem dX6_add_33 : decode cX6_add 33 = .ok (.getfield 7, 3) := by decide +kernel
theorem dX6_add_36 : decode cX6_add 36 = .ok (.aload_n 0, 1) := by decide +kernel
theorem dX6_add_37 : decode cX6_add 37 = .ok (.getfield 25, 3) := by decide +kernel
theorem dX6_add_40 : decode cX6_add 40 = .ok (.iload_n 1, 1) := by decide +kernel
theorem dX6_add_41 : decode cX6_add 41 = .ok (.i2b, 1) := by decide +kernel
theorem dX6_add_42 : decode cX6_add 42 = .ok (.bastore, 1) := by decide +kernel
theorem dX6_add_43 : decode cX6_add 43 = .ok (.aload_n 0, 1) := by decide +kernel
theorem dX6_add_44 : decode cX6_add 44 = .ok (.dup, 1) := by decide +kernel
theorem dX6_add_45 : decode cX6_add 45 = .ok (.getfield 25, 3) := by decide +kernel
theorem dX6_add_48 : decode cX6_add 48 = .ok (.iconst 1, 1) := by decide +kernel
theorem dX6_add_49 : decode cX6_add 49 = .ok (.iadd, 1) := by decide +kernel
theorem dX6_add_50 : decode cX6_add 50 = .ok (.putfield 25, 3) := by decide +kernel
theorem dX6_add_53 : decode cX6_add 53 = .ok (.return_, 1) := by decide +kernel
theorem dX6_addHighestFirst_0 : decode cX6_addHighestFirst 0 = .ok (.aload_n 0, 1) := by decide +kernel
theorem dX6_addHighestFirst_1 : decode cX6_addHighestFirst 1 = .ok (.iload_n 1, 1) := by decide +kernel
theorem dX6_addHighestFirst_2 : decode cX6_addHighestFirst 2 = .ok (.bipush 24, 2) := by decide +kernel
theorem dX6_addHighestFirst_4 : decode cX6_addHighestFirst 4 = .ok (.ishr, 1) := by decide +kernel
theorem dX6_addHighestFirst_5 : decode cX6_addHighestFirst 5 = .ok (.invokevirtual 33, 3) := by decide +kernel
theorem dX6_addHighestFirst_8 : decode cX6_addHighestFirst 8 = .ok (.aload_n 0, 1) := by decide +kernel
theorem dX6_addHighestFirst_9 : decode cX6_addHighestFirst 9 = .ok (.iload_n 1, 1) := by decide +kernel
theorem dX6_addHighestFirst_10 : decode cX6_addHighestFirst 10 = .ok (.bipush 16, 2) := by decide +kernel
theorem dX6_addHighestFirst_12 : decode cX6_addHighestFirst 12 = .ok (.ishr, 1) := by decide +kernel
theorem dX6_addHighestFirst_13 : decode cX6_addHighestFirst 13 = .ok (.invokevirtual 33, 3) := by decide +kernel
theorem dX6_addHighestFirst_16 : decode cX6_addHighestFirst 16 = .ok (.aload_n 0, 1) := by decide +kernel
theorem dX6_addHighestFirst_17 : decode cX6_addHighestFirst 17 = .ok (.iload_n 1, 1) := by decide +kernel
theorem dX6_addHighestFirst_18 : decode cX6_addHighestFirst 18 = .ok (.bipush 8, 2) := by decide +kernel
theorem dX6_addHighestFirst_20 : decode cX6_addHighestFirst 20 = .ok (.ishr, 1) := by decide +kernel
theorem dX6_addHighestFirst_21 : decode cX6_addHighestFirst 21 = .ok (.invokevirtual 33, 3) := by decide +kernel
theorem dX6_addHighestFirst_24 : decode cX6_addHighestFirst 24 = .ok (.aload_n 0, 1) := by decide +kernel
theorem dX6_addHighestFirst_25 : decode cX6_addHighestFirst 25 = .ok (.iload_n 1, 1) := by decide +kernel
theorem dX6_addHighestFirst_26 : decode cX6_addHighestFirst 26 = .ok (.invokevirtual 33, 3) := by decide +kernel
theorem dX6_addHighestFirst_29 : decode cX6_addHighestFirst 29 = .ok (.return_, 1) := by decide +kernel
theorem dX11_feed_0 : decode cX11_feed 0 = .ok (.aload_n 0, 1) := by decide +kernel
theorem dX11_feed_1 : decode cX11_feed 1 = .ok (.getfield 10, 3) := by decide +kernel
theorem dX11_feed_4 : decode cX11_feed 4 = .ok (.getfield 85, 3) := by decide +kernel
theorem dX11_feed_7 : decode cX11_feed 7 = .ok (.bipush 20, 2) := by decide +kernel
theorem dX11_feed_9 : decode cX11_feed 9 = .ok (.iadd, 1) := by decide +kernel
theorem dX11_feed_10 : decode cX11_feed 10 = .ok (.sipush 8000, 3) := by decide +kernel
theorem dX11_feed_13 : decode cX11_feed 13 = .ok (.if_icmp .le 5, 3) := by decide +kernel
theorem dX11_feed_16 : decode cX11_feed 16 = .ok (.iconst (-1), 1) := by decide +kernel
theorem dX11_feed_17 : decode cX11_feed 17 = .ok (.ireturn, 1) := by decide +kernel
theorem dX11_feed_18 : decode cX11_feed 18 = .ok (.aload_n 0, 1) := by decide +kernel
theorem dX11_feed_19 : decode cX11_feed 19 = .ok (.getfield 10, 3) := by decide +kernel
theorem dX11_feed_22 : decode cX11_feed 22 = .ok (.iload_n 1, 1) := by decide +kernel
theorem dX11_feed_23 : decode cX11_feed 23 = .ok (.invokevirtual 89, 3) := by decide +kernel
theorem dX11_feed_26 : decode cX11_feed 26 = .ok (.aload_n 0, 1) := by decide +kernel
theorem dX11_feed_27 : decode cX11_feed 27 = .ok (.getfield 10, 3) := by decide +kernel
theorem dX11_feed_30 : decode cX11_feed 30 = .ok (.iload_n 2, 1) := by decide +kernel
theorem dX11_feed_31 : decode cX11_feed 31 = .ok (.invokevirtual 89, 3) := by decide +kernel
theorem dX11_feed_34 : decode cX11_feed 34 = .ok (.aload_n 0, 1) := by decide +kernel
theorem dX11_feed_35 : decode cX11_feed 35 = .ok (.getfield 10, 3) := by decide +kernel
theorem dX11_feed_38 : decode cX11_feed 38 = .ok (.iload_n 3, 1) := by decide +kernel
theorem dX11_feed_39 : decode cX11_feed 39 = .ok (.invokevirtual 89, 3) := by decide +kernel
theorem dX11_feed_42 : decode cX11_feed 42 = .ok (.aload_n 0, 1) := by decide +kernel
theorem dX11_feed_43 : decode cX11_feed 43 = .ok (.getfield 10, 3) := by decide +kernel
theorem dX11_feed_46 : decode cX11_feed 46 = .ok (.iload 4, 2) := by decide +kernel
theorem dX11_feed_48 : decode cX11_feed 48 = .ok (.invokevirtual 89, 3) := by decide +kernel
theorem dX11_feed_51 : decode cX11_feed 51 = .ok (.aload_n 0, 1) := by decide +kernel
theorem dX11_feed_52 : decode cX11_feed 52 = .ok (.getfield 10, 3) := by decide +kernel
theorem dX11_feed_55 : decode cX11_feed 55 = .ok (.iload 5, 2) := by decide +kernel
theorem dX11_feed_57 : decode cX11_feed 57 = .ok (.invokevirtual 89, 3) := by decide +kernel
theorem dX11_feed_60 : decode cX11_feed 60 = .ok (.aload_n 0, 1) := by decide +kernel
theorem dX11_feed_61 : decode cX11_feed 61 = .ok (.getfield 10, 3) := by decide +kernel
theorem dX11_feed_64 : decode cX11_feed 64 = .ok (.getfield 85, 3) := by decide +kernel
theorem dX11_feed_67 : decode cX11_feed 67 = .ok (.ireturn, 1) := by decide +kernel
theorem dX11_cut_0 : decode cX11_cut 0 = .ok (.iload_n 1, 1) := by decide +kernel
theorem dX11_cut_1 : decode cX11_cut 1 = .ok (.ifCond .lt 14, 3) := by decide +kernel
theorem dX11_cut_4 : decode cX11_cut 4 = .ok (.iload_n 1, 1) := by decide +kernel
theorem dX11_cut_5 : decode cX11_cut 5 = .ok (.aload_n 0, 1) := by decide +kernel
theorem dX11_cut_6 : decode cX11_cut 6 = .ok (.getfield 10, 3) := by decide +kernel
theorem dX11_cut_9 : decode cX11_cut 9 = .ok (.getfield 85, 3) := by decide +kernel
theorem dX11_cut_12 : decode cX11_cut 12 = .ok (.if_icmp .le 5, 3) := by decide +kernel
theorem dX11_cut_15 : decode cX11_cut 15 = .ok (.iconst (-1), 1) := by decide +kernel
theorem dX11_cut_16 : decode cX11_cut 16 = .ok (.ireturn, 1) := by decide +kernel
theorem dX11_cut_17 : decode cX11_cut 17 = .ok (.aload_n 0, 1) := by decide +kernel
theorem dX11_cut_18 : decode cX11_cut 18 = .ok (.getfield 10, 3) := by decide +kernel
theorem dX11_cut_21 : decode cX11_cut 21 = .ok (.getfield 85, 3) := by decide +kernel
theorem dX11_cut_24 : decode cX11_cut 24 = .ok (.iload_n 1, 1) := by decide +kernel
theorem dX11_cut_25 : decode cX11_cut 25 = .ok (.isub, 1) := by decide +kernel
theorem dX11_cut_26 : decode cX11_cut 26 = .ok (.istore_n 2, 1) := by decide +kernel
theorem dX11_cut_27 : decode cX11_cut 27 = .ok (.aload_n 0, 1) := by decide +kernel
theorem dX11_cut_28 : decode cX11_cut 28 = .ok (.getfield 10, 3) := by decide +kernel
theorem dX11_cut_31 : decode cX11_cut 31 = .ok (.iload_n 1, 1) := by decide +kernel
theorem dX11_cut_32 : decode cX11_cut 32 = .ok (.putfield 85, 3) := by decide +kernel
theorem dX11_cut_35 : decode cX11_cut 35 = .ok (.iload_n 2, 1) := by decide +kernel
theorem dX11_cut_36 : decode cX11_cut 36 = .ok (.ireturn, 1) := by decide +kernel
theorem dX11_share_0 : decode cX11_share 0 = .ok (.iload_n 1, 1) := by decide +kernel
theorem dX11_share_1 : decode cX11_share 1 = .ok (.ifCond .lt 65, 3) := by decide +kernel
theorem dX11_share_4 : decode cX11_share 4 = .ok (.iload_n 1, 1) := by decide +kernel
theorem dX11_share_5 : decode cX11_share 5 = .ok (.aload_n 0, 1) := by decide +kernel
theorem dX11_share_6 : decode cX11_share 6 = .ok (.getfield 22, 3) := by decide +kernel
theorem dX11_share_9 : decode cX11_share 9 = .ok (.arraylength, 1) := by decide +kernel
theorem dX11_share_10 : decode cX11_share 10 = .ok (.if_icmp .ge 56, 3) := by decide +kernel
theorem dX11_share_13 : decode cX11_share 13 = .ok (.aload_n 0, 1) := by decide +kernel
theorem dX11_share_14 : decode cX11_share 14 = .ok (.getfield 22, 3) := by decide +kernel
theorem dX11_share_17 : decode cX11_share 17 = .ok (.iload_n 1, 1) := by decide +kernel
theorem dX11_share_18 : decode cX11_share 18 = .ok (.iaload, 1) := by decide +kernel
theorem dX11_share_19 : decode cX11_share 19 = .ok (.iconst (-1), 1) := by decide +kernel
theorem dX11_share_20 : decode cX11_share 20 = .ok (.if_icmp .ne 46, 3) := by decide +kernel
theorem dX11_share_23 : decode cX11_share 23 = .ok (.aload_n 0, 1) := by decide +kernel
theorem dX11_share_24 : decode cX11_share 24 = .ok (.invokevirtual 93, 3) := by decide +kernel
theorem dX11_share_27 : decode cX11_share 27 = .ok (.ifCond .eq 39, 3) := by decide +kernel
theorem dX11_share_66 : decode cX11_share 66 = .ok (.iconst 0, 1) := by decide +kernel
theorem dX11_share_67 : decode cX11_share 67 = .ok (.istore_n 2, 1) := by decide +kernel
theorem dX11_share_68 : decode cX11_share 68 = .ok (.iload_n 2, 1) := by decide +kernel
theorem dX11_share_69 : decode cX11_share 69 = .ok (.ifCond .eq 13, 3) := by decide +kernel
theorem dX11_share_82 : decode cX11_share 82 = .ok (.aload_n 0, 1) := by decide +kernel
theorem dX11_share_83 : decode cX11_share 83 = .ok (.getfield 10, 3) := by decide +kernel
theorem dX11_share_86 : decode cX11_share 86 = .ok (.iconst 0, 1) := by decide +kernel
theorem dX11_share_87 : decode cX11_share 87 = .ok (.putfield 85, 3) := by decide +kernel
theorem dX11_share_90 : decode cX11_share 90 = .ok (.iload_n 2, 1) := by decide +kernel
theorem dX11_share_91 : decode cX11_share 91 = .ok (.ireturn, 1) := by decide +kernel
theorem dX11_tapeIsShareName_0 : decode cX11_tapeIsShareName 0 = .ok (.aload_n 0, 1) := by decide +kernel
theorem dX11_tapeIsShareName_1 : decode cX11_tapeIsShareName 1 = .ok (.getfield 10, 3) := by decide +kernel
theorem dX11_tapeIsShareName_4 : decode cX11_tapeIsShareName 4 = .ok (.getfield 85, 3) := by decide +kernel
theorem dX11_tapeIsShareName_7 : decode cX11_tapeIsShareName 7 = .ok (.iconst 1, 1) := by decide +kernel
theorem dX11_tapeIsShareName_8 : decode cX11_tapeIsShareName 8 = .ok (.if_icmp .lt 15, 3) := by decide +kernel
theorem dX11_tapeIsShareName_23 : decode cX11_tapeIsShareName 23 = .ok (.iconst 0, 1) := by decide +kernel
theorem dX11_tapeIsShareName_24 : decode cX11_tapeIsShareName 24 = .ok (.ireturn, 1) := by decide +kernel
theorem dX11_connection_0 : decode cX11_connection 0 = .ok (.iload_n 1, 1) := by decide +kernel
theorem dX11_connection_1 : decode cX11_connection 1 = .ok (.ifCond .lt 21, 3) := by decide +kernel
theorem dX11_connection_4 : decode cX11_connection 4 = .ok (.iload_n 1, 1) := by decide +kernel
end
section
theorem dX11_connection_5 : decode cX11_connection 5 = .ok (.aload_n 0, 1) := by decide +kernel
theorem dX11_connection_6 : decode cX11_connection 6 = .ok (.getfield 18, 3) := by decide +kernel
theorem dX11_connection_9 : decode cX11_connection 9 = .ok (.arraylength, 1) := by decide +kernel
theorem dX11_connection_10 : decode cX11_connection 10 = .ok (.if_icmp .ge 12, 3) := by decide +kernel
theorem dX11_connection_13 : decode cX11_connection 13 = .ok (.aload_n 0, 1) := by decide +kernel
theorem dX11_connection_14 : decode cX11_connection 14 = .ok (.getfield 18, 3) := by decide +kernel
theorem dX11_connection_17 : decode cX11_connection 17 = .ok (.iload_n 1, 1) := by decide +kernel
theorem dX11_connection_18 : decode cX11_connection 18 = .ok (.aaload, 1) := by decide +kernel
theorem dX11_connection_19 : decode cX11_connection 19 = .ok (.goto 4, 3) := by decide +kernel
theorem dX11_connection_22 : decode cX11_connection 22 = .ok (.aconst_null, 1) := by decide +kernel
theorem dX11_connection_23 : decode cX11_connection 23 = .ok (.areturn, 1) := by decide +kernel
theorem dX11_connect_0 : decode cX11_connect 0 = .ok (.aload_n 0, 1) := by decide +kernel
theorem dX11_connect_1 : decode cX11_connect 1 = .ok (.iload_n 1, 1) := by decide +kernel
theorem dX11_connect_2 : decode cX11_connect 2 = .ok (.invokevirtual 108, 3) := by decide +kernel
theorem dX11_connect_5 : decode cX11_connect 5 = .ok (.astore_n 2, 1) := by decide +kernel
theorem dX11_connect_6 : decode cX11_connect 6 = .ok (.aload_n 2, 1) := by decide +kernel
theorem dX11_connect_7 : decode cX11_connect 7 = .ok (.ifnull 10, 3) := by decide +kernel
theorem dX11_connect_10 : decode cX11_connect 10 = .ok (.aload_n 2, 1) := by decide +kernel
theorem dX11_connect_11 : decode cX11_connect 11 = .ok (.getfield 112, 3) := by decide +kernel
theorem dX11_connect_14 : decode cX11_connect 14 = .ok (.ifCond .eq 5, 3) := by decide +kernel
theorem dX11_connect_17 : decode cX11_connect 17 = .ok (.iconst 0, 1) := by decide +kernel
theorem dX11_connect_18 : decode cX11_connect 18 = .ok (.ireturn, 1) := by decide +kernel
theorem dX11_connect_19 : decode cX11_connect 19 = .ok (.aload_n 2, 1) := by decide +kernel
theorem dX11_connect_20 : decode cX11_connect 20 = .ok (.invokevirtual 116, 3) := by decide +kernel
theorem dX11_connect_23 : decode cX11_connect 23 = .ok (.iconst 1, 1) := by decide +kernel
theorem dX11_connect_24 : decode cX11_connect 24 = .ok (.ireturn, 1) := by decide +kernel
theorem dX2_begin_0 : decode cX2_begin 0 = .ok (.aload_n 0, 1) := by decide +kernel
theorem dX2_begin_1 : decode cX2_begin 1 = .ok (.iconst 1, 1) := by decide +kernel
theorem dX2_begin_2 : decode cX2_begin 2 = .ok (.putfield 25, 3) := by decide +kernel
theorem dX2_begin_5 : decode cX2_begin 5 = .ok (.aload_n 0, 1) := by decide +kernel
theorem dX2_begin_6 : decode cX2_begin 6 = .ok (.iconst 0, 1) := by decide +kernel
theorem dX2_begin_7 : decode cX2_begin 7 = .ok (.putfield 29, 3) := by decide +kernel
theorem dX2_begin_10 : decode cX2_begin 10 = .ok (.aload_n 0, 1) := by decide +kernel
theorem dX2_begin_11 : decode cX2_begin 11 = .ok (.getfield 12, 3) := by decide +kernel
theorem dX2_begin_14 : decode cX2_begin 14 = .ok (.iconst 0, 1) := by decide +kernel
theorem dX2_begin_15 : decode cX2_begin 15 = .ok (.putfield 32, 3) := by decide +kernel
theorem dX2_begin_18 : decode cX2_begin 18 = .ok (.aload_n 0, 1) := by decide +kernel
theorem dX2_begin_19 : decode cX2_begin 19 = .ok (.getfield 18, 3) := by decide +kernel
theorem dX2_begin_22 : decode cX2_begin 22 = .ok (.iconst 0, 1) := by decide +kernel
theorem dX2_begin_23 : decode cX2_begin 23 = .ok (.putfield 32, 3) := by decide +kernel
theorem dX2_begin_26 : decode cX2_begin 26 = .ok (.aload_n 0, 1) := by decide +kernel
theorem dX2_begin_27 : decode cX2_begin 27 = .ok (.getfield 21, 3) := by decide +kernel
theorem dX2_begin_30 : decode cX2_begin 30 = .ok (.iconst 0, 1) := by decide +kernel
theorem dX2_begin_31 : decode cX2_begin 31 = .ok (.lconst 0, 1) := by decide +kernel
theorem dX2_begin_32 : decode cX2_begin 32 = .ok (.lastore, 1) := by decide +kernel
theorem dX2_begin_33 : decode cX2_begin 33 = .ok (.aload_n 0, 1) := by decide +kernel
theorem dX2_begin_34 : decode cX2_begin 34 = .ok (.iconst 1, 1) := by decide +kernel
theorem dX2_begin_35 : decode cX2_begin 35 = .ok (.putfield 36, 3) := by decide +kernel
theorem dX2_begin_38 : decode cX2_begin 38 = .ok (.aload_n 0, 1) := by decide +kernel
theorem dX2_begin_39 : decode cX2_begin 39 = .ok (.lconst 0, 1) := by decide +kernel
theorem dX2_begin_40 : decode cX2_begin 40 = .ok (.putfield 39, 3) := by decide +kernel
theorem dX2_begin_43 : decode cX2_begin 43 = .ok (.return_, 1) := by decide +kernel
theorem dX11_hang_0 : decode cX11_hang 0 = .ok (.aload_n 0, 1) := by decide +kernel
theorem dX11_hang_1 : decode cX11_hang 1 = .ok (.iload_n 1, 1) := by decide +kernel
theorem dX11_hang_2 : decode cX11_hang 2 = .ok (.invokevirtual 108, 3) := by decide +kernel
theorem dX11_hang_5 : decode cX11_hang 5 = .ok (.astore_n 2, 1) := by decide +kernel
theorem dX11_hang_6 : decode cX11_hang 6 = .ok (.aload_n 2, 1) := by decide +kernel
theorem dX11_hang_7 : decode cX11_hang 7 = .ok (.ifnull 10, 3) := by decide +kernel
theorem dX11_hang_10 : decode cX11_hang 10 = .ok (.aload_n 2, 1) := by decide +kernel
theorem dX11_hang_11 : decode cX11_hang 11 = .ok (.getfield 112, 3) := by decide +kernel
theorem dX11_hang_14 : decode cX11_hang 14 = .ok (.ifCond .ne 5, 3) := by decide +kernel
theorem dX11_hang_17 : decode cX11_hang 17 = .ok (.iconst 0, 1) := by decide +kernel
theorem dX11_hang_18 : decode cX11_hang 18 = .ok (.ireturn, 1) := by decide +kernel
theorem dX11_come_0 : decode cX11_come 0 = .ok (.aload_n 0, 1) := by decide +kernel
theorem dX11_come_1 : decode cX11_come 1 = .ok (.getfield 10, 3) := by decide +kernel
theorem dX11_come_4 : decode cX11_come 4 = .ok (.getfield 85, 3) := by decide +kernel
theorem dX11_come_7 : decode cX11_come 7 = .ok (.aload_n 0, 1) := by decide +kernel
theorem dX11_come_8 : decode cX11_come 8 = .ok (.getfield 10, 3) := by decide +kernel
theorem dX11_come_11 : decode cX11_come 11 = .ok (.getfield 126, 3) := by decide +kernel
theorem dX11_come_14 : decode cX11_come 14 = .ok (.arraylength, 1) := by decide +kernel
theorem dX11_come_15 : decode cX11_come 15 = .ok (.invokestatic 130, 3) := by decide +kernel
theorem dX11_come_18 : decode cX11_come 18 = .ok (.istore_n 2, 1) := by decide +kernel
theorem dX11_come_19 : decode cX11_come 19 = .ok (.aload_n 0, 1) := by decide +kernel
theorem dX11_come_20 : decode cX11_come 20 = .ok (.getfield 10, 3) := by decide +kernel
theorem dX11_come_23 : decode cX11_come 23 = .ok (.iconst 0, 1) := by decide +kernel
theorem dX11_come_24 : decode cX11_come 24 = .ok (.putfield 85, 3) := by decide +kernel
theorem dX11_come_27 : decode cX11_come 27 = .ok (.aload_n 0, 1) := by decide +kernel
theorem dX11_come_28 : decode cX11_come 28 = .ok (.iload_n 1, 1) := by decide +kernel
theorem dX11_come_29 : decode cX11_come 29 = .ok (.invokevirtual 108, 3) := by decide +kernel
theorem dX11_come_32 : decode cX11_come 32 = .ok (.astore_n 3, 1) := by decide +kernel
theorem dX11_come_33 : decode cX11_come 33 = .ok (.aload_n 3, 1) := by decide +kernel
theorem dX11_come_34 : decode cX11_come 34 = .ok (.ifnull 10, 3) := by decide +kernel
theorem dX11_come_37 : decode cX11_come 37 = .ok (.aload_n 3, 1) := by decide +kernel
theorem dX11_come_38 : decode cX11_come 38 = .ok (.getfield 112, 3) := by decide +kernel
theorem dX11_come_41 : decode cX11_come 41 = .ok (.ifCond .ne 5, 3) := by decide +kernel
theorem dX11_come_44 : decode cX11_come 44 = .ok (.iconst (-1), 1) := by decide +kernel
theorem dX11_come_45 : decode cX11_come 45 = .ok (.ireturn, 1) := by decide +kernel
theorem dX11_isOpen_0 : decode cX11_isOpen 0 = .ok (.aload_n 0, 1) := by decide +kernel
theorem dX11_isOpen_1 : decode cX11_isOpen 1 = .ok (.iload_n 1, 1) := by decide +kernel
theorem dX11_isOpen_2 : decode cX11_isOpen 2 = .ok (.invokevirtual 108, 3) := by decide +kernel
theorem dX11_isOpen_5 : decode cX11_isOpen 5 = .ok (.astore_n 2, 1) := by decide +kernel
theorem dX11_isOpen_6 : decode cX11_isOpen 6 = .ok (.aload_n 2, 1) := by decide +kernel
theorem dX11_isOpen_7 : decode cX11_isOpen 7 = .ok (.ifnull 14, 3) := by decide +kernel
theorem dX11_isOpen_10 : decode cX11_isOpen 10 = .ok (.aload_n 2, 1) := by decide +kernel
theorem dX11_isOpen_11 : decode cX11_isOpen 11 = .ok (.getfield 112, 3) := by decide +kernel
theorem dX11_isOpen_14 : decode cX11_isOpen 14 = .ok (.ifCond .eq 7, 3) := by decide +kernel
theorem dX11_isOpen_17 : decode cX11_isOpen 17 = .ok (.iconst 1, 1) := by decide +kernel
theorem dX11_isOpen_18 : decode cX11_isOpen 18 = .ok (.goto 4, 3) := by decide +kernel
theorem dX11_isOpen_21 : decode cX11_isOpen 21 = .ok (.iconst 0, 1) := by decide +kernel
theorem dX11_isOpen_22 : decode cX11_isOpen 22 = .ok (.ireturn, 1) := by decide +kernel
theorem dX11_tick_0 : decode cX11_tick 0 = .ok (.iload_n 1, 1) := by decide +kernel
theorem dX11_tick_1 : decode cX11_tick 1 = .ok (.ifCond .lt 9, 3) := by decide +kernel
theorem dX11_tick_4 : decode cX11_tick 4 = .ok (.iload_n 1, 1) := by decide +kernel
theorem dX11_tick_5 : decode cX11_tick 5 = .ok (.ldc 156, 2) := by decide +kernel
theorem dX11_tick_7 : decode cX11_tick 7 = .ok (.if_icmp .le 5, 3) := by decide +kernel
theorem dX11_tick_10 : decode cX11_tick 10 = .ok (.iconst 0, 1) := by decide +kernel
theorem dX11_tick_11 : decode cX11_tick 11 = .ok (.ireturn, 1) := by decide +kernel
theorem dX11_tick_12 : decode cX11_tick 12 = .ok (.aload_n 0, 1) := by decide +kernel
theorem dX11_tick_13 : decode cX11_tick 13 = .ok (.dup, 1) := by decide +kernel
theorem dX11_tick_14 : decode cX11_tick 14 = .ok (.getfield 157, 3) := by decide +kernel
theorem dX11_tick_17 : decode cX11_tick 17 = .ok (.iload_n 1, 1) := by decide +kernel
theorem dX11_tick_18 : decode cX11_tick 18 = .ok (.i2l, 1) := by decide +kernel
theorem dX11_tick_19 : decode cX11_tick 19 = .ok (.ladd, 1) := by decide +kernel
theorem dX11_tick_20 : decode cX11_tick 20 = .ok (.putfield 157, 3) := by decide +kernel
theorem dX11_tick_23 : decode cX11_tick 23 = .ok (.iconst 0, 1) := by decide +kernel
theorem dX11_tick_24 : decode cX11_tick 24 = .ok (.istore_n 2, 1) := by decide +kernel
theorem dX11_tick_25 : decode cX11_tick 25 = .ok (.iload_n 2, 1) := by decide +kernel
theorem dX11_tick_26 : decode cX11_tick 26 = .ok (.aload_n 0, 1) := by decide +kernel
theorem dX11_tick_27 : decode cX11_tick 27 = .ok (.getfield 52, 3) := by decide +kernel
theorem dX11_tick_30 : decode cX11_tick 30 = .ok (.invokevirtual 161, 3) := by decide +kernel
theorem dX11_tick_33 : decode cX11_tick 33 = .ok (.if_icmp .ge 54, 3) := by decide +kernel
theorem dX11_tick_87 : decode cX11_tick 87 = .ok (.iconst 1, 1) := by decide +kernel
theorem dX11_tick_88 : decode cX11_tick 88 = .ok (.ireturn, 1) := by decide +kernel
theorem dJx4a65c_size_8abf5_0 : decode cJx4a65c_size_8abf5 0 = .ok (.aload_n 0, 1) := by decide +kernel
theorem dJx4a65c_size_8abf5_1 : decode cJx4a65c_size_8abf5 1 = .ok (.getfield 48, 3) := by decide +kernel
theorem dJx4a65c_size_8abf5_4 : decode cJx4a65c_size_8abf5 4 = .ok (.ireturn, 1) := by decide +kernel
theorem dX11_crash_0 : decode cX11_crash 0 = .ok (.iload_n 1, 1) := by decide +kernel
theorem dX11_crash_1 : decode cX11_crash 1 = .ok (.ifCond .lt 11, 3) := by decide +kernel
theorem dX11_crash_4 : decode cX11_crash 4 = .ok (.iload_n 1, 1) := by decide +kernel
theorem dX11_crash_5 : decode cX11_crash 5 = .ok (.aload_n 0, 1) := by decide +kernel
theorem dX11_crash_6 : decode cX11_crash 6 = .ok (.getfield 182, 3) := by decide +kernel
theorem dX11_crash_9 : decode cX11_crash 9 = .ok (.if_icmp .le 5, 3) := by decide +kernel
theorem dX11_crash_12 : decode cX11_crash 12 = .ok (.iconst (-1), 1) := by decide +kernel
theorem dX11_crash_13 : decode cX11_crash 13 = .ok (.ireturn, 1) := by decide +kernel
theorem dX11_crash_14 : decode cX11_crash 14 = .ok (.aload_n 0, 1) := by decide +kernel
theorem dX11_crash_15 : decode cX11_crash 15 = .ok (.getfield 182, 3) := by decide +kernel
theorem dX11_crash_18 : decode cX11_crash 18 = .ok (.istore_n 2, 1) := by decide +kernel
theorem dX11_crash_19 : decode cX11_crash 19 = .ok (.aload_n 0, 1) := by decide +kernel
theorem dX11_crash_20 : decode cX11_crash 20 = .ok (.iload_n 1, 1) := by decide +kernel
theorem dX11_crash_21 : decode cX11_crash 21 = .ok (.putfield 182, 3) := by decide +kernel
theorem dX11_crash_24 : decode cX11_crash 24 = .ok (.aload_n 0, 1) := by decide +kernel
theorem dX11_crash_25 : decode cX11_crash 25 = .ok (.invokevirtual 185, 3) := by decide +kernel
theorem dX11_crash_28 : decode cX11_crash 28 = .ok (.aload_n 0, 1) := by decide +kernel
theorem dX11_crash_29 : decode cX11_crash 29 = .ok (.getfield 29, 3) := by decide +kernel
theorem dX11_crash_32 : decode cX11_crash 32 = .ok (.aload_n 0, 1) := by decide +kernel
theorem dX11_crash_33 : decode cX11_crash 33 = .ok (.getfield 33, 3) := by decide +kernel
theorem dX11_crash_36 : decode cX11_crash 36 = .ok (.invokevirtual 188, 3) := by decide +kernel
theorem dX11_crash_39 : decode cX11_crash 39 = .ok (.iconst 0, 1) := by decide +kernel
theorem dX11_crash_40 : decode cX11_crash 40 = .ok (.istore_n 3, 1) := by decide +kernel
theorem dX11_crash_41 : decode cX11_crash 41 = .ok (.iload_n 3, 1) := by decide +kernel
theorem dX11_crash_42 : decode cX11_crash 42 = .ok (.aload_n 0, 1) := by decide +kernel
theorem dX11_crash_43 : decode cX11_crash 43 = .ok (.getfield 18, 3) := by decide +kernel
theorem dX11_crash_46 : decode cX11_crash 46 = .ok (.arraylength, 1) := by decide +kernel
theorem dX11_crash_47 : decode cX11_crash 47 = .ok (.if_icmp .ge 18, 3) := by decide +kernel
theorem dX11_crash_50 : decode cX11_crash 50 = .ok (.aload_n 0, 1) := by decide +kernel
theorem dX11_crash_51 : decode cX11_crash 51 = .ok (.getfield 18, 3) := by decide +kernel
theorem dX11_crash_54 : decode cX11_crash 54 = .ok (.iload_n 3, 1) := by decide +kernel
theorem dX11_crash_55 : decode cX11_crash 55 = .ok (.aaload, 1) := by decide +kernel
theorem dX11_crash_56 : decode cX11_crash 56 = .ok (.invokevirtual 192, 3) := by decide +kernel
theorem dX11_crash_59 : decode cX11_crash 59 = .ok (.iinc 3 1, 3) := by decide +kernel
theorem dX11_crash_62 : decode cX11_crash 62 = .ok (.goto (-21), 3) := by decide +kernel
theorem dX11_crash_65 : decode cX11_crash 65 = .ok (.aload_n 0, 1) := by decide +kernel
theorem dX11_crash_66 : decode cX11_crash 66 = .ok (.getfield 45, 3) := by decide +kernel
theorem dX11_crash_69 : decode cX11_crash 69 = .ok (.invokevirtual 195, 3) := by decide +kernel
theorem dX11_crash_72 : decode cX11_crash 72 = .ok (.aload_n 0, 1) := by decide +kernel
theorem dX11_crash_73 : decode cX11_crash 73 = .ok (.getfield 49, 3) := by decide +kernel
theorem dX11_crash_76 : decode cX11_crash 76 = .ok (.invokevirtual 195, 3) := by decide +kernel
theorem dX11_crash_79 : decode cX11_crash 79 = .ok (.aload_n 0, 1) := by decide +kernel
theorem dX11_crash_80 : decode cX11_crash 80 = .ok (.getfield 52, 3) := by decide +kernel
theorem dX11_crash_83 : decode cX11_crash 83 = .ok (.invokevirtual 195, 3) := by decide +kernel
theorem dX11_crash_86 : decode cX11_crash 86 = .ok (.aload_n 0, 1) := by decide +kernel
theorem dX11_crash_87 : decode cX11_crash 87 = .ok (.getfield 55, 3) := by decide +kernel
theorem dX11_crash_90 : decode cX11_crash 90 = .ok (.invokevirtual 195, 3) := by decide +kernel
theorem dX11_crash_93 : decode cX11_crash 93 = .ok (.aload_n 0, 1) := by decide +kernel
theorem dX11_crash_94 : decode cX11_crash 94 = .ok (.getfield 58, 3) := by decide +kernel
theorem dX11_crash_97 : decode cX11_crash 97 = .ok (.invokevirtual 195, 3) := by decide +kernel
theorem dX11_crash_100 : decode cX11_crash 100 = .ok (.aload_n 0, 1) := by decide +kernel
theorem dX11_crash_101 : decode cX11_crash 101 = .ok (.getfield 61, 3) := by decide +kernel
theorem dX11_crash_104 : decode cX11_crash 104 = .ok (.lconst 0, 1) := by decide +kernel
theorem dX11_crash_105 : decode cX11_crash 105 = .ok (.invokestatic 198, 3) := by decide +kernel
theorem dX11_crash_108 : decode cX11_crash 108 = .ok (.iload_n 2, 1) := by decide +kernel
theorem dX11_crash_109 : decode cX11_crash 109 = .ok (.ireturn, 1) := by decide +kernel
theorem dX11_comeToDisk_0 : decode cX11_comeToDisk 0 = .ok (.iconst 0, 1) := by decide +kernel
theorem dX11_comeToDisk_1 : decode cX11_comeToDisk 1 = .ok (.istore_n 1, 1) := by decide +kernel
theorem dX11_comeToDisk_2 : decode cX11_comeToDisk 2 = .ok (.iload_n 1, 1) := by decide +kernel
theorem dX11_comeToDisk_3 : decode cX11_comeToDisk 3 = .ok (.aload_n 0, 1) := by decide +kernel
theorem dX11_comeToDisk_4 : decode cX11_comeToDisk 4 = .ok (.getfield 182, 3) := by decide +kernel
theorem dX11_comeToDisk_7 : decode cX11_comeToDisk 7 = .ok (.if_icmp .ge 31, 3) := by decide +kernel
theorem dX11_comeToDisk_38 : decode cX11_comeToDisk 38 = .ok (.aload_n 0, 1) := by decide +kernel
theorem dX11_comeToDisk_39 : decode cX11_comeToDisk 39 = .ok (.iconst 0, 1) := by decide +kernel
theorem dX11_comeToDisk_40 : decode cX11_comeToDisk 40 = .ok (.putfield 182, 3) := by decide +kernel
theorem dX11_comeToDisk_43 : decode cX11_comeToDisk 43 = .ok (.return_, 1) := by decide +kernel
theorem dX9_copyFrom_0 : decode cX9_copyFrom 0 = .ok (.iconst 0, 1) := by decide +kernel
theorem dX9_copyFrom_1 : decode cX9_copyFrom 1 = .ok (.istore_n 2, 1) := by decide +kernel
theorem dX9_copyFrom_2 : decode cX9_copyFrom 2 = .ok (.iload_n 2, 1) := by decide +kernel
theorem dX9_copyFrom_3 : decode cX9_copyFrom 3 = .ok (.aload_n 0, 1) := by decide +kernel
theorem dX9_copyFrom_4 : decode cX9_copyFrom 4 = .ok (.getfield 11, 3) := by decide +kernel
theorem dX9_copyFrom_7 : decode cX9_copyFrom 7 = .ok (.arraylength, 1) := by decide +kernel
theorem dX9_copyFrom_8 : decode cX9_copyFrom 8 = .ok (.if_icmp .ge 24, 3) := by decide +kernel
theorem dX9_copyFrom_11 : decode cX9_copyFrom 11 = .ok (.aload_n 0, 1) := by decide +kernel
theorem dX9_copyFrom_12 : decode cX9_copyFrom 12 = .ok (.getfield 11, 3) := by decide +kernel
theorem dX9_copyFrom_15 : decode cX9_copyFrom 15 = .ok (.iload_n 2, 1) := by decide +kernel
theorem dX9_copyFrom_16 : decode cX9_copyFrom 16 = .ok (.aaload, 1) := by decide +kernel
theorem dX9_copyFrom_17 : decode cX9_copyFrom 17 = .ok (.aload_n 1, 1) := by decide +kernel
theorem dX9_copyFrom_18 : decode cX9_copyFrom 18 = .ok (.getfield 11, 3) := by decide +kernel
theorem dX9_copyFrom_21 : decode cX9_copyFrom 21 = .ok (.iload_n 2, 1) := by decide +kernel
theorem dX9_copyFrom_22 : decode cX9_copyFrom 22 = .ok (.aaload, 1) := by decide +kernel
theorem dX9_copyFrom_23 : decode cX9_copyFrom 23 = .ok (.invokevirtual 130, 3) := by decide +kernel
theorem dX9_copyFrom_26 : decode cX9_copyFrom 26 = .ok (.iinc 2 1, 3) := by decide +kernel
theorem dX9_copyFrom_29 : decode cX9_copyFrom 29 = .ok (.goto (-27), 3) := by decide +kernel
theorem dX9_copyFrom_32 : decode cX9_copyFrom 32 = .ok (.aload_n 0, 1) := by decide +kernel
theorem dX9_copyFrom_33 : decode cX9_copyFrom 33 = .ok (.aload_n 1, 1) := by decide +kernel
theorem dX9_copyFrom_34 : decode cX9_copyFrom 34 = .ok (.getfield 52, 3) := by decide +kernel
theorem dX9_copyFrom_37 : decode cX9_copyFrom 37 = .ok (.putfield 52, 3) := by decide +kernel
theorem dX9_copyFrom_40 : decode cX9_copyFrom 40 = .ok (.return_, 1) := by decide +kernel
theorem dX4_copyFrom_0 : decode cX4_copyFrom 0 = .ok (.aload_n 0, 1) := by decide +kernel
theorem dX4_copyFrom_1 : decode cX4_copyFrom 1 = .ok (.aload_n 1, 1) := by decide +kernel
theorem dX4_copyFrom_2 : decode cX4_copyFrom 2 = .ok (.getfield 77, 3) := by decide +kernel
theorem dX4_copyFrom_5 : decode cX4_copyFrom 5 = .ok (.putfield 77, 3) := by decide +kernel
theorem dX4_copyFrom_8 : decode cX4_copyFrom 8 = .ok (.aload_n 0, 1) := by decide +kernel
theorem dX4_copyFrom_9 : decode cX4_copyFrom 9 = .ok (.aload_n 1, 1) := by decide +kernel
theorem dX4_copyFrom_10 : decode cX4_copyFrom 10 = .ok (.getfield 28, 3) := by decide +kernel
theorem dX4_copyFrom_13 : decode cX4_copyFrom 13 = .ok (.putfield 28, 3) := by decide +kernel
theorem dX4_copyFrom_16 : decode cX4_copyFrom 16 = .ok (.aload_n 0, 1) := by decide +kernel
theorem dX4_copyFrom_17 : decode cX4_copyFrom 17 = .ok (.iconst 0, 1) := by decide +kernel
theorem dX4_copyFrom_18 : decode cX4_copyFrom 18 = .ok (.putfield 61, 3) := by decide +kernel
theorem dX4_copyFrom_21 : decode cX4_copyFrom 21 = .ok (.aload_n 0, 1) := by decide +kernel
theorem dX4_copyFrom_22 : decode cX4_copyFrom 22 = .ok (.aload_n 1, 1) := by decide +kernel
theorem dX4_copyFrom_23 : decode cX4_copyFrom 23 = .ok (.getfield 9, 3) := by decide +kernel
theorem dX4_copyFrom_26 : decode cX4_copyFrom 26 = .ok (.putfield 9, 3) := by decide +kernel
theorem dX4_copyFrom_29 : decode cX4_copyFrom 29 = .ok (.aload_n 0, 1) := by decide +kernel
theorem dX4_copyFrom_30 : decode cX4_copyFrom 30 = .ok (.aload_n 1, 1) := by decide +kernel
theorem dX4_copyFrom_31 : decode cX4_copyFrom 31 = .ok (.getfield 64, 3) := by decide +kernel
theorem dX4_copyFrom_34 : decode cX4_copyFrom 34 = .ok (.putfield 64, 3) := by decide +kernel
theorem dX4_copyFrom_37 : decode cX4_copyFrom 37 = .ok (.aload_n 1, 1) := by decide +kernel
theorem dX4_copyFrom_38 : decode cX4_copyFrom 38 = .ok (.getfield 15, 3) := by decide +kernel
theorem dX4_copyFrom_41 : decode cX4_copyFrom 41 = .ok (.iconst 0, 1) := by decide +kernel
theorem dX4_copyFrom_42 : decode cX4_copyFrom 42 = .ok (.aload_n 0, 1) := by decide +kernel
theorem dX4_copyFrom_43 : decode cX4_copyFrom 43 = .ok (.getfield 15, 3) := by decide +kernel
theorem dX4_copyFrom_46 : decode cX4_copyFrom 46 = .ok (.iconst 0, 1) := by decide +kernel
theorem dX4_copyFrom_47 : decode cX4_copyFrom 47 = .ok (.aload_n 0, 1) := by decide +kernel
theorem dX4_copyFrom_48 : decode cX4_copyFrom 48 = .ok (.getfield 15, 3) := by decide +kernel
theorem dX4_copyFrom_51 : decode cX4_copyFrom 51 = .ok (.arraylength, 1) := by decide +kernel
theorem dX4_copyFrom_52 : decode cX4_copyFrom 52 = .ok (.invokestatic 80, 3) := by decide +kernel
theorem dX4_copyFrom_55 : decode cX4_copyFrom 55 = .ok (.aload_n 0, 1) := by decide +kernel
theorem dX4_copyFrom_56 : decode cX4_copyFrom 56 = .ok (.aload_n 1, 1) := by decide +kernel
theorem dX4_copyFrom_57 : decode cX4_copyFrom 57 = .ok (.getfield 25, 3) := by decide +kernel
theorem dX4_copyFrom_60 : decode cX4_copyFrom 60 = .ok (.putfield 25, 3) := by decide +kernel
theorem dX4_copyFrom_63 : decode cX4_copyFrom 63 = .ok (.aload_n 0, 1) := by decide +kernel
theorem dX4_copyFrom_64 : decode cX4_copyFrom 64 = .ok (.aload_n 1, 1) := by decide +kernel
theorem dX4_copyFrom_65 : decode cX4_copyFrom 65 = .ok (.getfield 35, 3) := by decide +kernel
theorem dX4_copyFrom_68 : decode cX4_copyFrom 68 = .ok (.putfield 35, 3) := by decide +kernel
theorem dX4_copyFrom_71 : decode cX4_copyFrom 71 = .ok (.aload_n 0, 1) := by decide +kernel
theorem dX4_copyFrom_72 : decode cX4_copyFrom 72 = .ok (.aload_n 1, 1) := by decide +kernel
theorem dX4_copyFrom_73 : decode cX4_copyFrom 73 = .ok (.getfield 45, 3) := by decide +kernel
theorem dX4_copyFrom_76 : decode cX4_copyFrom 76 = .ok (.putfield 45, 3) := by decide +kernel
theorem dX4_copyFrom_79 : decode cX4_copyFrom 79 = .ok (.aload_n 0, 1) := by decide +kernel
theorem dX4_copyFrom_80 : decode cX4_copyFrom 80 = .ok (.aload_n 1, 1) := by decide +kernel
theorem dX4_copyFrom_81 : decode cX4_copyFrom 81 = .ok (.getfield 48, 3) := by decide +kernel
theorem dX4_copyFrom_84 : decode cX4_copyFrom 84 = .ok (.putfield 48, 3) := by decide +kernel
theorem dX4_copyFrom_87 : decode cX4_copyFrom 87 = .ok (.aload_n 0, 1) := by decide +kernel
theorem dX4_copyFrom_88 : decode cX4_copyFrom 88 = .ok (.aload_n 1, 1) := by decide +kernel
theorem dX4_copyFrom_89 : decode cX4_copyFrom 89 = .ok (.getfield 51, 3) := by decide +kernel
theorem dX4_copyFrom_92 : decode cX4_copyFrom 92 = .ok (.putfield 51, 3) := by decide +kernel
theorem dX4_copyFrom_95 : decode cX4_copyFrom 95 = .ok (.aload_n 0, 1) := by decide +kernel
theorem dX4_copyFrom_96 : decode cX4_copyFrom 96 = .ok (.aload_n 1, 1) := by decide +kernel
theorem dX4_copyFrom_97 : decode cX4_copyFrom 97 = .ok (.getfield 32, 3) := by decide +kernel
theorem dX4_copyFrom_100 : decode cX4_copyFrom 100 = .ok (.putfield 32, 3) := by decide +kernel
theorem dX4_copyFrom_103 : decode cX4_copyFrom 103 = .ok (.aload_n 0, 1) := by decide +kernel
theorem dX4_copyFrom_104 : decode cX4_copyFrom 104 = .ok (.getfield 19, 3) := by decide +kernel
theorem dX4_copyFrom_107 : decode cX4_copyFrom 107 = .ok (.arraylength, 1) := by decide +kernel
theorem dX4_copyFrom_108 : decode cX4_copyFrom 108 = .ok (.aload_n 0, 1) := by decide +kernel
theorem dX4_copyFrom_109 : decode cX4_copyFrom 109 = .ok (.getfield 32, 3) := by decide +kernel
theorem dX4_copyFrom_112 : decode cX4_copyFrom 112 = .ok (.if_icmp .ge 14, 3) := by decide +kernel
theorem dX4_copyFrom_126 : decode cX4_copyFrom 126 = .ok (.aload_n 1, 1) := by decide +kernel
theorem dX4_copyFrom_127 : decode cX4_copyFrom 127 = .ok (.getfield 19, 3) := by decide +kernel
theorem dX4_copyFrom_130 : decode cX4_copyFrom 130 = .ok (.iconst 0, 1) := by decide +kernel
theorem dX4_copyFrom_131 : decode cX4_copyFrom 131 = .ok (.aload_n 0, 1) := by decide +kernel
theorem dX4_copyFrom_132 : decode cX4_copyFrom 132 = .ok (.getfield 19, 3) := by decide +kernel
theorem dX4_copyFrom_135 : decode cX4_copyFrom 135 = .ok (.iconst 0, 1) := by decide +kernel
theorem dX4_copyFrom_136 : decode cX4_copyFrom 136 = .ok (.aload_n 0, 1) := by decide +kernel
theorem dX4_copyFrom_137 : decode cX4_copyFrom 137 = .ok (.getfield 32, 3) := by decide +kernel
theorem dX4_copyFrom_140 : decode cX4_copyFrom 140 = .ok (.invokestatic 80, 3) := by decide +kernel
theorem dX4_copyFrom_143 : decode cX4_copyFrom 143 = .ok (.return_, 1) := by decide +kernel
theorem dX2_vanish_0 : decode cX2_vanish 0 = .ok (.aload_n 0, 1) := by decide +kernel
theorem dX2_vanish_1 : decode cX2_vanish 1 = .ok (.iconst 0, 1) := by decide +kernel
theorem dX2_vanish_2 : decode cX2_vanish 2 = .ok (.putfield 25, 3) := by decide +kernel
theorem dX2_vanish_5 : decode cX2_vanish 5 = .ok (.aload_n 0, 1) := by decide +kernel
theorem dX2_vanish_6 : decode cX2_vanish 6 = .ok (.getfield 12, 3) := by decide +kernel
theorem dX2_vanish_9 : decode cX2_vanish 9 = .ok (.iconst 0, 1) := by decide +kernel
theorem dX2_vanish_10 : decode cX2_vanish 10 = .ok (.putfield 32, 3) := by decide +kernel
theorem dX2_vanish_13 : decode cX2_vanish 13 = .ok (.aload_n 0, 1) := by decide +kernel
theorem dX2_vanish_14 : decode cX2_vanish 14 = .ok (.getfield 18, 3) := by decide +kernel
theorem dX2_vanish_17 : decode cX2_vanish 17 = .ok (.iconst 0, 1) := by decide +kernel
theorem dX2_vanish_18 : decode cX2_vanish 18 = .ok (.putfield 32, 3) := by decide +kernel
theorem dX2_vanish_21 : decode cX2_vanish 21 = .ok (.return_, 1) := by decide +kernel
theorem dJx4a65c_clear_da8c8_0 : decode cJx4a65c_clear_da8c8 0 = .ok (.aload_n 0, 1) := by decide +kernel
theorem dJx4a65c_clear_da8c8_1 : decode cJx4a65c_clear_da8c8 1 = .ok (.dup, 1) := by decide +kernel
theorem dJx4a65c_clear_da8c8_2 : decode cJx4a65c_clear_da8c8 2 = .ok (.getfield 63, 3) := by decide +kernel
theorem dJx4a65c_clear_da8c8_5 : decode cJx4a65c_clear_da8c8 5 = .ok (.iconst 1, 1) := by decide +kernel
theorem dJx4a65c_clear_da8c8_6 : decode cJx4a65c_clear_da8c8 6 = .ok (.iadd, 1) := by decide +kernel
theorem dJx4a65c_clear_da8c8_7 : decode cJx4a65c_clear_da8c8 7 = .ok (.putfield 63, 3) := by decide +kernel
theorem dJx4a65c_clear_da8c8_10 : decode cJx4a65c_clear_da8c8 10 = .ok (.aload_n 0, 1) := by decide +kernel
theorem dJx4a65c_clear_da8c8_11 : decode cJx4a65c_clear_da8c8 11 = .ok (.getfield 9, 3) := by decide +kernel
theorem dJx4a65c_clear_da8c8_14 : decode cJx4a65c_clear_da8c8 14 = .ok (.astore_n 1, 1) := by decide +kernel
theorem dJx4a65c_clear_da8c8_15 : decode cJx4a65c_clear_da8c8 15 = .ok (.aload_n 0, 1) := by decide +kernel
theorem dJx4a65c_clear_da8c8_16 : decode cJx4a65c_clear_da8c8 16 = .ok (.getfield 48, 3) := by decide +kernel
theorem dJx4a65c_clear_da8c8_19 : decode cJx4a65c_clear_da8c8 19 = .ok (.istore_n 2, 1) := by decide +kernel
theorem dJx4a65c_clear_da8c8_20 : decode cJx4a65c_clear_da8c8 20 = .ok (.aload_n 0, 1) := by decide +kernel
theorem dJx4a65c_clear_da8c8_21 : decode cJx4a65c_clear_da8c8 21 = .ok (.iconst 0, 1) := by decide +kernel
theorem dJx4a65c_clear_da8c8_22 : decode cJx4a65c_clear_da8c8 22 = .ok (.dup_x1, 1) := by decide +kernel
theorem dJx4a65c_clear_da8c8_23 : decode cJx4a65c_clear_da8c8 23 = .ok (.putfield 48, 3) := by decide +kernel
theorem dJx4a65c_clear_da8c8_26 : decode cJx4a65c_clear_da8c8 26 = .ok (.istore_n 3, 1) := by decide +kernel
theorem dJx4a65c_clear_da8c8_27 : decode cJx4a65c_clear_da8c8 27 = .ok (.iload_n 3, 1) := by decide +kernel
theorem dJx4a65c_clear_da8c8_28 : decode cJx4a65c_clear_da8c8 28 = .ok (.iload_n 2, 1) := by decide +kernel
theorem dJx4a65c_clear_da8c8_29 : decode cJx4a65c_clear_da8c8 29 = .ok (.if_icmp .ge 13, 3) := by decide +kernel
theorem dJx4a65c_clear_da8c8_42 : decode cJx4a65c_clear_da8c8 42 = .ok (.return_, 1) := by decide +kernel
theorem dJ7_fill_d0a16_0 : decode cJ7_fill_d0a16 0 = .ok (.iconst 0, 1) := by decide +kernel
theorem dJ7_fill_d0a16_1 : decode cJ7_fill_d0a16 1 = .ok (.istore_n 3, 1) := by decide +kernel
theorem dJ7_fill_d0a16_2 : decode cJ7_fill_d0a16 2 = .ok (.aload_n 0, 1) := by decide +kernel
theorem dJ7_fill_d0a16_3 : decode cJ7_fill_d0a16 3 = .ok (.arraylength, 1) := by decide +kernel
theorem dJ7_fill_d0a16_4 : decode cJ7_fill_d0a16 4 = .ok (.istore 4, 2) := by decide +kernel
theorem dJ7_fill_d0a16_6 : decode cJ7_fill_d0a16 6 = .ok (.iload_n 3, 1) := by decide +kernel
theorem dJ7_fill_d0a16_7 : decode cJ7_fill_d0a16 7 = .ok (.iload 4, 2) := by decide +kernel
theorem dJ7_fill_d0a16_9 : decode cJ7_fill_d0a16 9 = .ok (.if_icmp .ge 13, 3) := by decide +kernel
theorem dJ7_fill_d0a16_12 : decode cJ7_fill_d0a16 12 = .ok (.aload_n 0, 1) := by decide +kernel
theorem dJ7_fill_d0a16_13 : decode cJ7_fill_d0a16 13 = .ok (.iload_n 3, 1) := by decide +kernel
theorem dJ7_fill_d0a16_14 : decode cJ7_fill_d0a16 14 = .ok (.lload_n 1, 1) := by decide +kernel
theorem dJ7_fill_d0a16_15 : decode cJ7_fill_d0a16 15 = .ok (.lastore, 1) := by decide +kernel
theorem dJ7_fill_d0a16_16 : decode cJ7_fill_d0a16 16 = .ok (.iinc 3 1, 3) := by decide +kernel
theorem dJ7_fill_d0a16_19 : decode cJ7_fill_d0a16 19 = .ok (.goto (-13), 3) := by decide +kernel
theorem dJ7_fill_d0a16_22 : decode cJ7_fill_d0a16 22 = .ok (.return_, 1) := by decide +kernel
theorem dX11_outs_0 : decode cX11_outs 0 = .ok (.aload_n 0, 1) := by decide +kernel
theorem dX11_outs_1 : decode cX11_outs 1 = .ok (.iload_n 1, 1) := by decide +kernel
theorem dX11_outs_2 : decode cX11_outs 2 = .ok (.invokevirtual 108, 3) := by decide +kernel
theorem dX11_outs_5 : decode cX11_outs 5 = .ok (.astore_n 2, 1) := by decide +kernel
theorem dX11_outs_6 : decode cX11_outs 6 = .ok (.aload_n 2, 1) := by decide +kernel
theorem dX11_outs_7 : decode cX11_outs 7 = .ok (.ifnonnull 7, 3) := by decide +kernel
theorem dX11_outs_10 : decode cX11_outs 10 = .ok (.iconst (-1), 1) := by decide +kernel
theorem dX11_outs_11 : decode cX11_outs 11 = .ok (.goto 10, 3) := by decide +kernel
theorem dX11_outs_14 : decode cX11_outs 14 = .ok (.aload_n 2, 1) := by decide +kernel
theorem dX11_outs_15 : decode cX11_outs 15 = .ok (.getfield 201, 3) := by decide +kernel
theorem dX11_outs_18 : decode cX11_outs 18 = .ok (.getfield 85, 3) := by decide +kernel
theorem dX11_outs_21 : decode cX11_outs 21 = .ok (.ireturn, 1) := by decide +kernel
theorem dX11_out_0 : decode cX11_out 0 = .ok (.aload_n 0, 1) := by decide +kernel
theorem dX11_out_1 : decode cX11_out 1 = .ok (.iload_n 1, 1) := by decide +kernel
theorem dX11_out_2 : decode cX11_out 2 = .ok (.invokevirtual 108, 3) := by decide +kernel
theorem dX11_out_5 : decode cX11_out 5 = .ok (.astore_n 3, 1) := by decide +kernel
theorem dX11_out_6 : decode cX11_out 6 = .ok (.aload_n 3, 1) := by decide +kernel
theorem dX11_out_7 : decode cX11_out 7 = .ok (.ifnull 18, 3) := by decide +kernel
end
section
theorem dX11_out_10 : decode cX11_out 10 = .ok (.iload_n 2, 1) := by decide +kernel
theorem dX11_out_11 : decode cX11_out 11 = .ok (.ifCond .lt 14, 3) := by decide +kernel
theorem dX11_out_14 : decode cX11_out 14 = .ok (.iload_n 2, 1) := by decide +kernel
theorem dX11_out_15 : decode cX11_out 15 = .ok (.aload_n 3, 1) := by decide +kernel
theorem dX11_out_16 : decode cX11_out 16 = .ok (.getfield 201, 3) := by decide +kernel
theorem dX11_out_19 : decode cX11_out 19 = .ok (.getfield 85, 3) := by decide +kernel
theorem dX11_out_22 : decode cX11_out 22 = .ok (.if_icmp .lt 5, 3) := by decide +kernel
theorem dX11_out_25 : decode cX11_out 25 = .ok (.iconst (-1), 1) := by decide +kernel
theorem dX11_out_26 : decode cX11_out 26 = .ok (.ireturn, 1) := by decide +kernel
theorem dX11_drop_0 : decode cX11_drop 0 = .ok (.aload_n 0, 1) := by decide +kernel
theorem dX11_drop_1 : decode cX11_drop 1 = .ok (.iload_n 1, 1) := by decide +kernel
theorem dX11_drop_2 : decode cX11_drop 2 = .ok (.invokevirtual 108, 3) := by decide +kernel
theorem dX11_drop_5 : decode cX11_drop 5 = .ok (.astore_n 2, 1) := by decide +kernel
theorem dX11_drop_6 : decode cX11_drop 6 = .ok (.aload_n 2, 1) := by decide +kernel
theorem dX11_drop_7 : decode cX11_drop 7 = .ok (.ifnonnull 5, 3) := by decide +kernel
theorem dX11_drop_10 : decode cX11_drop 10 = .ok (.iconst (-1), 1) := by decide +kernel
theorem dX11_drop_11 : decode cX11_drop 11 = .ok (.ireturn, 1) := by decide +kernel
theorem dX11_drop_12 : decode cX11_drop 12 = .ok (.aload_n 2, 1) := by decide +kernel
theorem dX11_drop_13 : decode cX11_drop 13 = .ok (.getfield 201, 3) := by decide +kernel
theorem dX11_drop_16 : decode cX11_drop 16 = .ok (.getfield 85, 3) := by decide +kernel
theorem dX11_drop_19 : decode cX11_drop 19 = .ok (.istore_n 3, 1) := by decide +kernel
theorem dX11_drop_20 : decode cX11_drop 20 = .ok (.aload_n 2, 1) := by decide +kernel
theorem dX11_drop_21 : decode cX11_drop 21 = .ok (.getfield 201, 3) := by decide +kernel
theorem dX11_drop_24 : decode cX11_drop 24 = .ok (.iconst 0, 1) := by decide +kernel
theorem dX11_drop_25 : decode cX11_drop 25 = .ok (.putfield 85, 3) := by decide +kernel
theorem dX11_drop_28 : decode cX11_drop 28 = .ok (.iload_n 3, 1) := by decide +kernel
theorem dX11_drop_29 : decode cX11_drop 29 = .ok (.ireturn, 1) := by decide +kernel
theorem dX11_told_0 : decode cX11_told 0 = .ok (.iload_n 1, 1) := by decide +kernel
theorem dX11_told_1 : decode cX11_told 1 = .ok (.tableswitch 118 0 8 #[51, 57, 62, 70, 78, 86, 94, 102, 110], 51) := by decide +kernel
theorem dX11_told_52 : decode cX11_told 52 = .ok (.aload_n 0, 1) := by decide +kernel
theorem dX11_told_53 : decode cX11_told 53 = .ok (.getfield 157, 3) := by decide +kernel
theorem dX11_told_56 : decode cX11_told 56 = .ok (.l2i, 1) := by decide +kernel
theorem dX11_told_57 : decode cX11_told 57 = .ok (.ireturn, 1) := by decide +kernel
theorem dX11_told_58 : decode cX11_told 58 = .ok (.aload_n 0, 1) := by decide +kernel
theorem dX11_told_59 : decode cX11_told 59 = .ok (.getfield 182, 3) := by decide +kernel
theorem dX11_told_62 : decode cX11_told 62 = .ok (.ireturn, 1) := by decide +kernel
theorem dX11_told_63 : decode cX11_told 63 = .ok (.aload_n 0, 1) := by decide +kernel
theorem dX11_told_64 : decode cX11_told 64 = .ok (.getfield 29, 3) := by decide +kernel
theorem dX11_told_67 : decode cX11_told 67 = .ok (.getfield 101, 3) := by decide +kernel
theorem dX11_told_70 : decode cX11_told 70 = .ok (.ireturn, 1) := by decide +kernel
theorem dX11_told_71 : decode cX11_told 71 = .ok (.aload_n 0, 1) := by decide +kernel
theorem dX11_told_72 : decode cX11_told 72 = .ok (.getfield 52, 3) := by decide +kernel
theorem dX11_told_75 : decode cX11_told 75 = .ok (.invokevirtual 161, 3) := by decide +kernel
theorem dX11_told_78 : decode cX11_told 78 = .ok (.ireturn, 1) := by decide +kernel
theorem dX11_told_79 : decode cX11_told 79 = .ok (.aload_n 0, 1) := by decide +kernel
theorem dX11_told_80 : decode cX11_told 80 = .ok (.getfield 55, 3) := by decide +kernel
theorem dX11_told_83 : decode cX11_told 83 = .ok (.invokevirtual 161, 3) := by decide +kernel
theorem dX11_told_86 : decode cX11_told 86 = .ok (.ireturn, 1) := by decide +kernel
theorem dX11_told_87 : decode cX11_told 87 = .ok (.aload_n 0, 1) := by decide +kernel
theorem dX11_told_88 : decode cX11_told 88 = .ok (.getfield 58, 3) := by decide +kernel
theorem dX11_told_91 : decode cX11_told 91 = .ok (.invokevirtual 161, 3) := by decide +kernel
theorem dX11_told_94 : decode cX11_told 94 = .ok (.ireturn, 1) := by decide +kernel
theorem dX11_told_95 : decode cX11_told 95 = .ok (.aload_n 0, 1) := by decide +kernel
theorem dX11_told_96 : decode cX11_told 96 = .ok (.getfield 45, 3) := by decide +kernel
theorem dX11_told_99 : decode cX11_told 99 = .ok (.invokevirtual 161, 3) := by decide +kernel
theorem dX11_told_102 : decode cX11_told 102 = .ok (.ireturn, 1) := by decide +kernel
theorem dX11_told_103 : decode cX11_told 103 = .ok (.aload_n 0, 1) := by decide +kernel
theorem dX11_told_104 : decode cX11_told 104 = .ok (.getfield 49, 3) := by decide +kernel
theorem dX11_told_107 : decode cX11_told 107 = .ok (.invokevirtual 161, 3) := by decide +kernel
theorem dX11_told_110 : decode cX11_told 110 = .ok (.ireturn, 1) := by decide +kernel
theorem dX11_told_111 : decode cX11_told 111 = .ok (.aload_n 0, 1) := by decide +kernel
theorem dX11_told_112 : decode cX11_told 112 = .ok (.getfield 33, 3) := by decide +kernel
theorem dX11_told_115 : decode cX11_told 115 = .ok (.getfield 101, 3) := by decide +kernel
theorem dX11_told_118 : decode cX11_told 118 = .ok (.ireturn, 1) := by decide +kernel
theorem dX11_told_119 : decode cX11_told 119 = .ok (.iconst (-1), 1) := by decide +kernel
theorem dX11_told_120 : decode cX11_told 120 = .ok (.ireturn, 1) := by decide +kernel
theorem dX12_init_0 : decode cX12_init 0 = .ok (.aload_n 0, 1) := by decide +kernel
theorem dX12_init_1 : decode cX12_init 1 = .ok (.invokespecial 1, 3) := by decide +kernel
theorem dX12_init_4 : decode cX12_init 4 = .ok (.aload_n 0, 1) := by decide +kernel
theorem dX12_init_5 : decode cX12_init 5 = .ok (.sipush 8000, 3) := by decide +kernel
theorem dX12_init_8 : decode cX12_init 8 = .ok (.newarray .byte, 2) := by decide +kernel
theorem dX12_init_10 : decode cX12_init 10 = .ok (.putfield 7, 3) := by decide +kernel
theorem dX12_init_13 : decode cX12_init 13 = .ok (.aload_n 0, 1) := by decide +kernel
theorem dX12_init_14 : decode cX12_init 14 = .ok (.sipush 160, 3) := by decide +kernel
theorem dX12_init_17 : decode cX12_init 17 = .ok (.newarray .boolean, 2) := by decide +kernel
theorem dX12_init_19 : decode cX12_init 19 = .ok (.putfield 13, 3) := by decide +kernel
theorem dX12_init_22 : decode cX12_init 22 = .ok (.aload_n 0, 1) := by decide +kernel
theorem dX12_init_23 : decode cX12_init 23 = .ok (.sipush 160, 3) := by decide +kernel
theorem dX12_init_26 : decode cX12_init 26 = .ok (.newarray .int, 2) := by decide +kernel
theorem dX12_init_28 : decode cX12_init 28 = .ok (.putfield 17, 3) := by decide +kernel
theorem dX12_init_31 : decode cX12_init 31 = .ok (.aload_n 0, 1) := by decide +kernel
theorem dX12_init_32 : decode cX12_init 32 = .ok (.sipush 160, 3) := by decide +kernel
theorem dX12_init_35 : decode cX12_init 35 = .ok (.newarray .boolean, 2) := by decide +kernel
theorem dX12_init_37 : decode cX12_init 37 = .ok (.putfield 21, 3) := by decide +kernel
theorem dX12_init_40 : decode cX12_init 40 = .ok (.aload_n 0, 1) := by decide +kernel
theorem dX12_init_41 : decode cX12_init 41 = .ok (.sipush 1920, 3) := by decide +kernel
theorem dX12_init_44 : decode cX12_init 44 = .ok (.newarray .byte, 2) := by decide +kernel
theorem dX12_init_46 : decode cX12_init 46 = .ok (.putfield 24, 3) := by decide +kernel
theorem dX12_init_49 : decode cX12_init 49 = .ok (.aload_n 0, 1) := by decide +kernel
theorem dX12_init_50 : decode cX12_init 50 = .ok (.sipush 160, 3) := by decide +kernel
theorem dX12_init_53 : decode cX12_init 53 = .ok (.newarray .int, 2) := by decide +kernel
theorem dX12_init_55 : decode cX12_init 55 = .ok (.putfield 27, 3) := by decide +kernel
theorem dX12_init_58 : decode cX12_init 58 = .ok (.aload_n 0, 1) := by decide +kernel
theorem dX12_init_59 : decode cX12_init 59 = .ok (.sipush 160, 3) := by decide +kernel
theorem dX12_init_62 : decode cX12_init 62 = .ok (.newarray .int, 2) := by decide +kernel
theorem dX12_init_64 : decode cX12_init 64 = .ok (.putfield 30, 3) := by decide +kernel
theorem dX12_init_67 : decode cX12_init 67 = .ok (.aload_n 0, 1) := by decide +kernel
theorem dX12_init_68 : decode cX12_init 68 = .ok (.sipush 640, 3) := by decide +kernel
theorem dX12_init_71 : decode cX12_init 71 = .ok (.newarray .long, 2) := by decide +kernel
theorem dX12_init_73 : decode cX12_init 73 = .ok (.putfield 33, 3) := by decide +kernel
theorem dX12_init_76 : decode cX12_init 76 = .ok (.aload_n 0, 1) := by decide +kernel
theorem dX12_init_77 : decode cX12_init 77 = .ok (.sipush 160, 3) := by decide +kernel
theorem dX12_init_80 : decode cX12_init 80 = .ok (.newarray .int, 2) := by decide +kernel
theorem dX12_init_82 : decode cX12_init 82 = .ok (.putfield 37, 3) := by decide +kernel
theorem dX12_init_85 : decode cX12_init 85 = .ok (.aload_n 0, 1) := by decide +kernel
theorem dX12_init_86 : decode cX12_init 86 = .ok (.ldc 40, 2) := by decide +kernel
theorem dX12_init_88 : decode cX12_init 88 = .ok (.newarray .byte, 2) := by decide +kernel
theorem dX12_init_90 : decode cX12_init 90 = .ok (.putfield 41, 3) := by decide +kernel
theorem dX12_init_93 : decode cX12_init 93 = .ok (.aload_n 0, 1) := by decide +kernel
theorem dX12_init_94 : decode cX12_init 94 = .ok (.bipush 80, 2) := by decide +kernel
theorem dX12_init_96 : decode cX12_init 96 = .ok (.newarray .boolean, 2) := by decide +kernel
theorem dX12_init_98 : decode cX12_init 98 = .ok (.putfield 44, 3) := by decide +kernel
theorem dX12_init_101 : decode cX12_init 101 = .ok (.aload_n 0, 1) := by decide +kernel
theorem dX12_init_102 : decode cX12_init 102 = .ok (.iconst 4, 1) := by decide +kernel
theorem dX12_init_103 : decode cX12_init 103 = .ok (.newarray .int, 2) := by decide +kernel
theorem dX12_init_105 : decode cX12_init 105 = .ok (.putfield 47, 3) := by decide +kernel
theorem dX12_init_108 : decode cX12_init 108 = .ok (.aload_n 0, 1) := by decide +kernel
theorem dX12_init_109 : decode cX12_init 109 = .ok (.bipush 48, 2) := by decide +kernel
theorem dX12_init_111 : decode cX12_init 111 = .ok (.newarray .byte, 2) := by decide +kernel
theorem dX12_init_113 : decode cX12_init 113 = .ok (.putfield 50, 3) := by decide +kernel
theorem dX12_init_116 : decode cX12_init 116 = .ok (.aload_n 0, 1) := by decide +kernel
theorem dX12_init_117 : decode cX12_init 117 = .ok (.iconst 4, 1) := by decide +kernel
theorem dX12_init_118 : decode cX12_init 118 = .ok (.newarray .int, 2) := by decide +kernel
theorem dX12_init_120 : decode cX12_init 120 = .ok (.putfield 53, 3) := by decide +kernel
theorem dX12_init_123 : decode cX12_init 123 = .ok (.aload_n 0, 1) := by decide +kernel
theorem dX12_init_124 : decode cX12_init 124 = .ok (.bipush 9, 2) := by decide +kernel
theorem dX12_init_126 : decode cX12_init 126 = .ok (.newarray .int, 2) := by decide +kernel
theorem dX12_init_128 : decode cX12_init 128 = .ok (.putfield 56, 3) := by decide +kernel
theorem dX12_init_131 : decode cX12_init 131 = .ok (.aload_n 0, 1) := by decide +kernel
theorem dX12_init_132 : decode cX12_init 132 = .ok (.bipush 9, 2) := by decide +kernel
theorem dX12_init_134 : decode cX12_init 134 = .ok (.newarray .int, 2) := by decide +kernel
theorem dX12_init_136 : decode cX12_init 136 = .ok (.putfield 59, 3) := by decide +kernel
theorem dX12_init_139 : decode cX12_init 139 = .ok (.aload_n 0, 1) := by decide +kernel
theorem dX12_init_140 : decode cX12_init 140 = .ok (.bipush 9, 2) := by decide +kernel
theorem dX12_init_142 : decode cX12_init 142 = .ok (.newarray .int, 2) := by decide +kernel
theorem dX12_init_144 : decode cX12_init 144 = .ok (.putfield 62, 3) := by decide +kernel
theorem dX12_init_147 : decode cX12_init 147 = .ok (.aload_n 0, 1) := by decide +kernel
theorem dX12_init_148 : decode cX12_init 148 = .ok (.bipush 9, 2) := by decide +kernel
theorem dX12_init_150 : decode cX12_init 150 = .ok (.newarray .boolean, 2) := by decide +kernel
theorem dX12_init_152 : decode cX12_init 152 = .ok (.putfield 65, 3) := by decide +kernel
theorem dX12_init_155 : decode cX12_init 155 = .ok (.aload_n 0, 1) := by decide +kernel
theorem dX12_init_156 : decode cX12_init 156 = .ok (.bipush 108, 2) := by decide +kernel
theorem dX12_init_158 : decode cX12_init 158 = .ok (.newarray .byte, 2) := by decide +kernel
theorem dX12_init_160 : decode cX12_init 160 = .ok (.putfield 68, 3) := by decide +kernel
theorem dX12_init_163 : decode cX12_init 163 = .ok (.aload_n 0, 1) := by decide +kernel
theorem dX12_init_164 : decode cX12_init 164 = .ok (.bipush 9, 2) := by decide +kernel
theorem dX12_init_166 : decode cX12_init 166 = .ok (.newarray .int, 2) := by decide +kernel
theorem dX12_init_168 : decode cX12_init 168 = .ok (.putfield 71, 3) := by decide +kernel
theorem dX12_init_171 : decode cX12_init 171 = .ok (.aload_n 0, 1) := by decide +kernel
theorem dX12_init_172 : decode cX12_init 172 = .ok (.bipush 9, 2) := by decide +kernel
theorem dX12_init_174 : decode cX12_init 174 = .ok (.newarray .int, 2) := by decide +kernel
theorem dX12_init_176 : decode cX12_init 176 = .ok (.putfield 74, 3) := by decide +kernel
theorem dX12_init_179 : decode cX12_init 179 = .ok (.aload_n 0, 1) := by decide +kernel
theorem dX12_init_180 : decode cX12_init 180 = .ok (.bipush 36, 2) := by decide +kernel
theorem dX12_init_182 : decode cX12_init 182 = .ok (.newarray .long, 2) := by decide +kernel
theorem dX12_init_184 : decode cX12_init 184 = .ok (.putfield 77, 3) := by decide +kernel
theorem dX12_init_187 : decode cX12_init 187 = .ok (.aload_n 0, 1) := by decide +kernel
theorem dX12_init_188 : decode cX12_init 188 = .ok (.bipush 9, 2) := by decide +kernel
theorem dX12_init_190 : decode cX12_init 190 = .ok (.newarray .int, 2) := by decide +kernel
theorem dX12_init_192 : decode cX12_init 192 = .ok (.putfield 80, 3) := by decide +kernel
theorem dX12_init_195 : decode cX12_init 195 = .ok (.aload_n 0, 1) := by decide +kernel
theorem dX12_init_196 : decode cX12_init 196 = .ok (.bipush 9, 2) := by decide +kernel
theorem dX12_init_198 : decode cX12_init 198 = .ok (.newarray .int, 2) := by decide +kernel
theorem dX12_init_200 : decode cX12_init 200 = .ok (.putfield 83, 3) := by decide +kernel
theorem dX12_init_203 : decode cX12_init 203 = .ok (.aload_n 0, 1) := by decide +kernel
theorem dX12_init_204 : decode cX12_init 204 = .ok (.sipush 9216, 3) := by decide +kernel
theorem dX12_init_207 : decode cX12_init 207 = .ok (.newarray .byte, 2) := by decide +kernel
theorem dX12_init_209 : decode cX12_init 209 = .ok (.putfield 86, 3) := by decide +kernel
theorem dX12_init_212 : decode cX12_init 212 = .ok (.aload_n 0, 1) := by decide +kernel
theorem dX12_init_213 : decode cX12_init 213 = .ok (.bipush 6, 2) := by decide +kernel
theorem dX12_init_215 : decode cX12_init 215 = .ok (.newarray .boolean, 2) := by decide +kernel
theorem dX12_init_217 : decode cX12_init 217 = .ok (.putfield 89, 3) := by decide +kernel
theorem dX12_init_220 : decode cX12_init 220 = .ok (.aload_n 0, 1) := by decide +kernel
theorem dX12_init_221 : decode cX12_init 221 = .ok (.bipush 6, 2) := by decide +kernel
theorem dX12_init_223 : decode cX12_init 223 = .ok (.newarray .boolean, 2) := by decide +kernel
theorem dX12_init_225 : decode cX12_init 225 = .ok (.putfield 92, 3) := by decide +kernel
theorem dX12_init_228 : decode cX12_init 228 = .ok (.aload_n 0, 1) := by decide +kernel
theorem dX12_init_229 : decode cX12_init 229 = .ok (.ldc 95, 2) := by decide +kernel
theorem dX12_init_231 : decode cX12_init 231 = .ok (.newarray .byte, 2) := by decide +kernel
theorem dX12_init_233 : decode cX12_init 233 = .ok (.putfield 96, 3) := by decide +kernel
theorem dX12_init_236 : decode cX12_init 236 = .ok (.aload_n 0, 1) := by decide +kernel
theorem dX12_init_237 : decode cX12_init 237 = .ok (.bipush 6, 2) := by decide +kernel
theorem dX12_init_239 : decode cX12_init 239 = .ok (.newarray .int, 2) := by decide +kernel
theorem dX12_init_241 : decode cX12_init 241 = .ok (.putfield 99, 3) := by decide +kernel
theorem dX12_init_244 : decode cX12_init 244 = .ok (.aload_n 0, 1) := by decide +kernel
theorem dX12_init_245 : decode cX12_init 245 = .ok (.ldc 102, 2) := by decide +kernel
theorem dX12_init_247 : decode cX12_init 247 = .ok (.newarray .byte, 2) := by decide +kernel
theorem dX12_init_249 : decode cX12_init 249 = .ok (.putfield 103, 3) := by decide +kernel
theorem dX12_init_252 : decode cX12_init 252 = .ok (.aload_n 0, 1) := by decide +kernel
theorem dX12_init_253 : decode cX12_init 253 = .ok (.bipush 6, 2) := by decide +kernel
theorem dX12_init_255 : decode cX12_init 255 = .ok (.newarray .int, 2) := by decide +kernel
theorem dX12_init_257 : decode cX12_init 257 = .ok (.putfield 106, 3) := by decide +kernel
theorem dX12_init_260 : decode cX12_init 260 = .ok (.aload_n 0, 1) := by decide +kernel
theorem dX12_init_261 : decode cX12_init 261 = .ok (.bipush 96, 2) := by decide +kernel
theorem dX12_init_263 : decode cX12_init 263 = .ok (.newarray .long, 2) := by decide +kernel
theorem dX12_init_265 : decode cX12_init 265 = .ok (.putfield 109, 3) := by decide +kernel
theorem dX12_init_268 : decode cX12_init 268 = .ok (.aload_n 0, 1) := by decide +kernel
theorem dX12_init_269 : decode cX12_init 269 = .ok (.bipush 6, 2) := by decide +kernel
theorem dX12_init_271 : decode cX12_init 271 = .ok (.newarray .int, 2) := by decide +kernel
theorem dX12_init_273 : decode cX12_init 273 = .ok (.putfield 112, 3) := by decide +kernel
theorem dX12_init_276 : decode cX12_init 276 = .ok (.aload_n 0, 1) := by decide +kernel
theorem dX12_init_277 : decode cX12_init 277 = .ok (.bipush 6, 2) := by decide +kernel
theorem dX12_init_279 : decode cX12_init 279 = .ok (.newarray .long, 2) := by decide +kernel
theorem dX12_init_281 : decode cX12_init 281 = .ok (.putfield 115, 3) := by decide +kernel
theorem dX12_init_284 : decode cX12_init 284 = .ok (.aload_n 0, 1) := by decide +kernel
theorem dX12_init_285 : decode cX12_init 285 = .ok (.bipush 8, 2) := by decide +kernel
theorem dX12_init_287 : decode cX12_init 287 = .ok (.newarray .long, 2) := by decide +kernel
theorem dX12_init_289 : decode cX12_init 289 = .ok (.putfield 118, 3) := by decide +kernel
theorem dX12_init_292 : decode cX12_init 292 = .ok (.aload_n 0, 1) := by decide +kernel
theorem dX12_init_293 : decode cX12_init 293 = .ok (.bipush 8, 2) := by decide +kernel
theorem dX12_init_295 : decode cX12_init 295 = .ok (.newarray .int, 2) := by decide +kernel
theorem dX12_init_297 : decode cX12_init 297 = .ok (.putfield 121, 3) := by decide +kernel
theorem dX12_init_300 : decode cX12_init 300 = .ok (.aload_n 0, 1) := by decide +kernel
theorem dX12_init_301 : decode cX12_init 301 = .ok (.sipush 128, 3) := by decide +kernel
theorem dX12_init_304 : decode cX12_init 304 = .ok (.newarray .byte, 2) := by decide +kernel
theorem dX12_init_306 : decode cX12_init 306 = .ok (.putfield 124, 3) := by decide +kernel
theorem dX12_init_309 : decode cX12_init 309 = .ok (.aload_n 0, 1) := by decide +kernel
theorem dX12_init_310 : decode cX12_init 310 = .ok (.bipush 8, 2) := by decide +kernel
theorem dX12_init_312 : decode cX12_init 312 = .ok (.newarray .int, 2) := by decide +kernel
theorem dX12_init_314 : decode cX12_init 314 = .ok (.putfield 127, 3) := by decide +kernel
theorem dX12_init_317 : decode cX12_init 317 = .ok (.aload_n 0, 1) := by decide +kernel
theorem dX12_init_318 : decode cX12_init 318 = .ok (.bipush 16, 2) := by decide +kernel
theorem dX12_init_320 : decode cX12_init 320 = .ok (.newarray .long, 2) := by decide +kernel
theorem dX12_init_322 : decode cX12_init 322 = .ok (.putfield 130, 3) := by decide +kernel
theorem dX12_init_325 : decode cX12_init 325 = .ok (.aload_n 0, 1) := by decide +kernel
theorem dX12_init_326 : decode cX12_init 326 = .ok (.bipush 16, 2) := by decide +kernel
theorem dX12_init_328 : decode cX12_init 328 = .ok (.newarray .int, 2) := by decide +kernel
theorem dX12_init_330 : decode cX12_init 330 = .ok (.putfield 133, 3) := by decide +kernel
theorem dX12_init_333 : decode cX12_init 333 = .ok (.aload_n 0, 1) := by decide +kernel
theorem dX12_init_334 : decode cX12_init 334 = .ok (.bipush 16, 2) := by decide +kernel
theorem dX12_init_336 : decode cX12_init 336 = .ok (.newarray .int, 2) := by decide +kernel
theorem dX12_init_338 : decode cX12_init 338 = .ok (.putfield 136, 3) := by decide +kernel
theorem dX12_init_341 : decode cX12_init 341 = .ok (.aload_n 0, 1) := by decide +kernel
theorem dX12_init_342 : decode cX12_init 342 = .ok (.bipush 40, 2) := by decide +kernel
theorem dX12_init_344 : decode cX12_init 344 = .ok (.newarray .long, 2) := by decide +kernel
theorem dX12_init_346 : decode cX12_init 346 = .ok (.putfield 139, 3) := by decide +kernel
theorem dX12_init_349 : decode cX12_init 349 = .ok (.aload_n 0, 1) := by decide +kernel
theorem dX12_init_350 : decode cX12_init 350 = .ok (.bipush 40, 2) := by decide +kernel
theorem dX12_init_352 : decode cX12_init 352 = .ok (.newarray .int, 2) := by decide +kernel
theorem dX12_init_354 : decode cX12_init 354 = .ok (.putfield 142, 3) := by decide +kernel
theorem dX12_init_357 : decode cX12_init 357 = .ok (.aload_n 0, 1) := by decide +kernel
theorem dX12_init_358 : decode cX12_init 358 = .ok (.bipush 40, 2) := by decide +kernel
theorem dX12_init_360 : decode cX12_init 360 = .ok (.newarray .int, 2) := by decide +kernel
theorem dX12_init_362 : decode cX12_init 362 = .ok (.putfield 145, 3) := by decide +kernel
theorem dX12_init_365 : decode cX12_init 365 = .ok (.aload_n 0, 1) := by decide +kernel
theorem dX12_init_366 : decode cX12_init 366 = .ok (.bipush 40, 2) := by decide +kernel
theorem dX12_init_368 : decode cX12_init 368 = .ok (.newarray .int, 2) := by decide +kernel
theorem dX12_init_370 : decode cX12_init 370 = .ok (.putfield 148, 3) := by decide +kernel
theorem dX12_init_373 : decode cX12_init 373 = .ok (.aload_n 0, 1) := by decide +kernel
theorem dX12_init_374 : decode cX12_init 374 = .ok (.bipush 40, 2) := by decide +kernel
theorem dX12_init_376 : decode cX12_init 376 = .ok (.newarray .int, 2) := by decide +kernel
theorem dX12_init_378 : decode cX12_init 378 = .ok (.putfield 151, 3) := by decide +kernel
theorem dX12_init_381 : decode cX12_init 381 = .ok (.aload_n 0, 1) := by decide +kernel
theorem dX12_init_382 : decode cX12_init 382 = .ok (.bipush 40, 2) := by decide +kernel
theorem dX12_init_384 : decode cX12_init 384 = .ok (.newarray .int, 2) := by decide +kernel
theorem dX12_init_386 : decode cX12_init 386 = .ok (.putfield 154, 3) := by decide +kernel
theorem dX12_init_389 : decode cX12_init 389 = .ok (.aload_n 0, 1) := by decide +kernel
theorem dX12_init_390 : decode cX12_init 390 = .ok (.bipush 40, 2) := by decide +kernel
theorem dX12_init_392 : decode cX12_init 392 = .ok (.newarray .boolean, 2) := by decide +kernel
theorem dX12_init_394 : decode cX12_init 394 = .ok (.putfield 157, 3) := by decide +kernel
theorem dX12_init_397 : decode cX12_init 397 = .ok (.aload_n 0, 1) := by decide +kernel
theorem dX12_init_398 : decode cX12_init 398 = .ok (.bipush 40, 2) := by decide +kernel
theorem dX12_init_400 : decode cX12_init 400 = .ok (.newarray .int, 2) := by decide +kernel
theorem dX12_init_402 : decode cX12_init 402 = .ok (.putfield 160, 3) := by decide +kernel
theorem dX12_init_405 : decode cX12_init 405 = .ok (.aload_n 0, 1) := by decide +kernel
theorem dX12_init_406 : decode cX12_init 406 = .ok (.bipush 40, 2) := by decide +kernel
theorem dX12_init_408 : decode cX12_init 408 = .ok (.newarray .long, 2) := by decide +kernel
theorem dX12_init_410 : decode cX12_init 410 = .ok (.putfield 163, 3) := by decide +kernel
theorem dX12_init_413 : decode cX12_init 413 = .ok (.aload_n 0, 1) := by decide +kernel
theorem dX12_init_414 : decode cX12_init 414 = .ok (.bipush 40, 2) := by decide +kernel
theorem dX12_init_416 : decode cX12_init 416 = .ok (.newarray .boolean, 2) := by decide +kernel
theorem dX12_init_418 : decode cX12_init 418 = .ok (.putfield 166, 3) := by decide +kernel
theorem dX12_init_421 : decode cX12_init 421 = .ok (.aload_n 0, 1) := by decide +kernel
theorem dX12_init_422 : decode cX12_init 422 = .ok (.bipush 40, 2) := by decide +kernel
theorem dX12_init_424 : decode cX12_init 424 = .ok (.newarray .int, 2) := by decide +kernel
theorem dX12_init_426 : decode cX12_init 426 = .ok (.putfield 169, 3) := by decide +kernel
theorem dX12_init_429 : decode cX12_init 429 = .ok (.aload_n 0, 1) := by decide +kernel
theorem dX12_init_430 : decode cX12_init 430 = .ok (.sipush 800, 3) := by decide +kernel
theorem dX12_init_433 : decode cX12_init 433 = .ok (.newarray .int, 2) := by decide +kernel
theorem dX12_init_435 : decode cX12_init 435 = .ok (.putfield 172, 3) := by decide +kernel
theorem dX12_init_438 : decode cX12_init 438 = .ok (.aload_n 0, 1) := by decide +kernel
theorem dX12_init_439 : decode cX12_init 439 = .ok (.bipush 40, 2) := by decide +kernel
theorem dX12_init_441 : decode cX12_init 441 = .ok (.newarray .int, 2) := by decide +kernel
theorem dX12_init_443 : decode cX12_init 443 = .ok (.putfield 175, 3) := by decide +kernel
theorem dX12_init_446 : decode cX12_init 446 = .ok (.aload_n 0, 1) := by decide +kernel
theorem dX12_init_447 : decode cX12_init 447 = .ok (.sipush 480, 3) := by decide +kernel
theorem dX12_init_450 : decode cX12_init 450 = .ok (.newarray .byte, 2) := by decide +kernel
theorem dX12_init_452 : decode cX12_init 452 = .ok (.putfield 178, 3) := by decide +kernel
theorem dX12_init_455 : decode cX12_init 455 = .ok (.aload_n 0, 1) := by decide +kernel
theorem dX12_init_456 : decode cX12_init 456 = .ok (.bipush 40, 2) := by decide +kernel
theorem dX12_init_458 : decode cX12_init 458 = .ok (.newarray .int, 2) := by decide +kernel
theorem dX12_init_460 : decode cX12_init 460 = .ok (.putfield 181, 3) := by decide +kernel
theorem dX12_init_463 : decode cX12_init 463 = .ok (.aload_n 0, 1) := by decide +kernel
theorem dX12_init_464 : decode cX12_init 464 = .ok (.bipush 80, 2) := by decide +kernel
theorem dX12_init_466 : decode cX12_init 466 = .ok (.newarray .long, 2) := by decide +kernel
theorem dX12_init_468 : decode cX12_init 468 = .ok (.putfield 184, 3) := by decide +kernel
theorem dX12_init_471 : decode cX12_init 471 = .ok (.aload_n 0, 1) := by decide +kernel
theorem dX12_init_472 : decode cX12_init 472 = .ok (.bipush 80, 2) := by decide +kernel
theorem dX12_init_474 : decode cX12_init 474 = .ok (.newarray .int, 2) := by decide +kernel
theorem dX12_init_476 : decode cX12_init 476 = .ok (.putfield 187, 3) := by decide +kernel
theorem dX12_init_479 : decode cX12_init 479 = .ok (.aload_n 0, 1) := by decide +kernel
theorem dX12_init_480 : decode cX12_init 480 = .ok (.bipush 80, 2) := by decide +kernel
theorem dX12_init_482 : decode cX12_init 482 = .ok (.newarray .long, 2) := by decide +kernel
theorem dX12_init_484 : decode cX12_init 484 = .ok (.putfield 190, 3) := by decide +kernel
theorem dX12_init_487 : decode cX12_init 487 = .ok (.aload_n 0, 1) := by decide +kernel
theorem dX12_init_488 : decode cX12_init 488 = .ok (.bipush 80, 2) := by decide +kernel
theorem dX12_init_490 : decode cX12_init 490 = .ok (.newarray .long, 2) := by decide +kernel
theorem dX12_init_492 : decode cX12_init 492 = .ok (.putfield 193, 3) := by decide +kernel
theorem dX12_init_495 : decode cX12_init 495 = .ok (.aload_n 0, 1) := by decide +kernel
theorem dX12_init_496 : decode cX12_init 496 = .ok (.bipush 80, 2) := by decide +kernel
theorem dX12_init_498 : decode cX12_init 498 = .ok (.newarray .boolean, 2) := by decide +kernel
theorem dX12_init_500 : decode cX12_init 500 = .ok (.putfield 196, 3) := by decide +kernel
theorem dX12_init_503 : decode cX12_init 503 = .ok (.aload_n 0, 1) := by decide +kernel
theorem dX12_init_504 : decode cX12_init 504 = .ok (.bipush 16, 2) := by decide +kernel
theorem dX12_init_506 : decode cX12_init 506 = .ok (.newarray .int, 2) := by decide +kernel
theorem dX12_init_508 : decode cX12_init 508 = .ok (.putfield 199, 3) := by decide +kernel
theorem dX12_init_511 : decode cX12_init 511 = .ok (.aload_n 0, 1) := by decide +kernel
theorem dX12_init_512 : decode cX12_init 512 = .ok (.bipush 16, 2) := by decide +kernel
theorem dX12_init_514 : decode cX12_init 514 = .ok (.newarray .int, 2) := by decide +kernel
theorem dX12_init_516 : decode cX12_init 516 = .ok (.putfield 202, 3) := by decide +kernel
theorem dX12_init_519 : decode cX12_init 519 = .ok (.aload_n 0, 1) := by decide +kernel
theorem dX12_init_520 : decode cX12_init 520 = .ok (.bipush 16, 2) := by decide +kernel
theorem dX12_init_522 : decode cX12_init 522 = .ok (.newarray .int, 2) := by decide +kernel
theorem dX12_init_524 : decode cX12_init 524 = .ok (.putfield 205, 3) := by decide +kernel
theorem dX12_init_527 : decode cX12_init 527 = .ok (.aload_n 0, 1) := by decide +kernel
theorem dX12_init_528 : decode cX12_init 528 = .ok (.bipush 16, 2) := by decide +kernel
theorem dX12_init_530 : decode cX12_init 530 = .ok (.newarray .boolean, 2) := by decide +kernel
theorem dX12_init_532 : decode cX12_init 532 = .ok (.putfield 208, 3) := by decide +kernel
theorem dX12_init_535 : decode cX12_init 535 = .ok (.aload_n 0, 1) := by decide +kernel
theorem dX12_init_536 : decode cX12_init 536 = .ok (.bipush 16, 2) := by decide +kernel
theorem dX12_init_538 : decode cX12_init 538 = .ok (.newarray .long, 2) := by decide +kernel
theorem dX12_init_540 : decode cX12_init 540 = .ok (.putfield 211, 3) := by decide +kernel
theorem dX12_init_543 : decode cX12_init 543 = .ok (.aload_n 0, 1) := by decide +kernel
theorem dX12_init_544 : decode cX12_init 544 = .ok (.bipush 16, 2) := by decide +kernel
theorem dX12_init_546 : decode cX12_init 546 = .ok (.newarray .long, 2) := by decide +kernel
theorem dX12_init_548 : decode cX12_init 548 = .ok (.putfield 214, 3) := by decide +kernel
theorem dX12_init_551 : decode cX12_init 551 = .ok (.aload_n 0, 1) := by decide +kernel
theorem dX12_init_552 : decode cX12_init 552 = .ok (.bipush 16, 2) := by decide +kernel
theorem dX12_init_554 : decode cX12_init 554 = .ok (.newarray .int, 2) := by decide +kernel
theorem dX12_init_556 : decode cX12_init 556 = .ok (.putfield 217, 3) := by decide +kernel
theorem dX12_init_559 : decode cX12_init 559 = .ok (.aload_n 0, 1) := by decide +kernel
theorem dX12_init_560 : decode cX12_init 560 = .ok (.bipush 16, 2) := by decide +kernel
theorem dX12_init_562 : decode cX12_init 562 = .ok (.newarray .int, 2) := by decide +kernel
theorem dX12_init_564 : decode cX12_init 564 = .ok (.putfield 220, 3) := by decide +kernel
theorem dX12_init_567 : decode cX12_init 567 = .ok (.aload_n 0, 1) := by decide +kernel
theorem dX12_init_568 : decode cX12_init 568 = .ok (.bipush 16, 2) := by decide +kernel
theorem dX12_init_570 : decode cX12_init 570 = .ok (.newarray .long, 2) := by decide +kernel
theorem dX12_init_572 : decode cX12_init 572 = .ok (.putfield 223, 3) := by decide +kernel
theorem dX12_init_575 : decode cX12_init 575 = .ok (.aload_n 0, 1) := by decide +kernel
theorem dX12_init_576 : decode cX12_init 576 = .ok (.bipush 16, 2) := by decide +kernel
end
section
theorem dX12_init_578 : decode cX12_init 578 = .ok (.newarray .int, 2) := by decide +kernel
theorem dX12_init_580 : decode cX12_init 580 = .ok (.putfield 226, 3) := by decide +kernel
theorem dX12_init_583 : decode cX12_init 583 = .ok (.aload_n 0, 1) := by decide +kernel
theorem dX12_init_584 : decode cX12_init 584 = .ok (.bipush 16, 2) := by decide +kernel
theorem dX12_init_586 : decode cX12_init 586 = .ok (.newarray .long, 2) := by decide +kernel
theorem dX12_init_588 : decode cX12_init 588 = .ok (.putfield 229, 3) := by decide +kernel
theorem dX12_init_591 : decode cX12_init 591 = .ok (.aload_n 0, 1) := by decide +kernel
theorem dX12_init_592 : decode cX12_init 592 = .ok (.bipush 16, 2) := by decide +kernel
theorem dX12_init_594 : decode cX12_init 594 = .ok (.newarray .long, 2) := by decide +kernel
theorem dX12_init_596 : decode cX12_init 596 = .ok (.putfield 232, 3) := by decide +kernel
theorem dX12_init_599 : decode cX12_init 599 = .ok (.aload_n 0, 1) := by decide +kernel
theorem dX12_init_600 : decode cX12_init 600 = .ok (.bipush 16, 2) := by decide +kernel
theorem dX12_init_602 : decode cX12_init 602 = .ok (.newarray .boolean, 2) := by decide +kernel
theorem dX12_init_604 : decode cX12_init 604 = .ok (.putfield 235, 3) := by decide +kernel
theorem dX12_init_607 : decode cX12_init 607 = .ok (.aload_n 0, 1) := by decide +kernel
theorem dX12_init_608 : decode cX12_init 608 = .ok (.bipush 16, 2) := by decide +kernel
theorem dX12_init_610 : decode cX12_init 610 = .ok (.newarray .int, 2) := by decide +kernel
theorem dX12_init_612 : decode cX12_init 612 = .ok (.putfield 238, 3) := by decide +kernel
theorem dX12_init_615 : decode cX12_init 615 = .ok (.aload_n 0, 1) := by decide +kernel
theorem dX12_init_616 : decode cX12_init 616 = .ok (.ldc 241, 2) := by decide +kernel
theorem dX12_init_618 : decode cX12_init 618 = .ok (.newarray .byte, 2) := by decide +kernel
theorem dX12_init_620 : decode cX12_init 620 = .ok (.putfield 242, 3) := by decide +kernel
theorem dX12_init_623 : decode cX12_init 623 = .ok (.aload_n 0, 1) := by decide +kernel
theorem dX12_init_624 : decode cX12_init 624 = .ok (.ldc 245, 2) := by decide +kernel
theorem dX12_init_626 : decode cX12_init 626 = .ok (.newarray .byte, 2) := by decide +kernel
theorem dX12_init_628 : decode cX12_init 628 = .ok (.putfield 246, 3) := by decide +kernel
theorem dX12_init_631 : decode cX12_init 631 = .ok (.aload_n 0, 1) := by decide +kernel
theorem dX12_init_632 : decode cX12_init 632 = .ok (.sipush 130, 3) := by decide +kernel
theorem dX12_init_635 : decode cX12_init 635 = .ok (.newarray .int, 2) := by decide +kernel
theorem dX12_init_637 : decode cX12_init 637 = .ok (.putfield 249, 3) := by decide +kernel
theorem dX12_init_640 : decode cX12_init 640 = .ok (.aload_n 0, 1) := by decide +kernel
theorem dX12_init_641 : decode cX12_init 641 = .ok (.sipush 130, 3) := by decide +kernel
theorem dX12_init_644 : decode cX12_init 644 = .ok (.newarray .int, 2) := by decide +kernel
theorem dX12_init_646 : decode cX12_init 646 = .ok (.putfield 252, 3) := by decide +kernel
theorem dX12_init_649 : decode cX12_init 649 = .ok (.aload_n 0, 1) := by decide +kernel
theorem dX12_init_650 : decode cX12_init 650 = .ok (.sipush 130, 3) := by decide +kernel
theorem dX12_init_653 : decode cX12_init 653 = .ok (.newarray .int, 2) := by decide +kernel
theorem dX12_init_655 : decode cX12_init 655 = .ok (.putfield 255, 3) := by decide +kernel
theorem dX12_init_658 : decode cX12_init 658 = .ok (.iconst 0, 1) := by decide +kernel
theorem dX12_init_659 : decode cX12_init 659 = .ok (.istore_n 1, 1) := by decide +kernel
theorem dX12_init_660 : decode cX12_init 660 = .ok (.iload_n 1, 1) := by decide +kernel
theorem dX12_init_661 : decode cX12_init 661 = .ok (.iconst 4, 1) := by decide +kernel
theorem dX12_init_662 : decode cX12_init 662 = .ok (.if_icmp .ge 16, 3) := by decide +kernel
theorem dX12_init_665 : decode cX12_init 665 = .ok (.aload_n 0, 1) := by decide +kernel
theorem dX12_init_666 : decode cX12_init 666 = .ok (.getfield 47, 3) := by decide +kernel
theorem dX12_init_669 : decode cX12_init 669 = .ok (.iload_n 1, 1) := by decide +kernel
theorem dX12_init_670 : decode cX12_init 670 = .ok (.iconst (-1), 1) := by decide +kernel
theorem dX12_init_671 : decode cX12_init 671 = .ok (.iastore, 1) := by decide +kernel
theorem dX12_init_672 : decode cX12_init 672 = .ok (.iinc 1 1, 3) := by decide +kernel
theorem dX12_init_675 : decode cX12_init 675 = .ok (.goto (-15), 3) := by decide +kernel
theorem dX12_init_678 : decode cX12_init 678 = .ok (.aload_n 0, 1) := by decide +kernel
theorem dX12_init_679 : decode cX12_init 679 = .ok (.invokevirtual 258, 3) := by decide +kernel
theorem dX12_init_682 : decode cX12_init 682 = .ok (.return_, 1) := by decide +kernel
theorem dX12_begin_0 : decode cX12_begin 0 = .ok (.iconst 0, 1) := by decide +kernel
theorem dX12_begin_1 : decode cX12_begin 1 = .ok (.istore_n 1, 1) := by decide +kernel
theorem dX12_begin_2 : decode cX12_begin 2 = .ok (.iload_n 1, 1) := by decide +kernel
theorem dX12_begin_3 : decode cX12_begin 3 = .ok (.bipush 6, 2) := by decide +kernel
theorem dX12_begin_5 : decode cX12_begin 5 = .ok (.if_icmp .ge 23, 3) := by decide +kernel
theorem dX12_begin_8 : decode cX12_begin 8 = .ok (.aload_n 0, 1) := by decide +kernel
theorem dX12_begin_9 : decode cX12_begin 9 = .ok (.getfield 89, 3) := by decide +kernel
theorem dX12_begin_12 : decode cX12_begin 12 = .ok (.iload_n 1, 1) := by decide +kernel
theorem dX12_begin_13 : decode cX12_begin 13 = .ok (.iconst 0, 1) := by decide +kernel
theorem dX12_begin_14 : decode cX12_begin 14 = .ok (.bastore, 1) := by decide +kernel
theorem dX12_begin_15 : decode cX12_begin 15 = .ok (.aload_n 0, 1) := by decide +kernel
theorem dX12_begin_16 : decode cX12_begin 16 = .ok (.getfield 99, 3) := by decide +kernel
theorem dX12_begin_19 : decode cX12_begin 19 = .ok (.iload_n 1, 1) := by decide +kernel
theorem dX12_begin_20 : decode cX12_begin 20 = .ok (.iconst 0, 1) := by decide +kernel
theorem dX12_begin_21 : decode cX12_begin 21 = .ok (.iastore, 1) := by decide +kernel
theorem dX12_begin_22 : decode cX12_begin 22 = .ok (.iinc 1 1, 3) := by decide +kernel
theorem dX12_begin_25 : decode cX12_begin 25 = .ok (.goto (-23), 3) := by decide +kernel
theorem dX12_begin_28 : decode cX12_begin 28 = .ok (.iconst 0, 1) := by decide +kernel
theorem dX12_begin_29 : decode cX12_begin 29 = .ok (.istore_n 1, 1) := by decide +kernel
theorem dX12_begin_30 : decode cX12_begin 30 = .ok (.iload_n 1, 1) := by decide +kernel
theorem dX12_begin_31 : decode cX12_begin 31 = .ok (.bipush 8, 2) := by decide +kernel
theorem dX12_begin_33 : decode cX12_begin 33 = .ok (.if_icmp .ge 16, 3) := by decide +kernel
theorem dX12_begin_36 : decode cX12_begin 36 = .ok (.aload_n 0, 1) := by decide +kernel
theorem dX12_begin_37 : decode cX12_begin 37 = .ok (.getfield 118, 3) := by decide +kernel
theorem dX12_begin_40 : decode cX12_begin 40 = .ok (.iload_n 1, 1) := by decide +kernel
theorem dX12_begin_41 : decode cX12_begin 41 = .ok (.lconst 0, 1) := by decide +kernel
theorem dX12_begin_42 : decode cX12_begin 42 = .ok (.lastore, 1) := by decide +kernel
theorem dX12_begin_43 : decode cX12_begin 43 = .ok (.iinc 1 1, 3) := by decide +kernel
theorem dX12_begin_46 : decode cX12_begin 46 = .ok (.goto (-16), 3) := by decide +kernel
theorem dX12_begin_49 : decode cX12_begin 49 = .ok (.iconst 0, 1) := by decide +kernel
theorem dX12_begin_50 : decode cX12_begin 50 = .ok (.istore_n 1, 1) := by decide +kernel
theorem dX12_begin_51 : decode cX12_begin 51 = .ok (.iload_n 1, 1) := by decide +kernel
theorem dX12_begin_52 : decode cX12_begin 52 = .ok (.bipush 16, 2) := by decide +kernel
theorem dX12_begin_54 : decode cX12_begin 54 = .ok (.if_icmp .ge 16, 3) := by decide +kernel
theorem dX12_begin_57 : decode cX12_begin 57 = .ok (.aload_n 0, 1) := by decide +kernel
theorem dX12_begin_58 : decode cX12_begin 58 = .ok (.getfield 130, 3) := by decide +kernel
theorem dX12_begin_61 : decode cX12_begin 61 = .ok (.iload_n 1, 1) := by decide +kernel
theorem dX12_begin_62 : decode cX12_begin 62 = .ok (.lconst 0, 1) := by decide +kernel
theorem dX12_begin_63 : decode cX12_begin 63 = .ok (.lastore, 1) := by decide +kernel
theorem dX12_begin_64 : decode cX12_begin 64 = .ok (.iinc 1 1, 3) := by decide +kernel
theorem dX12_begin_67 : decode cX12_begin 67 = .ok (.goto (-16), 3) := by decide +kernel
theorem dX12_begin_70 : decode cX12_begin 70 = .ok (.iconst 0, 1) := by decide +kernel
theorem dX12_begin_71 : decode cX12_begin 71 = .ok (.istore_n 1, 1) := by decide +kernel
theorem dX12_begin_72 : decode cX12_begin 72 = .ok (.iload_n 1, 1) := by decide +kernel
theorem dX12_begin_73 : decode cX12_begin 73 = .ok (.bipush 40, 2) := by decide +kernel
theorem dX12_begin_75 : decode cX12_begin 75 = .ok (.if_icmp .ge 16, 3) := by decide +kernel
theorem dX12_begin_78 : decode cX12_begin 78 = .ok (.aload_n 0, 1) := by decide +kernel
theorem dX12_begin_79 : decode cX12_begin 79 = .ok (.getfield 139, 3) := by decide +kernel
theorem dX12_begin_82 : decode cX12_begin 82 = .ok (.iload_n 1, 1) := by decide +kernel
theorem dX12_begin_83 : decode cX12_begin 83 = .ok (.lconst 0, 1) := by decide +kernel
theorem dX12_begin_84 : decode cX12_begin 84 = .ok (.lastore, 1) := by decide +kernel
theorem dX12_begin_85 : decode cX12_begin 85 = .ok (.iinc 1 1, 3) := by decide +kernel
theorem dX12_begin_88 : decode cX12_begin 88 = .ok (.goto (-16), 3) := by decide +kernel
theorem dX12_begin_91 : decode cX12_begin 91 = .ok (.aload_n 0, 1) := by decide +kernel
theorem dX12_begin_92 : decode cX12_begin 92 = .ok (.iconst 0, 1) := by decide +kernel
theorem dX12_begin_93 : decode cX12_begin 93 = .ok (.putfield 289, 3) := by decide +kernel
theorem dX12_begin_96 : decode cX12_begin 96 = .ok (.aload_n 0, 1) := by decide +kernel
theorem dX12_begin_97 : decode cX12_begin 97 = .ok (.iconst 0, 1) := by decide +kernel
theorem dX12_begin_98 : decode cX12_begin 98 = .ok (.putfield 292, 3) := by decide +kernel
theorem dX12_begin_101 : decode cX12_begin 101 = .ok (.aload_n 0, 1) := by decide +kernel
theorem dX12_begin_102 : decode cX12_begin 102 = .ok (.iconst 0, 1) := by decide +kernel
theorem dX12_begin_103 : decode cX12_begin 103 = .ok (.putfield 271, 3) := by decide +kernel
theorem dX12_begin_106 : decode cX12_begin 106 = .ok (.aload_n 0, 1) := by decide +kernel
theorem dX12_begin_107 : decode cX12_begin 107 = .ok (.lconst 0, 1) := by decide +kernel
theorem dX12_begin_108 : decode cX12_begin 108 = .ok (.putfield 295, 3) := by decide +kernel
theorem dX12_begin_111 : decode cX12_begin 111 = .ok (.aload_n 0, 1) := by decide +kernel
theorem dX12_begin_112 : decode cX12_begin 112 = .ok (.lconst 0, 1) := by decide +kernel
theorem dX12_begin_113 : decode cX12_begin 113 = .ok (.putfield 299, 3) := by decide +kernel
theorem dX12_begin_116 : decode cX12_begin 116 = .ok (.aload_n 0, 1) := by decide +kernel
theorem dX12_begin_117 : decode cX12_begin 117 = .ok (.lconst 0, 1) := by decide +kernel
theorem dX12_begin_118 : decode cX12_begin 118 = .ok (.putfield 302, 3) := by decide +kernel
theorem dX12_begin_121 : decode cX12_begin 121 = .ok (.aload_n 0, 1) := by decide +kernel
theorem dX12_begin_122 : decode cX12_begin 122 = .ok (.lconst 0, 1) := by decide +kernel
theorem dX12_begin_123 : decode cX12_begin 123 = .ok (.putfield 305, 3) := by decide +kernel
theorem dX12_begin_126 : decode cX12_begin 126 = .ok (.iconst 0, 1) := by decide +kernel
theorem dX12_begin_127 : decode cX12_begin 127 = .ok (.istore_n 1, 1) := by decide +kernel
theorem dX12_begin_128 : decode cX12_begin 128 = .ok (.iload_n 1, 1) := by decide +kernel
theorem dX12_begin_129 : decode cX12_begin 129 = .ok (.bipush 80, 2) := by decide +kernel
theorem dX12_begin_131 : decode cX12_begin 131 = .ok (.if_icmp .ge 25, 3) := by decide +kernel
theorem dX12_begin_134 : decode cX12_begin 134 = .ok (.aload_n 0, 1) := by decide +kernel
theorem dX12_begin_135 : decode cX12_begin 135 = .ok (.bipush 80, 2) := by decide +kernel
theorem dX12_begin_137 : decode cX12_begin 137 = .ok (.iload_n 1, 1) := by decide +kernel
theorem dX12_begin_138 : decode cX12_begin 138 = .ok (.iadd, 1) := by decide +kernel
theorem dX12_begin_139 : decode cX12_begin 139 = .ok (.iload_n 1, 1) := by decide +kernel
theorem dX12_begin_140 : decode cX12_begin 140 = .ok (.invokevirtual 308, 3) := by decide +kernel
theorem dX12_begin_143 : decode cX12_begin 143 = .ok (.aload_n 0, 1) := by decide +kernel
theorem dX12_begin_144 : decode cX12_begin 144 = .ok (.getfield 44, 3) := by decide +kernel
theorem dX12_begin_147 : decode cX12_begin 147 = .ok (.iload_n 1, 1) := by decide +kernel
theorem dX12_begin_148 : decode cX12_begin 148 = .ok (.iconst 0, 1) := by decide +kernel
theorem dX12_begin_149 : decode cX12_begin 149 = .ok (.bastore, 1) := by decide +kernel
theorem dX12_begin_150 : decode cX12_begin 150 = .ok (.iinc 1 1, 3) := by decide +kernel
theorem dX12_begin_153 : decode cX12_begin 153 = .ok (.goto (-25), 3) := by decide +kernel
theorem dX12_begin_156 : decode cX12_begin 156 = .ok (.return_, 1) := by decide +kernel
theorem dX12_copyNode_0 : decode cX12_copyNode 0 = .ok (.aload_n 0, 1) := by decide +kernel
theorem dX12_copyNode_1 : decode cX12_copyNode 1 = .ok (.getfield 13, 3) := by decide +kernel
theorem dX12_copyNode_4 : decode cX12_copyNode 4 = .ok (.iload_n 2, 1) := by decide +kernel
theorem dX12_copyNode_5 : decode cX12_copyNode 5 = .ok (.aload_n 0, 1) := by decide +kernel
theorem dX12_copyNode_6 : decode cX12_copyNode 6 = .ok (.getfield 13, 3) := by decide +kernel
theorem dX12_copyNode_9 : decode cX12_copyNode 9 = .ok (.iload_n 1, 1) := by decide +kernel
theorem dX12_copyNode_10 : decode cX12_copyNode 10 = .ok (.baload, 1) := by decide +kernel
theorem dX12_copyNode_11 : decode cX12_copyNode 11 = .ok (.bastore, 1) := by decide +kernel
theorem dX12_copyNode_12 : decode cX12_copyNode 12 = .ok (.aload_n 0, 1) := by decide +kernel
theorem dX12_copyNode_13 : decode cX12_copyNode 13 = .ok (.getfield 17, 3) := by decide +kernel
theorem dX12_copyNode_16 : decode cX12_copyNode 16 = .ok (.iload_n 2, 1) := by decide +kernel
theorem dX12_copyNode_17 : decode cX12_copyNode 17 = .ok (.aload_n 0, 1) := by decide +kernel
theorem dX12_copyNode_18 : decode cX12_copyNode 18 = .ok (.getfield 17, 3) := by decide +kernel
theorem dX12_copyNode_21 : decode cX12_copyNode 21 = .ok (.iload_n 1, 1) := by decide +kernel
theorem dX12_copyNode_22 : decode cX12_copyNode 22 = .ok (.iaload, 1) := by decide +kernel
theorem dX12_copyNode_23 : decode cX12_copyNode 23 = .ok (.iastore, 1) := by decide +kernel
theorem dX12_copyNode_24 : decode cX12_copyNode 24 = .ok (.aload_n 0, 1) := by decide +kernel
theorem dX12_copyNode_25 : decode cX12_copyNode 25 = .ok (.getfield 21, 3) := by decide +kernel
theorem dX12_copyNode_28 : decode cX12_copyNode 28 = .ok (.iload_n 2, 1) := by decide +kernel
theorem dX12_copyNode_29 : decode cX12_copyNode 29 = .ok (.aload_n 0, 1) := by decide +kernel
theorem dX12_copyNode_30 : decode cX12_copyNode 30 = .ok (.getfield 21, 3) := by decide +kernel
theorem dX12_copyNode_33 : decode cX12_copyNode 33 = .ok (.iload_n 1, 1) := by decide +kernel
theorem dX12_copyNode_34 : decode cX12_copyNode 34 = .ok (.baload, 1) := by decide +kernel
theorem dX12_copyNode_35 : decode cX12_copyNode 35 = .ok (.bastore, 1) := by decide +kernel
theorem dX12_copyNode_36 : decode cX12_copyNode 36 = .ok (.aload_n 0, 1) := by decide +kernel
theorem dX12_copyNode_37 : decode cX12_copyNode 37 = .ok (.getfield 27, 3) := by decide +kernel
theorem dX12_copyNode_40 : decode cX12_copyNode 40 = .ok (.iload_n 2, 1) := by decide +kernel
theorem dX12_copyNode_41 : decode cX12_copyNode 41 = .ok (.aload_n 0, 1) := by decide +kernel
theorem dX12_copyNode_42 : decode cX12_copyNode 42 = .ok (.getfield 27, 3) := by decide +kernel
theorem dX12_copyNode_45 : decode cX12_copyNode 45 = .ok (.iload_n 1, 1) := by decide +kernel
theorem dX12_copyNode_46 : decode cX12_copyNode 46 = .ok (.iaload, 1) := by decide +kernel
theorem dX12_copyNode_47 : decode cX12_copyNode 47 = .ok (.iastore, 1) := by decide +kernel
theorem dX12_copyNode_48 : decode cX12_copyNode 48 = .ok (.aload_n 0, 1) := by decide +kernel
theorem dX12_copyNode_49 : decode cX12_copyNode 49 = .ok (.getfield 30, 3) := by decide +kernel
theorem dX12_copyNode_52 : decode cX12_copyNode 52 = .ok (.iload_n 2, 1) := by decide +kernel
theorem dX12_copyNode_53 : decode cX12_copyNode 53 = .ok (.aload_n 0, 1) := by decide +kernel
theorem dX12_copyNode_54 : decode cX12_copyNode 54 = .ok (.getfield 30, 3) := by decide +kernel
theorem dX12_copyNode_57 : decode cX12_copyNode 57 = .ok (.iload_n 1, 1) := by decide +kernel
theorem dX12_copyNode_58 : decode cX12_copyNode 58 = .ok (.iaload, 1) := by decide +kernel
theorem dX12_copyNode_59 : decode cX12_copyNode 59 = .ok (.iastore, 1) := by decide +kernel
theorem dX12_copyNode_60 : decode cX12_copyNode 60 = .ok (.aload_n 0, 1) := by decide +kernel
theorem dX12_copyNode_61 : decode cX12_copyNode 61 = .ok (.getfield 37, 3) := by decide +kernel
theorem dX12_copyNode_64 : decode cX12_copyNode 64 = .ok (.iload_n 2, 1) := by decide +kernel
theorem dX12_copyNode_65 : decode cX12_copyNode 65 = .ok (.aload_n 0, 1) := by decide +kernel
theorem dX12_copyNode_66 : decode cX12_copyNode 66 = .ok (.getfield 37, 3) := by decide +kernel
theorem dX12_copyNode_69 : decode cX12_copyNode 69 = .ok (.iload_n 1, 1) := by decide +kernel
theorem dX12_copyNode_70 : decode cX12_copyNode 70 = .ok (.iaload, 1) := by decide +kernel
theorem dX12_copyNode_71 : decode cX12_copyNode 71 = .ok (.iastore, 1) := by decide +kernel
theorem dX12_copyNode_72 : decode cX12_copyNode 72 = .ok (.iconst 0, 1) := by decide +kernel
theorem dX12_copyNode_73 : decode cX12_copyNode 73 = .ok (.istore_n 3, 1) := by decide +kernel
theorem dX12_copyNode_74 : decode cX12_copyNode 74 = .ok (.iload_n 3, 1) := by decide +kernel
theorem dX12_copyNode_75 : decode cX12_copyNode 75 = .ok (.bipush 12, 2) := by decide +kernel
theorem dX12_copyNode_77 : decode cX12_copyNode 77 = .ok (.if_icmp .ge 31, 3) := by decide +kernel
theorem dX12_copyNode_80 : decode cX12_copyNode 80 = .ok (.aload_n 0, 1) := by decide +kernel
theorem dX12_copyNode_81 : decode cX12_copyNode 81 = .ok (.getfield 24, 3) := by decide +kernel
theorem dX12_copyNode_84 : decode cX12_copyNode 84 = .ok (.bipush 12, 2) := by decide +kernel
theorem dX12_copyNode_86 : decode cX12_copyNode 86 = .ok (.iload_n 2, 1) := by decide +kernel
theorem dX12_copyNode_87 : decode cX12_copyNode 87 = .ok (.imul, 1) := by decide +kernel
theorem dX12_copyNode_88 : decode cX12_copyNode 88 = .ok (.iload_n 3, 1) := by decide +kernel
theorem dX12_copyNode_89 : decode cX12_copyNode 89 = .ok (.iadd, 1) := by decide +kernel
theorem dX12_copyNode_90 : decode cX12_copyNode 90 = .ok (.aload_n 0, 1) := by decide +kernel
theorem dX12_copyNode_91 : decode cX12_copyNode 91 = .ok (.getfield 24, 3) := by decide +kernel
theorem dX12_copyNode_94 : decode cX12_copyNode 94 = .ok (.bipush 12, 2) := by decide +kernel
theorem dX12_copyNode_96 : decode cX12_copyNode 96 = .ok (.iload_n 1, 1) := by decide +kernel
theorem dX12_copyNode_97 : decode cX12_copyNode 97 = .ok (.imul, 1) := by decide +kernel
theorem dX12_copyNode_98 : decode cX12_copyNode 98 = .ok (.iload_n 3, 1) := by decide +kernel
theorem dX12_copyNode_99 : decode cX12_copyNode 99 = .ok (.iadd, 1) := by decide +kernel
theorem dX12_copyNode_100 : decode cX12_copyNode 100 = .ok (.baload, 1) := by decide +kernel
theorem dX12_copyNode_101 : decode cX12_copyNode 101 = .ok (.bastore, 1) := by decide +kernel
theorem dX12_copyNode_102 : decode cX12_copyNode 102 = .ok (.iinc 3 1, 3) := by decide +kernel
theorem dX12_copyNode_105 : decode cX12_copyNode 105 = .ok (.goto (-31), 3) := by decide +kernel
theorem dX12_copyNode_108 : decode cX12_copyNode 108 = .ok (.iconst 0, 1) := by decide +kernel
theorem dX12_copyNode_109 : decode cX12_copyNode 109 = .ok (.istore_n 3, 1) := by decide +kernel
theorem dX12_copyNode_110 : decode cX12_copyNode 110 = .ok (.iload_n 3, 1) := by decide +kernel
theorem dX12_copyNode_111 : decode cX12_copyNode 111 = .ok (.iconst 4, 1) := by decide +kernel
theorem dX12_copyNode_112 : decode cX12_copyNode 112 = .ok (.if_icmp .ge 29, 3) := by decide +kernel
theorem dX12_copyNode_115 : decode cX12_copyNode 115 = .ok (.aload_n 0, 1) := by decide +kernel
theorem dX12_copyNode_116 : decode cX12_copyNode 116 = .ok (.getfield 33, 3) := by decide +kernel
theorem dX12_copyNode_119 : decode cX12_copyNode 119 = .ok (.iconst 4, 1) := by decide +kernel
theorem dX12_copyNode_120 : decode cX12_copyNode 120 = .ok (.iload_n 2, 1) := by decide +kernel
theorem dX12_copyNode_121 : decode cX12_copyNode 121 = .ok (.imul, 1) := by decide +kernel
theorem dX12_copyNode_122 : decode cX12_copyNode 122 = .ok (.iload_n 3, 1) := by decide +kernel
theorem dX12_copyNode_123 : decode cX12_copyNode 123 = .ok (.iadd, 1) := by decide +kernel
theorem dX12_copyNode_124 : decode cX12_copyNode 124 = .ok (.aload_n 0, 1) := by decide +kernel
theorem dX12_copyNode_125 : decode cX12_copyNode 125 = .ok (.getfield 33, 3) := by decide +kernel
theorem dX12_copyNode_128 : decode cX12_copyNode 128 = .ok (.iconst 4, 1) := by decide +kernel
theorem dX12_copyNode_129 : decode cX12_copyNode 129 = .ok (.iload_n 1, 1) := by decide +kernel
theorem dX12_copyNode_130 : decode cX12_copyNode 130 = .ok (.imul, 1) := by decide +kernel
theorem dX12_copyNode_131 : decode cX12_copyNode 131 = .ok (.iload_n 3, 1) := by decide +kernel
theorem dX12_copyNode_132 : decode cX12_copyNode 132 = .ok (.iadd, 1) := by decide +kernel
theorem dX12_copyNode_133 : decode cX12_copyNode 133 = .ok (.laload, 1) := by decide +kernel
theorem dX12_copyNode_134 : decode cX12_copyNode 134 = .ok (.lastore, 1) := by decide +kernel
theorem dX12_copyNode_135 : decode cX12_copyNode 135 = .ok (.iinc 3 1, 3) := by decide +kernel
theorem dX12_copyNode_138 : decode cX12_copyNode 138 = .ok (.goto (-28), 3) := by decide +kernel
theorem dX12_copyNode_141 : decode cX12_copyNode 141 = .ok (.iconst 0, 1) := by decide +kernel
theorem dX12_copyNode_142 : decode cX12_copyNode 142 = .ok (.istore_n 3, 1) := by decide +kernel
theorem dX12_copyNode_143 : decode cX12_copyNode 143 = .ok (.iload_n 3, 1) := by decide +kernel
theorem dX12_copyNode_144 : decode cX12_copyNode 144 = .ok (.sipush 4096, 3) := by decide +kernel
theorem dX12_copyNode_147 : decode cX12_copyNode 147 = .ok (.if_icmp .ge 33, 3) := by decide +kernel
theorem dX12_copyNode_150 : decode cX12_copyNode 150 = .ok (.aload_n 0, 1) := by decide +kernel
theorem dX12_copyNode_151 : decode cX12_copyNode 151 = .ok (.getfield 41, 3) := by decide +kernel
theorem dX12_copyNode_154 : decode cX12_copyNode 154 = .ok (.sipush 4096, 3) := by decide +kernel
theorem dX12_copyNode_157 : decode cX12_copyNode 157 = .ok (.iload_n 2, 1) := by decide +kernel
theorem dX12_copyNode_158 : decode cX12_copyNode 158 = .ok (.imul, 1) := by decide +kernel
theorem dX12_copyNode_159 : decode cX12_copyNode 159 = .ok (.iload_n 3, 1) := by decide +kernel
theorem dX12_copyNode_160 : decode cX12_copyNode 160 = .ok (.iadd, 1) := by decide +kernel
theorem dX12_copyNode_161 : decode cX12_copyNode 161 = .ok (.aload_n 0, 1) := by decide +kernel
theorem dX12_copyNode_162 : decode cX12_copyNode 162 = .ok (.getfield 41, 3) := by decide +kernel
theorem dX12_copyNode_165 : decode cX12_copyNode 165 = .ok (.sipush 4096, 3) := by decide +kernel
theorem dX12_copyNode_168 : decode cX12_copyNode 168 = .ok (.iload_n 1, 1) := by decide +kernel
theorem dX12_copyNode_169 : decode cX12_copyNode 169 = .ok (.imul, 1) := by decide +kernel
theorem dX12_copyNode_170 : decode cX12_copyNode 170 = .ok (.iload_n 3, 1) := by decide +kernel
theorem dX12_copyNode_171 : decode cX12_copyNode 171 = .ok (.iadd, 1) := by decide +kernel
theorem dX12_copyNode_172 : decode cX12_copyNode 172 = .ok (.baload, 1) := by decide +kernel
theorem dX12_copyNode_173 : decode cX12_copyNode 173 = .ok (.bastore, 1) := by decide +kernel
theorem dX12_copyNode_174 : decode cX12_copyNode 174 = .ok (.iinc 3 1, 3) := by decide +kernel
theorem dX12_copyNode_177 : decode cX12_copyNode 177 = .ok (.goto (-34), 3) := by decide +kernel
theorem dX12_copyNode_180 : decode cX12_copyNode 180 = .ok (.return_, 1) := by decide +kernel
theorem dX12_feed_0 : decode cX12_feed 0 = .ok (.aload_n 0, 1) := by decide +kernel
theorem dX12_feed_1 : decode cX12_feed 1 = .ok (.getfield 261, 3) := by decide +kernel
theorem dX12_feed_4 : decode cX12_feed 4 = .ok (.bipush 20, 2) := by decide +kernel
theorem dX12_feed_6 : decode cX12_feed 6 = .ok (.iadd, 1) := by decide +kernel
theorem dX12_feed_7 : decode cX12_feed 7 = .ok (.sipush 8000, 3) := by decide +kernel
theorem dX12_feed_10 : decode cX12_feed 10 = .ok (.if_icmp .le 5, 3) := by decide +kernel
theorem dX12_feed_13 : decode cX12_feed 13 = .ok (.iconst (-1), 1) := by decide +kernel
theorem dX12_feed_14 : decode cX12_feed 14 = .ok (.ireturn, 1) := by decide +kernel
theorem dX12_feed_15 : decode cX12_feed 15 = .ok (.aload_n 0, 1) := by decide +kernel
theorem dX12_feed_16 : decode cX12_feed 16 = .ok (.iload_n 1, 1) := by decide +kernel
theorem dX12_feed_17 : decode cX12_feed 17 = .ok (.invokevirtual 265, 3) := by decide +kernel
theorem dX12_feed_20 : decode cX12_feed 20 = .ok (.aload_n 0, 1) := by decide +kernel
theorem dX12_feed_21 : decode cX12_feed 21 = .ok (.iload_n 2, 1) := by decide +kernel
theorem dX12_feed_22 : decode cX12_feed 22 = .ok (.invokevirtual 265, 3) := by decide +kernel
theorem dX12_feed_25 : decode cX12_feed 25 = .ok (.aload_n 0, 1) := by decide +kernel
theorem dX12_feed_26 : decode cX12_feed 26 = .ok (.iload_n 3, 1) := by decide +kernel
theorem dX12_feed_27 : decode cX12_feed 27 = .ok (.invokevirtual 265, 3) := by decide +kernel
theorem dX12_feed_30 : decode cX12_feed 30 = .ok (.aload_n 0, 1) := by decide +kernel
theorem dX12_feed_31 : decode cX12_feed 31 = .ok (.iload 4, 2) := by decide +kernel
theorem dX12_feed_33 : decode cX12_feed 33 = .ok (.invokevirtual 265, 3) := by decide +kernel
theorem dX12_feed_36 : decode cX12_feed 36 = .ok (.aload_n 0, 1) := by decide +kernel
theorem dX12_feed_37 : decode cX12_feed 37 = .ok (.iload 5, 2) := by decide +kernel
theorem dX12_feed_39 : decode cX12_feed 39 = .ok (.invokevirtual 265, 3) := by decide +kernel
theorem dX12_feed_42 : decode cX12_feed 42 = .ok (.aload_n 0, 1) := by decide +kernel
theorem dX12_feed_43 : decode cX12_feed 43 = .ok (.getfield 261, 3) := by decide +kernel
theorem dX12_feed_46 : decode cX12_feed 46 = .ok (.ireturn, 1) := by decide +kernel
theorem dX12_lay_0 : decode cX12_lay 0 = .ok (.bipush 24, 2) := by decide +kernel
theorem dX12_lay_2 : decode cX12_lay 2 = .ok (.istore_n 2, 1) := by decide +kernel
theorem dX12_lay_3 : decode cX12_lay 3 = .ok (.iload_n 2, 1) := by decide +kernel
theorem dX12_lay_4 : decode cX12_lay 4 = .ok (.ifCond .lt 32, 3) := by decide +kernel
theorem dX12_lay_7 : decode cX12_lay 7 = .ok (.aload_n 0, 1) := by decide +kernel
theorem dX12_lay_8 : decode cX12_lay 8 = .ok (.getfield 7, 3) := by decide +kernel
theorem dX12_lay_11 : decode cX12_lay 11 = .ok (.aload_n 0, 1) := by decide +kernel
theorem dX12_lay_12 : decode cX12_lay 12 = .ok (.getfield 261, 3) := by decide +kernel
theorem dX12_lay_15 : decode cX12_lay 15 = .ok (.iload_n 1, 1) := by decide +kernel
theorem dX12_lay_16 : decode cX12_lay 16 = .ok (.iload_n 2, 1) := by decide +kernel
theorem dX12_lay_17 : decode cX12_lay 17 = .ok (.ishr, 1) := by decide +kernel
theorem dX12_lay_18 : decode cX12_lay 18 = .ok (.i2b, 1) := by decide +kernel
theorem dX12_lay_19 : decode cX12_lay 19 = .ok (.bastore, 1) := by decide +kernel
theorem dX12_lay_20 : decode cX12_lay 20 = .ok (.aload_n 0, 1) := by decide +kernel
theorem dX12_lay_21 : decode cX12_lay 21 = .ok (.dup, 1) := by decide +kernel
theorem dX12_lay_22 : decode cX12_lay 22 = .ok (.getfield 261, 3) := by decide +kernel
theorem dX12_lay_25 : decode cX12_lay 25 = .ok (.iconst 1, 1) := by decide +kernel
theorem dX12_lay_26 : decode cX12_lay 26 = .ok (.iadd, 1) := by decide +kernel
theorem dX12_lay_27 : decode cX12_lay 27 = .ok (.putfield 261, 3) := by decide +kernel
theorem dX12_lay_30 : decode cX12_lay 30 = .ok (.iinc 2 (-8), 3) := by decide +kernel
theorem dX12_lay_33 : decode cX12_lay 33 = .ok (.goto (-30), 3) := by decide +kernel
theorem dX12_lay_36 : decode cX12_lay 36 = .ok (.return_, 1) := by decide +kernel
theorem dX12_cut_0 : decode cX12_cut 0 = .ok (.iload_n 1, 1) := by decide +kernel
theorem dX12_cut_1 : decode cX12_cut 1 = .ok (.ifCond .lt 11, 3) := by decide +kernel
theorem dX12_cut_4 : decode cX12_cut 4 = .ok (.iload_n 1, 1) := by decide +kernel
theorem dX12_cut_5 : decode cX12_cut 5 = .ok (.aload_n 0, 1) := by decide +kernel
theorem dX12_cut_6 : decode cX12_cut 6 = .ok (.getfield 261, 3) := by decide +kernel
theorem dX12_cut_9 : decode cX12_cut 9 = .ok (.if_icmp .le 5, 3) := by decide +kernel
theorem dX12_cut_12 : decode cX12_cut 12 = .ok (.iconst (-1), 1) := by decide +kernel
theorem dX12_cut_13 : decode cX12_cut 13 = .ok (.ireturn, 1) := by decide +kernel
theorem dX12_cut_14 : decode cX12_cut 14 = .ok (.aload_n 0, 1) := by decide +kernel
theorem dX12_cut_15 : decode cX12_cut 15 = .ok (.getfield 261, 3) := by decide +kernel
theorem dX12_cut_18 : decode cX12_cut 18 = .ok (.iload_n 1, 1) := by decide +kernel
theorem dX12_cut_19 : decode cX12_cut 19 = .ok (.isub, 1) := by decide +kernel
theorem dX12_cut_20 : decode cX12_cut 20 = .ok (.istore_n 2, 1) := by decide +kernel
theorem dX12_cut_21 : decode cX12_cut 21 = .ok (.aload_n 0, 1) := by decide +kernel
theorem dX12_cut_22 : decode cX12_cut 22 = .ok (.iload_n 1, 1) := by decide +kernel
theorem dX12_cut_23 : decode cX12_cut 23 = .ok (.putfield 261, 3) := by decide +kernel
theorem dX12_cut_26 : decode cX12_cut 26 = .ok (.iload_n 2, 1) := by decide +kernel
theorem dX12_cut_27 : decode cX12_cut 27 = .ok (.ireturn, 1) := by decide +kernel
theorem dX12_share_0 : decode cX12_share 0 = .ok (.aload_n 0, 1) := by decide +kernel
theorem dX12_share_1 : decode cX12_share 1 = .ok (.getfield 261, 3) := by decide +kernel
theorem dX12_share_4 : decode cX12_share 4 = .ok (.istore_n 2, 1) := by decide +kernel
theorem dX12_share_5 : decode cX12_share 5 = .ok (.aload_n 0, 1) := by decide +kernel
theorem dX12_share_6 : decode cX12_share 6 = .ok (.iconst 0, 1) := by decide +kernel
theorem dX12_share_7 : decode cX12_share 7 = .ok (.putfield 261, 3) := by decide +kernel
theorem dX12_share_10 : decode cX12_share 10 = .ok (.iload_n 1, 1) := by decide +kernel
theorem dX12_share_11 : decode cX12_share 11 = .ok (.ifCond .lt 28, 3) := by decide +kernel
theorem dX12_share_14 : decode cX12_share 14 = .ok (.iload_n 1, 1) := by decide +kernel
theorem dX12_share_15 : decode cX12_share 15 = .ok (.iconst 3, 1) := by decide +kernel
theorem dX12_share_16 : decode cX12_share 16 = .ok (.if_icmp .gt 23, 3) := by decide +kernel
theorem dX12_share_19 : decode cX12_share 19 = .ok (.aload_n 0, 1) := by decide +kernel
theorem dX12_share_20 : decode cX12_share 20 = .ok (.getfield 47, 3) := by decide +kernel
theorem dX12_share_23 : decode cX12_share 23 = .ok (.iload_n 1, 1) := by decide +kernel
theorem dX12_share_24 : decode cX12_share 24 = .ok (.iaload, 1) := by decide +kernel
theorem dX12_share_25 : decode cX12_share 25 = .ok (.ifCond .ge 14, 3) := by decide +kernel
theorem dX12_share_28 : decode cX12_share 28 = .ok (.iload_n 2, 1) := by decide +kernel
theorem dX12_share_29 : decode cX12_share 29 = .ok (.iconst 1, 1) := by decide +kernel
theorem dX12_share_30 : decode cX12_share 30 = .ok (.if_icmp .lt 9, 3) := by decide +kernel
theorem dX12_share_33 : decode cX12_share 33 = .ok (.iload_n 2, 1) := by decide +kernel
end
section
theorem dX12_share_34 : decode cX12_share 34 = .ok (.bipush 12, 2) := by decide +kernel
theorem dX12_share_36 : decode cX12_share 36 = .ok (.if_icmp .le 5, 3) := by decide +kernel
theorem dX12_share_39 : decode cX12_share 39 = .ok (.iconst 0, 1) := by decide +kernel
theorem dX12_share_40 : decode cX12_share 40 = .ok (.ireturn, 1) := by decide +kernel
theorem dX12_isLine_0 : decode cX12_isLine 0 = .ok (.iload_n 0, 1) := by decide +kernel
theorem dX12_isLine_1 : decode cX12_isLine 1 = .ok (.ifCond .lt 13, 3) := by decide +kernel
theorem dX12_isLine_4 : decode cX12_isLine 4 = .ok (.iload_n 0, 1) := by decide +kernel
theorem dX12_isLine_5 : decode cX12_isLine 5 = .ok (.bipush 6, 2) := by decide +kernel
theorem dX12_isLine_7 : decode cX12_isLine 7 = .ok (.if_icmp .ge 7, 3) := by decide +kernel
theorem dX12_isLine_10 : decode cX12_isLine 10 = .ok (.iconst 1, 1) := by decide +kernel
theorem dX12_isLine_11 : decode cX12_isLine 11 = .ok (.goto 4, 3) := by decide +kernel
theorem dX12_isLine_14 : decode cX12_isLine 14 = .ok (.iconst 0, 1) := by decide +kernel
theorem dX12_isLine_15 : decode cX12_isLine 15 = .ok (.ireturn, 1) := by decide +kernel
theorem dX12_connect_0 : decode cX12_connect 0 = .ok (.iload_n 1, 1) := by decide +kernel
theorem dX12_connect_1 : decode cX12_connect 1 = .ok (.invokestatic 325, 3) := by decide +kernel
theorem dX12_connect_4 : decode cX12_connect 4 = .ok (.ifCond .eq 12, 3) := by decide +kernel
theorem dX12_connect_7 : decode cX12_connect 7 = .ok (.aload_n 0, 1) := by decide +kernel
theorem dX12_connect_8 : decode cX12_connect 8 = .ok (.getfield 89, 3) := by decide +kernel
theorem dX12_connect_11 : decode cX12_connect 11 = .ok (.iload_n 1, 1) := by decide +kernel
theorem dX12_connect_12 : decode cX12_connect 12 = .ok (.baload, 1) := by decide +kernel
theorem dX12_connect_13 : decode cX12_connect 13 = .ok (.ifCond .eq 5, 3) := by decide +kernel
theorem dX12_connect_16 : decode cX12_connect 16 = .ok (.iconst 0, 1) := by decide +kernel
theorem dX12_connect_17 : decode cX12_connect 17 = .ok (.ireturn, 1) := by decide +kernel
theorem dX12_connect_18 : decode cX12_connect 18 = .ok (.aload_n 0, 1) := by decide +kernel
theorem dX12_connect_19 : decode cX12_connect 19 = .ok (.getfield 89, 3) := by decide +kernel
theorem dX12_connect_22 : decode cX12_connect 22 = .ok (.iload_n 1, 1) := by decide +kernel
theorem dX12_connect_23 : decode cX12_connect 23 = .ok (.iconst 1, 1) := by decide +kernel
theorem dX12_connect_24 : decode cX12_connect 24 = .ok (.bastore, 1) := by decide +kernel
theorem dX12_connect_25 : decode cX12_connect 25 = .ok (.aload_n 0, 1) := by decide +kernel
theorem dX12_connect_26 : decode cX12_connect 26 = .ok (.getfield 92, 3) := by decide +kernel
theorem dX12_connect_29 : decode cX12_connect 29 = .ok (.iload_n 1, 1) := by decide +kernel
theorem dX12_connect_30 : decode cX12_connect 30 = .ok (.iconst 0, 1) := by decide +kernel
theorem dX12_connect_31 : decode cX12_connect 31 = .ok (.bastore, 1) := by decide +kernel
theorem dX12_connect_32 : decode cX12_connect 32 = .ok (.aload_n 0, 1) := by decide +kernel
theorem dX12_connect_33 : decode cX12_connect 33 = .ok (.getfield 99, 3) := by decide +kernel
theorem dX12_connect_36 : decode cX12_connect 36 = .ok (.iload_n 1, 1) := by decide +kernel
theorem dX12_connect_37 : decode cX12_connect 37 = .ok (.iconst 0, 1) := by decide +kernel
theorem dX12_connect_38 : decode cX12_connect 38 = .ok (.iastore, 1) := by decide +kernel
theorem dX12_connect_39 : decode cX12_connect 39 = .ok (.aload_n 0, 1) := by decide +kernel
theorem dX12_connect_40 : decode cX12_connect 40 = .ok (.getfield 106, 3) := by decide +kernel
theorem dX12_connect_43 : decode cX12_connect 43 = .ok (.iload_n 1, 1) := by decide +kernel
theorem dX12_connect_44 : decode cX12_connect 44 = .ok (.iconst 0, 1) := by decide +kernel
theorem dX12_connect_45 : decode cX12_connect 45 = .ok (.iastore, 1) := by decide +kernel
theorem dX12_connect_46 : decode cX12_connect 46 = .ok (.aload_n 0, 1) := by decide +kernel
theorem dX12_connect_47 : decode cX12_connect 47 = .ok (.getfield 112, 3) := by decide +kernel
theorem dX12_connect_50 : decode cX12_connect 50 = .ok (.iload_n 1, 1) := by decide +kernel
theorem dX12_connect_51 : decode cX12_connect 51 = .ok (.iconst 1, 1) := by decide +kernel
theorem dX12_connect_52 : decode cX12_connect 52 = .ok (.iastore, 1) := by decide +kernel
theorem dX12_connect_53 : decode cX12_connect 53 = .ok (.aload_n 0, 1) := by decide +kernel
theorem dX12_connect_54 : decode cX12_connect 54 = .ok (.getfield 109, 3) := by decide +kernel
theorem dX12_connect_57 : decode cX12_connect 57 = .ok (.bipush 16, 2) := by decide +kernel
theorem dX12_connect_59 : decode cX12_connect 59 = .ok (.iload_n 1, 1) := by decide +kernel
theorem dX12_connect_60 : decode cX12_connect 60 = .ok (.imul, 1) := by decide +kernel
theorem dX12_connect_61 : decode cX12_connect 61 = .ok (.lconst 0, 1) := by decide +kernel
theorem dX12_connect_62 : decode cX12_connect 62 = .ok (.lastore, 1) := by decide +kernel
theorem dX12_connect_63 : decode cX12_connect 63 = .ok (.aload_n 0, 1) := by decide +kernel
theorem dX12_connect_64 : decode cX12_connect 64 = .ok (.getfield 115, 3) := by decide +kernel
theorem dX12_connect_67 : decode cX12_connect 67 = .ok (.iload_n 1, 1) := by decide +kernel
theorem dX12_connect_68 : decode cX12_connect 68 = .ok (.lconst 0, 1) := by decide +kernel
theorem dX12_connect_69 : decode cX12_connect 69 = .ok (.lastore, 1) := by decide +kernel
theorem dX12_connect_70 : decode cX12_connect 70 = .ok (.iconst 1, 1) := by decide +kernel
theorem dX12_connect_71 : decode cX12_connect 71 = .ok (.ireturn, 1) := by decide +kernel
theorem dX12_hang_0 : decode cX12_hang 0 = .ok (.iload_n 1, 1) := by decide +kernel
theorem dX12_hang_1 : decode cX12_hang 1 = .ok (.invokestatic 325, 3) := by decide +kernel
theorem dX12_hang_4 : decode cX12_hang 4 = .ok (.ifCond .eq 12, 3) := by decide +kernel
theorem dX12_hang_7 : decode cX12_hang 7 = .ok (.aload_n 0, 1) := by decide +kernel
theorem dX12_hang_8 : decode cX12_hang 8 = .ok (.getfield 89, 3) := by decide +kernel
theorem dX12_hang_11 : decode cX12_hang 11 = .ok (.iload_n 1, 1) := by decide +kernel
theorem dX12_hang_12 : decode cX12_hang 12 = .ok (.baload, 1) := by decide +kernel
theorem dX12_hang_13 : decode cX12_hang 13 = .ok (.ifCond .ne 5, 3) := by decide +kernel
theorem dX12_hang_16 : decode cX12_hang 16 = .ok (.iconst 0, 1) := by decide +kernel
theorem dX12_hang_17 : decode cX12_hang 17 = .ok (.ireturn, 1) := by decide +kernel
theorem dX12_come__0 : decode cX12_come_ 0 = .ok (.aload_n 0, 1) := by decide +kernel
theorem dX12_come__1 : decode cX12_come_ 1 = .ok (.getfield 261, 3) := by decide +kernel
theorem dX12_come__4 : decode cX12_come_ 4 = .ok (.istore_n 2, 1) := by decide +kernel
theorem dX12_come__5 : decode cX12_come_ 5 = .ok (.aload_n 0, 1) := by decide +kernel
theorem dX12_come__6 : decode cX12_come_ 6 = .ok (.iconst 0, 1) := by decide +kernel
theorem dX12_come__7 : decode cX12_come_ 7 = .ok (.putfield 261, 3) := by decide +kernel
theorem dX12_come__10 : decode cX12_come_ 10 = .ok (.iload_n 1, 1) := by decide +kernel
theorem dX12_come__11 : decode cX12_come_ 11 = .ok (.invokestatic 325, 3) := by decide +kernel
theorem dX12_come__14 : decode cX12_come_ 14 = .ok (.ifCond .eq 12, 3) := by decide +kernel
theorem dX12_come__17 : decode cX12_come_ 17 = .ok (.aload_n 0, 1) := by decide +kernel
theorem dX12_come__18 : decode cX12_come_ 18 = .ok (.getfield 89, 3) := by decide +kernel
theorem dX12_come__21 : decode cX12_come_ 21 = .ok (.iload_n 1, 1) := by decide +kernel
theorem dX12_come__22 : decode cX12_come_ 22 = .ok (.baload, 1) := by decide +kernel
theorem dX12_come__23 : decode cX12_come_ 23 = .ok (.ifCond .ne 5, 3) := by decide +kernel
theorem dX12_come__26 : decode cX12_come_ 26 = .ok (.iconst (-1), 1) := by decide +kernel
theorem dX12_come__27 : decode cX12_come_ 27 = .ok (.ireturn, 1) := by decide +kernel
theorem dX12_isOpen_0 : decode cX12_isOpen 0 = .ok (.iload_n 1, 1) := by decide +kernel
theorem dX12_isOpen_1 : decode cX12_isOpen 1 = .ok (.invokestatic 325, 3) := by decide +kernel
theorem dX12_isOpen_4 : decode cX12_isOpen 4 = .ok (.ifCond .eq 16, 3) := by decide +kernel
theorem dX12_isOpen_7 : decode cX12_isOpen 7 = .ok (.aload_n 0, 1) := by decide +kernel
theorem dX12_isOpen_8 : decode cX12_isOpen 8 = .ok (.getfield 89, 3) := by decide +kernel
theorem dX12_isOpen_11 : decode cX12_isOpen 11 = .ok (.iload_n 1, 1) := by decide +kernel
theorem dX12_isOpen_12 : decode cX12_isOpen 12 = .ok (.baload, 1) := by decide +kernel
theorem dX12_isOpen_13 : decode cX12_isOpen 13 = .ok (.ifCond .eq 7, 3) := by decide +kernel
theorem dX12_isOpen_16 : decode cX12_isOpen 16 = .ok (.iconst 1, 1) := by decide +kernel
theorem dX12_isOpen_17 : decode cX12_isOpen 17 = .ok (.goto 4, 3) := by decide +kernel
theorem dX12_isOpen_20 : decode cX12_isOpen 20 = .ok (.iconst 0, 1) := by decide +kernel
theorem dX12_isOpen_21 : decode cX12_isOpen 21 = .ok (.ireturn, 1) := by decide +kernel
theorem dX12_tick_0 : decode cX12_tick 0 = .ok (.iload_n 1, 1) := by decide +kernel
theorem dX12_tick_1 : decode cX12_tick 1 = .ok (.ifCond .lt 10, 3) := by decide +kernel
theorem dX12_tick_4 : decode cX12_tick 4 = .ok (.iload_n 1, 1) := by decide +kernel
theorem dX12_tick_5 : decode cX12_tick 5 = .ok (.ldc_w 863, 3) := by decide +kernel
theorem dX12_tick_8 : decode cX12_tick 8 = .ok (.if_icmp .le 5, 3) := by decide +kernel
theorem dX12_tick_11 : decode cX12_tick 11 = .ok (.iconst 0, 1) := by decide +kernel
theorem dX12_tick_12 : decode cX12_tick 12 = .ok (.ireturn, 1) := by decide +kernel
theorem dX12_tick_13 : decode cX12_tick 13 = .ok (.aload_n 0, 1) := by decide +kernel
theorem dX12_tick_14 : decode cX12_tick 14 = .ok (.dup, 1) := by decide +kernel
theorem dX12_tick_15 : decode cX12_tick 15 = .ok (.getfield 322, 3) := by decide +kernel
theorem dX12_tick_18 : decode cX12_tick 18 = .ok (.iload_n 1, 1) := by decide +kernel
theorem dX12_tick_19 : decode cX12_tick 19 = .ok (.i2l, 1) := by decide +kernel
theorem dX12_tick_20 : decode cX12_tick 20 = .ok (.ladd, 1) := by decide +kernel
theorem dX12_tick_21 : decode cX12_tick 21 = .ok (.putfield 322, 3) := by decide +kernel
theorem dX12_tick_24 : decode cX12_tick 24 = .ok (.lconst 0, 1) := by decide +kernel
theorem dX12_tick_25 : decode cX12_tick 25 = .ok (.lstore_n 2, 1) := by decide +kernel
theorem dX12_tick_26 : decode cX12_tick 26 = .ok (.iconst 1, 1) := by decide +kernel
theorem dX12_tick_27 : decode cX12_tick 27 = .ok (.istore 4, 2) := by decide +kernel
theorem dX12_tick_29 : decode cX12_tick 29 = .ok (.iload 4, 2) := by decide +kernel
theorem dX12_tick_31 : decode cX12_tick 31 = .ok (.ifCond .eq 162, 3) := by decide +kernel
theorem dX12_tick_34 : decode cX12_tick 34 = .ok (.iconst (-1), 1) := by decide +kernel
theorem dX12_tick_35 : decode cX12_tick 35 = .ok (.istore 5, 2) := by decide +kernel
theorem dX12_tick_37 : decode cX12_tick 37 = .ok (.iconst 0, 1) := by decide +kernel
theorem dX12_tick_38 : decode cX12_tick 38 = .ok (.istore 6, 2) := by decide +kernel
theorem dX12_tick_40 : decode cX12_tick 40 = .ok (.iload 6, 2) := by decide +kernel
theorem dX12_tick_42 : decode cX12_tick 42 = .ok (.bipush 40, 2) := by decide +kernel
theorem dX12_tick_44 : decode cX12_tick 44 = .ok (.if_icmp .ge 94, 3) := by decide +kernel
theorem dX12_tick_47 : decode cX12_tick 47 = .ok (.aload_n 0, 1) := by decide +kernel
theorem dX12_tick_48 : decode cX12_tick 48 = .ok (.getfield 139, 3) := by decide +kernel
theorem dX12_tick_51 : decode cX12_tick 51 = .ok (.iload 6, 2) := by decide +kernel
theorem dX12_tick_53 : decode cX12_tick 53 = .ok (.laload, 1) := by decide +kernel
theorem dX12_tick_54 : decode cX12_tick 54 = .ok (.lload_n 2, 1) := by decide +kernel
theorem dX12_tick_55 : decode cX12_tick 55 = .ok (.lcmp, 1) := by decide +kernel
theorem dX12_tick_56 : decode cX12_tick 56 = .ok (.ifCond .le 36, 3) := by decide +kernel
theorem dX12_tick_92 : decode cX12_tick 92 = .ok (.iconst 0, 1) := by decide +kernel
theorem dX12_tick_93 : decode cX12_tick 93 = .ok (.istore 7, 2) := by decide +kernel
theorem dX12_tick_95 : decode cX12_tick 95 = .ok (.iload 7, 2) := by decide +kernel
theorem dX12_tick_97 : decode cX12_tick 97 = .ok (.ifCond .eq 31, 3) := by decide +kernel
theorem dX12_tick_128 : decode cX12_tick 128 = .ok (.iload 5, 2) := by decide +kernel
theorem dX12_tick_130 : decode cX12_tick 130 = .ok (.istore 5, 2) := by decide +kernel
theorem dX12_tick_132 : decode cX12_tick 132 = .ok (.iinc 6 1, 3) := by decide +kernel
theorem dX12_tick_135 : decode cX12_tick 135 = .ok (.goto (-95), 3) := by decide +kernel
theorem dX12_tick_138 : decode cX12_tick 138 = .ok (.iload 5, 2) := by decide +kernel
theorem dX12_tick_140 : decode cX12_tick 140 = .ok (.ifCond .lt 7, 3) := by decide +kernel
theorem dX12_tick_147 : decode cX12_tick 147 = .ok (.iconst 0, 1) := by decide +kernel
theorem dX12_tick_148 : decode cX12_tick 148 = .ok (.istore 4, 2) := by decide +kernel
theorem dX12_tick_150 : decode cX12_tick 150 = .ok (.iload 4, 2) := by decide +kernel
theorem dX12_tick_152 : decode cX12_tick 152 = .ok (.ifCond .eq 38, 3) := by decide +kernel
theorem dX12_tick_193 : decode cX12_tick 193 = .ok (.iconst 1, 1) := by decide +kernel
theorem dX12_tick_194 : decode cX12_tick 194 = .ok (.ireturn, 1) := by decide +kernel
theorem dX12_crash_0 : decode cX12_crash 0 = .ok (.iload_n 1, 1) := by decide +kernel
theorem dX12_crash_1 : decode cX12_crash 1 = .ok (.ifCond .lt 11, 3) := by decide +kernel
theorem dX12_crash_4 : decode cX12_crash 4 = .ok (.iload_n 1, 1) := by decide +kernel
theorem dX12_crash_5 : decode cX12_crash 5 = .ok (.aload_n 0, 1) := by decide +kernel
theorem dX12_crash_6 : decode cX12_crash 6 = .ok (.getfield 271, 3) := by decide +kernel
theorem dX12_crash_9 : decode cX12_crash 9 = .ok (.if_icmp .le 5, 3) := by decide +kernel
theorem dX12_crash_12 : decode cX12_crash 12 = .ok (.iconst (-1), 1) := by decide +kernel
theorem dX12_crash_13 : decode cX12_crash 13 = .ok (.ireturn, 1) := by decide +kernel
theorem dX12_crash_14 : decode cX12_crash 14 = .ok (.aload_n 0, 1) := by decide +kernel
theorem dX12_crash_15 : decode cX12_crash 15 = .ok (.getfield 271, 3) := by decide +kernel
theorem dX12_crash_18 : decode cX12_crash 18 = .ok (.istore_n 2, 1) := by decide +kernel
theorem dX12_crash_19 : decode cX12_crash 19 = .ok (.aload_n 0, 1) := by decide +kernel
theorem dX12_crash_20 : decode cX12_crash 20 = .ok (.iload_n 1, 1) := by decide +kernel
theorem dX12_crash_21 : decode cX12_crash 21 = .ok (.iconst 0, 1) := by decide +kernel
theorem dX12_crash_22 : decode cX12_crash 22 = .ok (.invokevirtual 281, 3) := by decide +kernel
theorem dX12_crash_25 : decode cX12_crash 25 = .ok (.aload_n 0, 1) := by decide +kernel
theorem dX12_crash_26 : decode cX12_crash 26 = .ok (.invokevirtual 258, 3) := by decide +kernel
theorem dX12_crash_29 : decode cX12_crash 29 = .ok (.iload_n 2, 1) := by decide +kernel
theorem dX12_crash_30 : decode cX12_crash 30 = .ok (.ireturn, 1) := by decide +kernel
theorem dX12_come_0 : decode cX12_come 0 = .ok (.iconst 0, 1) := by decide +kernel
theorem dX12_come_1 : decode cX12_come 1 = .ok (.istore_n 3, 1) := by decide +kernel
theorem dX12_come_2 : decode cX12_come 2 = .ok (.iload_n 3, 1) := by decide +kernel
theorem dX12_come_3 : decode cX12_come 3 = .ok (.iload_n 1, 1) := by decide +kernel
theorem dX12_come_4 : decode cX12_come 4 = .ok (.if_icmp .ge 16, 3) := by decide +kernel
theorem dX12_come_20 : decode cX12_come 20 = .ok (.aload_n 0, 1) := by decide +kernel
theorem dX12_come_21 : decode cX12_come 21 = .ok (.iconst 0, 1) := by decide +kernel
theorem dX12_come_22 : decode cX12_come 22 = .ok (.putfield 271, 3) := by decide +kernel
theorem dX12_come_25 : decode cX12_come 25 = .ok (.return_, 1) := by decide +kernel
theorem dX12_outs_0 : decode cX12_outs 0 = .ok (.iload_n 1, 1) := by decide +kernel
theorem dX12_outs_1 : decode cX12_outs 1 = .ok (.invokestatic 325, 3) := by decide +kernel
theorem dX12_outs_4 : decode cX12_outs 4 = .ok (.ifCond .eq 12, 3) := by decide +kernel
theorem dX12_outs_7 : decode cX12_outs 7 = .ok (.aload_n 0, 1) := by decide +kernel
theorem dX12_outs_8 : decode cX12_outs 8 = .ok (.getfield 99, 3) := by decide +kernel
theorem dX12_outs_11 : decode cX12_outs 11 = .ok (.iload_n 1, 1) := by decide +kernel
theorem dX12_outs_12 : decode cX12_outs 12 = .ok (.iaload, 1) := by decide +kernel
theorem dX12_outs_13 : decode cX12_outs 13 = .ok (.goto 4, 3) := by decide +kernel
theorem dX12_outs_16 : decode cX12_outs 16 = .ok (.iconst (-1), 1) := by decide +kernel
theorem dX12_outs_17 : decode cX12_outs 17 = .ok (.ireturn, 1) := by decide +kernel
theorem dX12_out_0 : decode cX12_out 0 = .ok (.iload_n 1, 1) := by decide +kernel
theorem dX12_out_1 : decode cX12_out 1 = .ok (.invokestatic 325, 3) := by decide +kernel
theorem dX12_out_4 : decode cX12_out 4 = .ok (.ifCond .eq 36, 3) := by decide +kernel
theorem dX12_out_7 : decode cX12_out 7 = .ok (.iload_n 2, 1) := by decide +kernel
theorem dX12_out_8 : decode cX12_out 8 = .ok (.ifCond .lt 32, 3) := by decide +kernel
theorem dX12_out_11 : decode cX12_out 11 = .ok (.iload_n 2, 1) := by decide +kernel
theorem dX12_out_12 : decode cX12_out 12 = .ok (.aload_n 0, 1) := by decide +kernel
theorem dX12_out_13 : decode cX12_out 13 = .ok (.getfield 99, 3) := by decide +kernel
theorem dX12_out_16 : decode cX12_out 16 = .ok (.iload_n 1, 1) := by decide +kernel
theorem dX12_out_17 : decode cX12_out 17 = .ok (.iaload, 1) := by decide +kernel
theorem dX12_out_18 : decode cX12_out 18 = .ok (.if_icmp .ge 22, 3) := by decide +kernel
theorem dX12_out_40 : decode cX12_out 40 = .ok (.iconst (-1), 1) := by decide +kernel
theorem dX12_out_41 : decode cX12_out 41 = .ok (.ireturn, 1) := by decide +kernel
theorem dX12_drop_0 : decode cX12_drop 0 = .ok (.iload_n 1, 1) := by decide +kernel
theorem dX12_drop_1 : decode cX12_drop 1 = .ok (.invokestatic 325, 3) := by decide +kernel
theorem dX12_drop_4 : decode cX12_drop 4 = .ok (.ifCond .ne 5, 3) := by decide +kernel
theorem dX12_drop_7 : decode cX12_drop 7 = .ok (.iconst (-1), 1) := by decide +kernel
theorem dX12_drop_8 : decode cX12_drop 8 = .ok (.ireturn, 1) := by decide +kernel
theorem dX12_drop_9 : decode cX12_drop 9 = .ok (.aload_n 0, 1) := by decide +kernel
theorem dX12_drop_10 : decode cX12_drop 10 = .ok (.getfield 99, 3) := by decide +kernel
theorem dX12_drop_13 : decode cX12_drop 13 = .ok (.iload_n 1, 1) := by decide +kernel
theorem dX12_drop_14 : decode cX12_drop 14 = .ok (.iaload, 1) := by decide +kernel
theorem dX12_drop_15 : decode cX12_drop 15 = .ok (.istore_n 2, 1) := by decide +kernel
theorem dX12_drop_16 : decode cX12_drop 16 = .ok (.aload_n 0, 1) := by decide +kernel
theorem dX12_drop_17 : decode cX12_drop 17 = .ok (.getfield 99, 3) := by decide +kernel
theorem dX12_drop_20 : decode cX12_drop 20 = .ok (.iload_n 1, 1) := by decide +kernel
theorem dX12_drop_21 : decode cX12_drop 21 = .ok (.iconst 0, 1) := by decide +kernel
theorem dX12_drop_22 : decode cX12_drop 22 = .ok (.iastore, 1) := by decide +kernel
theorem dX12_drop_23 : decode cX12_drop 23 = .ok (.iload_n 2, 1) := by decide +kernel
theorem dX12_drop_24 : decode cX12_drop 24 = .ok (.ireturn, 1) := by decide +kernel
theorem dX12_told_0 : decode cX12_told 0 = .ok (.iload_n 1, 1) := by decide +kernel
theorem dX12_told_1 : decode cX12_told 1 = .ok (.tableswitch 112 0 8 #[51, 57, 62, 68, 77, 82, 87, 96, 105], 51) := by decide +kernel
theorem dX12_told_52 : decode cX12_told 52 = .ok (.aload_n 0, 1) := by decide +kernel
theorem dX12_told_53 : decode cX12_told 53 = .ok (.getfield 322, 3) := by decide +kernel
theorem dX12_told_56 : decode cX12_told 56 = .ok (.l2i, 1) := by decide +kernel
theorem dX12_told_57 : decode cX12_told 57 = .ok (.ireturn, 1) := by decide +kernel
theorem dX12_told_58 : decode cX12_told 58 = .ok (.aload_n 0, 1) := by decide +kernel
theorem dX12_told_59 : decode cX12_told 59 = .ok (.getfield 271, 3) := by decide +kernel
theorem dX12_told_62 : decode cX12_told 62 = .ok (.ireturn, 1) := by decide +kernel
theorem dX12_told_63 : decode cX12_told 63 = .ok (.aload_n 0, 1) := by decide +kernel
theorem dX12_told_64 : decode cX12_told 64 = .ok (.iconst 0, 1) := by decide +kernel
theorem dX12_told_65 : decode cX12_told 65 = .ok (.invokevirtual 315, 3) := by decide +kernel
theorem dX12_told_68 : decode cX12_told 68 = .ok (.ireturn, 1) := by decide +kernel
theorem dX12_told_69 : decode cX12_told 69 = .ok (.aload_n 0, 1) := by decide +kernel
theorem dX12_told_70 : decode cX12_told 70 = .ok (.aload_n 0, 1) := by decide +kernel
theorem dX12_told_71 : decode cX12_told 71 = .ok (.getfield 139, 3) := by decide +kernel
theorem dX12_told_74 : decode cX12_told 74 = .ok (.invokevirtual 688, 3) := by decide +kernel
theorem dX12_told_77 : decode cX12_told 77 = .ok (.ireturn, 1) := by decide +kernel
theorem dX12_told_78 : decode cX12_told 78 = .ok (.aload_n 0, 1) := by decide +kernel
theorem dX12_told_79 : decode cX12_told 79 = .ok (.getfield 289, 3) := by decide +kernel
theorem dX12_told_82 : decode cX12_told 82 = .ok (.ireturn, 1) := by decide +kernel
theorem dX12_told_83 : decode cX12_told 83 = .ok (.aload_n 0, 1) := by decide +kernel
theorem dX12_told_84 : decode cX12_told 84 = .ok (.getfield 292, 3) := by decide +kernel
theorem dX12_told_87 : decode cX12_told 87 = .ok (.ireturn, 1) := by decide +kernel
theorem dX12_told_88 : decode cX12_told 88 = .ok (.aload_n 0, 1) := by decide +kernel
theorem dX12_told_89 : decode cX12_told 89 = .ok (.aload_n 0, 1) := by decide +kernel
theorem dX12_told_90 : decode cX12_told 90 = .ok (.getfield 118, 3) := by decide +kernel
theorem dX12_told_93 : decode cX12_told 93 = .ok (.invokevirtual 688, 3) := by decide +kernel
theorem dX12_told_96 : decode cX12_told 96 = .ok (.ireturn, 1) := by decide +kernel
theorem dX12_told_97 : decode cX12_told 97 = .ok (.aload_n 0, 1) := by decide +kernel
theorem dX12_told_98 : decode cX12_told 98 = .ok (.aload_n 0, 1) := by decide +kernel
theorem dX12_told_99 : decode cX12_told 99 = .ok (.getfield 130, 3) := by decide +kernel
theorem dX12_told_102 : decode cX12_told 102 = .ok (.invokevirtual 688, 3) := by decide +kernel
theorem dX12_told_105 : decode cX12_told 105 = .ok (.ireturn, 1) := by decide +kernel
theorem dX12_told_106 : decode cX12_told 106 = .ok (.aload_n 0, 1) := by decide +kernel
theorem dX12_told_107 : decode cX12_told 107 = .ok (.bipush 80, 2) := by decide +kernel
theorem dX12_told_109 : decode cX12_told 109 = .ok (.invokevirtual 315, 3) := by decide +kernel
theorem dX12_told_112 : decode cX12_told 112 = .ok (.ireturn, 1) := by decide +kernel
theorem dX12_told_113 : decode cX12_told 113 = .ok (.iconst (-1), 1) := by decide +kernel
theorem dX12_told_114 : decode cX12_told 114 = .ok (.ireturn, 1) := by decide +kernel
theorem dX12_nodes_0 : decode cX12_nodes 0 = .ok (.iconst 0, 1) := by decide +kernel
theorem dX12_nodes_1 : decode cX12_nodes 1 = .ok (.istore_n 2, 1) := by decide +kernel
theorem dX12_nodes_2 : decode cX12_nodes 2 = .ok (.iload_n 1, 1) := by decide +kernel
theorem dX12_nodes_3 : decode cX12_nodes 3 = .ok (.istore_n 3, 1) := by decide +kernel
theorem dX12_nodes_4 : decode cX12_nodes 4 = .ok (.iload_n 3, 1) := by decide +kernel
theorem dX12_nodes_5 : decode cX12_nodes 5 = .ok (.iload_n 1, 1) := by decide +kernel
theorem dX12_nodes_6 : decode cX12_nodes 6 = .ok (.bipush 80, 2) := by decide +kernel
theorem dX12_nodes_8 : decode cX12_nodes 8 = .ok (.iadd, 1) := by decide +kernel
theorem dX12_nodes_9 : decode cX12_nodes 9 = .ok (.if_icmp .ge 26, 3) := by decide +kernel
theorem dX12_nodes_12 : decode cX12_nodes 12 = .ok (.iload_n 2, 1) := by decide +kernel
theorem dX12_nodes_13 : decode cX12_nodes 13 = .ok (.aload_n 0, 1) := by decide +kernel
theorem dX12_nodes_14 : decode cX12_nodes 14 = .ok (.getfield 13, 3) := by decide +kernel
theorem dX12_nodes_17 : decode cX12_nodes 17 = .ok (.iload_n 3, 1) := by decide +kernel
theorem dX12_nodes_18 : decode cX12_nodes 18 = .ok (.baload, 1) := by decide +kernel
theorem dX12_nodes_19 : decode cX12_nodes 19 = .ok (.ifCond .eq 7, 3) := by decide +kernel
theorem dX12_nodes_22 : decode cX12_nodes 22 = .ok (.iconst 1, 1) := by decide +kernel
theorem dX12_nodes_23 : decode cX12_nodes 23 = .ok (.goto 4, 3) := by decide +kernel
theorem dX12_nodes_26 : decode cX12_nodes 26 = .ok (.iconst 0, 1) := by decide +kernel
theorem dX12_nodes_27 : decode cX12_nodes 27 = .ok (.iadd, 1) := by decide +kernel
theorem dX12_nodes_28 : decode cX12_nodes 28 = .ok (.istore_n 2, 1) := by decide +kernel
theorem dX12_nodes_29 : decode cX12_nodes 29 = .ok (.iinc 3 1, 3) := by decide +kernel
theorem dX12_nodes_32 : decode cX12_nodes 32 = .ok (.goto (-28), 3) := by decide +kernel
theorem dX12_nodes_35 : decode cX12_nodes 35 = .ok (.iload_n 2, 1) := by decide +kernel
theorem dX12_nodes_36 : decode cX12_nodes 36 = .ok (.ireturn, 1) := by decide +kernel
theorem dX12_count_0 : decode cX12_count 0 = .ok (.iconst 0, 1) := by decide +kernel
theorem dX12_count_1 : decode cX12_count 1 = .ok (.istore_n 2, 1) := by decide +kernel
theorem dX12_count_2 : decode cX12_count 2 = .ok (.iconst 0, 1) := by decide +kernel
theorem dX12_count_3 : decode cX12_count 3 = .ok (.istore_n 3, 1) := by decide +kernel
theorem dX12_count_4 : decode cX12_count 4 = .ok (.iload_n 3, 1) := by decide +kernel
theorem dX12_count_5 : decode cX12_count 5 = .ok (.aload_n 1, 1) := by decide +kernel
theorem dX12_count_6 : decode cX12_count 6 = .ok (.arraylength, 1) := by decide +kernel
theorem dX12_count_7 : decode cX12_count 7 = .ok (.if_icmp .ge 25, 3) := by decide +kernel
theorem dX12_count_10 : decode cX12_count 10 = .ok (.iload_n 2, 1) := by decide +kernel
theorem dX12_count_11 : decode cX12_count 11 = .ok (.aload_n 1, 1) := by decide +kernel
theorem dX12_count_12 : decode cX12_count 12 = .ok (.iload_n 3, 1) := by decide +kernel
theorem dX12_count_13 : decode cX12_count 13 = .ok (.laload, 1) := by decide +kernel
theorem dX12_count_14 : decode cX12_count 14 = .ok (.lconst 0, 1) := by decide +kernel
theorem dX12_count_15 : decode cX12_count 15 = .ok (.lcmp, 1) := by decide +kernel
theorem dX12_count_16 : decode cX12_count 16 = .ok (.ifCond .le 7, 3) := by decide +kernel
theorem dX12_count_19 : decode cX12_count 19 = .ok (.iconst 1, 1) := by decide +kernel
theorem dX12_count_20 : decode cX12_count 20 = .ok (.goto 4, 3) := by decide +kernel
theorem dX12_count_23 : decode cX12_count 23 = .ok (.iconst 0, 1) := by decide +kernel
theorem dX12_count_24 : decode cX12_count 24 = .ok (.iadd, 1) := by decide +kernel
theorem dX12_count_25 : decode cX12_count 25 = .ok (.istore_n 2, 1) := by decide +kernel
theorem dX12_count_26 : decode cX12_count 26 = .ok (.iinc 3 1, 3) := by decide +kernel
theorem dX12_count_29 : decode cX12_count 29 = .ok (.goto (-25), 3) := by decide +kernel
theorem dX12_count_32 : decode cX12_count 32 = .ok (.iload_n 2, 1) := by decide +kernel
theorem dX12_count_33 : decode cX12_count 33 = .ok (.ireturn, 1) := by decide +kernel
theorem dL_law_0 : decode cL_law 0 = .ok (.new 7, 3) := by decide +kernel
theorem dL_law_3 : decode cL_law 3 = .ok (.dup, 1) := by decide +kernel
theorem dL_law_4 : decode cL_law 4 = .ok (.invokespecial 9, 3) := by decide +kernel
theorem dL_law_7 : decode cL_law 7 = .ok (.astore_n 1, 1) := by decide +kernel
theorem dL_law_8 : decode cL_law 8 = .ok (.new 10, 3) := by decide +kernel
theorem dL_law_11 : decode cL_law 11 = .ok (.dup, 1) := by decide +kernel
theorem dL_law_12 : decode cL_law 12 = .ok (.invokespecial 12, 3) := by decide +kernel
theorem dL_law_15 : decode cL_law 15 = .ok (.astore_n 2, 1) := by decide +kernel
theorem dL_law_16 : decode cL_law 16 = .ok (.iconst 0, 1) := by decide +kernel
theorem dL_law_17 : decode cL_law 17 = .ok (.istore_n 3, 1) := by decide +kernel
theorem dL_law_18 : decode cL_law 18 = .ok (.iload_n 3, 1) := by decide +kernel
theorem dL_law_19 : decode cL_law 19 = .ok (.aload_n 0, 1) := by decide +kernel
theorem dL_law_20 : decode cL_law 20 = .ok (.arraylength, 1) := by decide +kernel
theorem dL_law_21 : decode cL_law 21 = .ok (.bipush 6, 2) := by decide +kernel
theorem dL_law_23 : decode cL_law 23 = .ok (.isub, 1) := by decide +kernel
theorem dL_law_24 : decode cL_law 24 = .ok (.if_icmp .gt 431, 3) := by decide +kernel
theorem dL_law_27 : decode cL_law 27 = .ok (.aload_n 0, 1) := by decide +kernel
theorem dL_law_28 : decode cL_law 28 = .ok (.iload_n 3, 1) := by decide +kernel
theorem dL_law_29 : decode cL_law 29 = .ok (.iaload, 1) := by decide +kernel
theorem dL_law_30 : decode cL_law 30 = .ok (.bipush 15, 2) := by decide +kernel
theorem dL_law_32 : decode cL_law 32 = .ok (.iand, 1) := by decide +kernel
theorem dL_law_33 : decode cL_law 33 = .ok (.tableswitch 416 0 12 #[67, 130, 153, 176, 199, 222, 245, 268, 291, 314, 337, 370, 393], 67) := by decide +kernel
theorem dL_law_100 : decode cL_law 100 = .ok (.aload_n 1, 1) := by decide +kernel
theorem dL_law_101 : decode cL_law 101 = .ok (.aload_n 0, 1) := by decide +kernel
theorem dL_law_102 : decode cL_law 102 = .ok (.iload_n 3, 1) := by decide +kernel
theorem dL_law_103 : decode cL_law 103 = .ok (.iconst 1, 1) := by decide +kernel
theorem dL_law_104 : decode cL_law 104 = .ok (.iadd, 1) := by decide +kernel
theorem dL_law_105 : decode cL_law 105 = .ok (.iaload, 1) := by decide +kernel
theorem dL_law_106 : decode cL_law 106 = .ok (.aload_n 0, 1) := by decide +kernel
theorem dL_law_107 : decode cL_law 107 = .ok (.iload_n 3, 1) := by decide +kernel
theorem dL_law_108 : decode cL_law 108 = .ok (.iconst 2, 1) := by decide +kernel
theorem dL_law_109 : decode cL_law 109 = .ok (.iadd, 1) := by decide +kernel
theorem dL_law_110 : decode cL_law 110 = .ok (.iaload, 1) := by decide +kernel
theorem dL_law_111 : decode cL_law 111 = .ok (.aload_n 0, 1) := by decide +kernel
theorem dL_law_112 : decode cL_law 112 = .ok (.iload_n 3, 1) := by decide +kernel
theorem dL_law_113 : decode cL_law 113 = .ok (.iconst 3, 1) := by decide +kernel
theorem dL_law_114 : decode cL_law 114 = .ok (.iadd, 1) := by decide +kernel
theorem dL_law_115 : decode cL_law 115 = .ok (.iaload, 1) := by decide +kernel
theorem dL_law_116 : decode cL_law 116 = .ok (.aload_n 0, 1) := by decide +kernel
theorem dL_law_117 : decode cL_law 117 = .ok (.iload_n 3, 1) := by decide +kernel
theorem dL_law_118 : decode cL_law 118 = .ok (.iconst 4, 1) := by decide +kernel
theorem dL_law_119 : decode cL_law 119 = .ok (.iadd, 1) := by decide +kernel
theorem dL_law_120 : decode cL_law 120 = .ok (.iaload, 1) := by decide +kernel
theorem dL_law_121 : decode cL_law 121 = .ok (.aload_n 0, 1) := by decide +kernel
end
section
theorem dL_law_122 : decode cL_law 122 = .ok (.iload_n 3, 1) := by decide +kernel
theorem dL_law_123 : decode cL_law 123 = .ok (.iconst 5, 1) := by decide +kernel
theorem dL_law_124 : decode cL_law 124 = .ok (.iadd, 1) := by decide +kernel
theorem dL_law_125 : decode cL_law 125 = .ok (.iaload, 1) := by decide +kernel
theorem dL_law_126 : decode cL_law 126 = .ok (.invokevirtual 13, 3) := by decide +kernel
theorem dL_law_129 : decode cL_law 129 = .ok (.aload_n 2, 1) := by decide +kernel
theorem dL_law_130 : decode cL_law 130 = .ok (.aload_n 0, 1) := by decide +kernel
theorem dL_law_131 : decode cL_law 131 = .ok (.iload_n 3, 1) := by decide +kernel
theorem dL_law_132 : decode cL_law 132 = .ok (.iconst 1, 1) := by decide +kernel
theorem dL_law_133 : decode cL_law 133 = .ok (.iadd, 1) := by decide +kernel
theorem dL_law_134 : decode cL_law 134 = .ok (.iaload, 1) := by decide +kernel
theorem dL_law_135 : decode cL_law 135 = .ok (.aload_n 0, 1) := by decide +kernel
theorem dL_law_136 : decode cL_law 136 = .ok (.iload_n 3, 1) := by decide +kernel
theorem dL_law_137 : decode cL_law 137 = .ok (.iconst 2, 1) := by decide +kernel
theorem dL_law_138 : decode cL_law 138 = .ok (.iadd, 1) := by decide +kernel
theorem dL_law_139 : decode cL_law 139 = .ok (.iaload, 1) := by decide +kernel
theorem dL_law_140 : decode cL_law 140 = .ok (.aload_n 0, 1) := by decide +kernel
theorem dL_law_141 : decode cL_law 141 = .ok (.iload_n 3, 1) := by decide +kernel
theorem dL_law_142 : decode cL_law 142 = .ok (.iconst 3, 1) := by decide +kernel
theorem dL_law_143 : decode cL_law 143 = .ok (.iadd, 1) := by decide +kernel
theorem dL_law_144 : decode cL_law 144 = .ok (.iaload, 1) := by decide +kernel
theorem dL_law_145 : decode cL_law 145 = .ok (.aload_n 0, 1) := by decide +kernel
theorem dL_law_146 : decode cL_law 146 = .ok (.iload_n 3, 1) := by decide +kernel
theorem dL_law_147 : decode cL_law 147 = .ok (.iconst 4, 1) := by decide +kernel
theorem dL_law_148 : decode cL_law 148 = .ok (.iadd, 1) := by decide +kernel
theorem dL_law_149 : decode cL_law 149 = .ok (.iaload, 1) := by decide +kernel
theorem dL_law_150 : decode cL_law 150 = .ok (.aload_n 0, 1) := by decide +kernel
theorem dL_law_151 : decode cL_law 151 = .ok (.iload_n 3, 1) := by decide +kernel
theorem dL_law_152 : decode cL_law 152 = .ok (.iconst 5, 1) := by decide +kernel
theorem dL_law_153 : decode cL_law 153 = .ok (.iadd, 1) := by decide +kernel
theorem dL_law_154 : decode cL_law 154 = .ok (.iaload, 1) := by decide +kernel
theorem dL_law_155 : decode cL_law 155 = .ok (.invokevirtual 17, 3) := by decide +kernel
theorem dL_law_158 : decode cL_law 158 = .ok (.if_icmp .eq 291, 3) := by decide +kernel
theorem dL_law_161 : decode cL_law 161 = .ok (.iconst 0, 1) := by decide +kernel
theorem dL_law_162 : decode cL_law 162 = .ok (.ireturn, 1) := by decide +kernel
theorem dL_law_163 : decode cL_law 163 = .ok (.aload_n 1, 1) := by decide +kernel
theorem dL_law_164 : decode cL_law 164 = .ok (.aload_n 0, 1) := by decide +kernel
theorem dL_law_165 : decode cL_law 165 = .ok (.iload_n 3, 1) := by decide +kernel
theorem dL_law_166 : decode cL_law 166 = .ok (.iconst 1, 1) := by decide +kernel
theorem dL_law_167 : decode cL_law 167 = .ok (.iadd, 1) := by decide +kernel
theorem dL_law_168 : decode cL_law 168 = .ok (.iaload, 1) := by decide +kernel
theorem dL_law_169 : decode cL_law 169 = .ok (.invokevirtual 18, 3) := by decide +kernel
theorem dL_law_172 : decode cL_law 172 = .ok (.aload_n 2, 1) := by decide +kernel
theorem dL_law_173 : decode cL_law 173 = .ok (.aload_n 0, 1) := by decide +kernel
theorem dL_law_174 : decode cL_law 174 = .ok (.iload_n 3, 1) := by decide +kernel
theorem dL_law_175 : decode cL_law 175 = .ok (.iconst 1, 1) := by decide +kernel
theorem dL_law_176 : decode cL_law 176 = .ok (.iadd, 1) := by decide +kernel
theorem dL_law_177 : decode cL_law 177 = .ok (.iaload, 1) := by decide +kernel
theorem dL_law_178 : decode cL_law 178 = .ok (.invokevirtual 22, 3) := by decide +kernel
theorem dL_law_181 : decode cL_law 181 = .ok (.if_icmp .eq 268, 3) := by decide +kernel
theorem dL_law_184 : decode cL_law 184 = .ok (.iconst 0, 1) := by decide +kernel
theorem dL_law_185 : decode cL_law 185 = .ok (.ireturn, 1) := by decide +kernel
theorem dL_law_186 : decode cL_law 186 = .ok (.aload_n 1, 1) := by decide +kernel
theorem dL_law_187 : decode cL_law 187 = .ok (.aload_n 0, 1) := by decide +kernel
theorem dL_law_188 : decode cL_law 188 = .ok (.iload_n 3, 1) := by decide +kernel
theorem dL_law_189 : decode cL_law 189 = .ok (.iconst 1, 1) := by decide +kernel
theorem dL_law_190 : decode cL_law 190 = .ok (.iadd, 1) := by decide +kernel
theorem dL_law_191 : decode cL_law 191 = .ok (.iaload, 1) := by decide +kernel
theorem dL_law_192 : decode cL_law 192 = .ok (.invokevirtual 23, 3) := by decide +kernel
theorem dL_law_195 : decode cL_law 195 = .ok (.aload_n 2, 1) := by decide +kernel
theorem dL_law_196 : decode cL_law 196 = .ok (.aload_n 0, 1) := by decide +kernel
theorem dL_law_197 : decode cL_law 197 = .ok (.iload_n 3, 1) := by decide +kernel
theorem dL_law_198 : decode cL_law 198 = .ok (.iconst 1, 1) := by decide +kernel
theorem dL_law_199 : decode cL_law 199 = .ok (.iadd, 1) := by decide +kernel
theorem dL_law_200 : decode cL_law 200 = .ok (.iaload, 1) := by decide +kernel
theorem dL_law_201 : decode cL_law 201 = .ok (.invokevirtual 27, 3) := by decide +kernel
theorem dL_law_204 : decode cL_law 204 = .ok (.if_icmp .eq 245, 3) := by decide +kernel
theorem dL_law_207 : decode cL_law 207 = .ok (.iconst 0, 1) := by decide +kernel
theorem dL_law_208 : decode cL_law 208 = .ok (.ireturn, 1) := by decide +kernel
theorem dL_law_209 : decode cL_law 209 = .ok (.aload_n 1, 1) := by decide +kernel
theorem dL_law_210 : decode cL_law 210 = .ok (.aload_n 0, 1) := by decide +kernel
theorem dL_law_211 : decode cL_law 211 = .ok (.iload_n 3, 1) := by decide +kernel
theorem dL_law_212 : decode cL_law 212 = .ok (.iconst 1, 1) := by decide +kernel
theorem dL_law_213 : decode cL_law 213 = .ok (.iadd, 1) := by decide +kernel
theorem dL_law_214 : decode cL_law 214 = .ok (.iaload, 1) := by decide +kernel
theorem dL_law_215 : decode cL_law 215 = .ok (.invokevirtual 28, 3) := by decide +kernel
theorem dL_law_218 : decode cL_law 218 = .ok (.aload_n 2, 1) := by decide +kernel
theorem dL_law_219 : decode cL_law 219 = .ok (.aload_n 0, 1) := by decide +kernel
theorem dL_law_220 : decode cL_law 220 = .ok (.iload_n 3, 1) := by decide +kernel
theorem dL_law_221 : decode cL_law 221 = .ok (.iconst 1, 1) := by decide +kernel
theorem dL_law_222 : decode cL_law 222 = .ok (.iadd, 1) := by decide +kernel
theorem dL_law_223 : decode cL_law 223 = .ok (.iaload, 1) := by decide +kernel
theorem dL_law_224 : decode cL_law 224 = .ok (.invokevirtual 31, 3) := by decide +kernel
theorem dL_law_227 : decode cL_law 227 = .ok (.if_icmp .eq 222, 3) := by decide +kernel
theorem dL_law_230 : decode cL_law 230 = .ok (.iconst 0, 1) := by decide +kernel
theorem dL_law_231 : decode cL_law 231 = .ok (.ireturn, 1) := by decide +kernel
theorem dL_law_232 : decode cL_law 232 = .ok (.aload_n 1, 1) := by decide +kernel
theorem dL_law_233 : decode cL_law 233 = .ok (.aload_n 0, 1) := by decide +kernel
theorem dL_law_234 : decode cL_law 234 = .ok (.iload_n 3, 1) := by decide +kernel
theorem dL_law_235 : decode cL_law 235 = .ok (.iconst 1, 1) := by decide +kernel
theorem dL_law_236 : decode cL_law 236 = .ok (.iadd, 1) := by decide +kernel
theorem dL_law_237 : decode cL_law 237 = .ok (.iaload, 1) := by decide +kernel
theorem dL_law_238 : decode cL_law 238 = .ok (.invokevirtual 32, 3) := by decide +kernel
theorem dL_law_241 : decode cL_law 241 = .ok (.aload_n 2, 1) := by decide +kernel
theorem dL_law_242 : decode cL_law 242 = .ok (.aload_n 0, 1) := by decide +kernel
theorem dL_law_243 : decode cL_law 243 = .ok (.iload_n 3, 1) := by decide +kernel
theorem dL_law_244 : decode cL_law 244 = .ok (.iconst 1, 1) := by decide +kernel
theorem dL_law_245 : decode cL_law 245 = .ok (.iadd, 1) := by decide +kernel
theorem dL_law_246 : decode cL_law 246 = .ok (.iaload, 1) := by decide +kernel
theorem dL_law_247 : decode cL_law 247 = .ok (.invokevirtual 35, 3) := by decide +kernel
theorem dL_law_250 : decode cL_law 250 = .ok (.if_icmp .eq 199, 3) := by decide +kernel
theorem dL_law_253 : decode cL_law 253 = .ok (.iconst 0, 1) := by decide +kernel
theorem dL_law_254 : decode cL_law 254 = .ok (.ireturn, 1) := by decide +kernel
theorem dL_law_255 : decode cL_law 255 = .ok (.aload_n 1, 1) := by decide +kernel
theorem dL_law_256 : decode cL_law 256 = .ok (.aload_n 0, 1) := by decide +kernel
theorem dL_law_257 : decode cL_law 257 = .ok (.iload_n 3, 1) := by decide +kernel
theorem dL_law_258 : decode cL_law 258 = .ok (.iconst 1, 1) := by decide +kernel
theorem dL_law_259 : decode cL_law 259 = .ok (.iadd, 1) := by decide +kernel
theorem dL_law_260 : decode cL_law 260 = .ok (.iaload, 1) := by decide +kernel
theorem dL_law_261 : decode cL_law 261 = .ok (.invokevirtual 36, 3) := by decide +kernel
theorem dL_law_264 : decode cL_law 264 = .ok (.aload_n 2, 1) := by decide +kernel
theorem dL_law_265 : decode cL_law 265 = .ok (.aload_n 0, 1) := by decide +kernel
theorem dL_law_266 : decode cL_law 266 = .ok (.iload_n 3, 1) := by decide +kernel
theorem dL_law_267 : decode cL_law 267 = .ok (.iconst 1, 1) := by decide +kernel
theorem dL_law_268 : decode cL_law 268 = .ok (.iadd, 1) := by decide +kernel
theorem dL_law_269 : decode cL_law 269 = .ok (.iaload, 1) := by decide +kernel
theorem dL_law_270 : decode cL_law 270 = .ok (.invokevirtual 39, 3) := by decide +kernel
theorem dL_law_273 : decode cL_law 273 = .ok (.if_icmp .eq 176, 3) := by decide +kernel
theorem dL_law_276 : decode cL_law 276 = .ok (.iconst 0, 1) := by decide +kernel
theorem dL_law_277 : decode cL_law 277 = .ok (.ireturn, 1) := by decide +kernel
theorem dL_law_278 : decode cL_law 278 = .ok (.aload_n 1, 1) := by decide +kernel
theorem dL_law_279 : decode cL_law 279 = .ok (.aload_n 0, 1) := by decide +kernel
theorem dL_law_280 : decode cL_law 280 = .ok (.iload_n 3, 1) := by decide +kernel
theorem dL_law_281 : decode cL_law 281 = .ok (.iconst 1, 1) := by decide +kernel
theorem dL_law_282 : decode cL_law 282 = .ok (.iadd, 1) := by decide +kernel
theorem dL_law_283 : decode cL_law 283 = .ok (.iaload, 1) := by decide +kernel
theorem dL_law_284 : decode cL_law 284 = .ok (.invokevirtual 40, 3) := by decide +kernel
theorem dL_law_287 : decode cL_law 287 = .ok (.aload_n 2, 1) := by decide +kernel
theorem dL_law_288 : decode cL_law 288 = .ok (.aload_n 0, 1) := by decide +kernel
theorem dL_law_289 : decode cL_law 289 = .ok (.iload_n 3, 1) := by decide +kernel
theorem dL_law_290 : decode cL_law 290 = .ok (.iconst 1, 1) := by decide +kernel
theorem dL_law_291 : decode cL_law 291 = .ok (.iadd, 1) := by decide +kernel
theorem dL_law_292 : decode cL_law 292 = .ok (.iaload, 1) := by decide +kernel
theorem dL_law_293 : decode cL_law 293 = .ok (.invokevirtual 43, 3) := by decide +kernel
theorem dL_law_296 : decode cL_law 296 = .ok (.if_icmp .eq 153, 3) := by decide +kernel
theorem dL_law_299 : decode cL_law 299 = .ok (.iconst 0, 1) := by decide +kernel
theorem dL_law_300 : decode cL_law 300 = .ok (.ireturn, 1) := by decide +kernel
theorem dL_law_301 : decode cL_law 301 = .ok (.aload_n 1, 1) := by decide +kernel
theorem dL_law_302 : decode cL_law 302 = .ok (.aload_n 0, 1) := by decide +kernel
theorem dL_law_303 : decode cL_law 303 = .ok (.iload_n 3, 1) := by decide +kernel
theorem dL_law_304 : decode cL_law 304 = .ok (.iconst 1, 1) := by decide +kernel
theorem dL_law_305 : decode cL_law 305 = .ok (.iadd, 1) := by decide +kernel
theorem dL_law_306 : decode cL_law 306 = .ok (.iaload, 1) := by decide +kernel
theorem dL_law_307 : decode cL_law 307 = .ok (.invokevirtual 44, 3) := by decide +kernel
theorem dL_law_310 : decode cL_law 310 = .ok (.aload_n 2, 1) := by decide +kernel
theorem dL_law_311 : decode cL_law 311 = .ok (.aload_n 0, 1) := by decide +kernel
theorem dL_law_312 : decode cL_law 312 = .ok (.iload_n 3, 1) := by decide +kernel
theorem dL_law_313 : decode cL_law 313 = .ok (.iconst 1, 1) := by decide +kernel
theorem dL_law_314 : decode cL_law 314 = .ok (.iadd, 1) := by decide +kernel
theorem dL_law_315 : decode cL_law 315 = .ok (.iaload, 1) := by decide +kernel
theorem dL_law_316 : decode cL_law 316 = .ok (.invokevirtual 47, 3) := by decide +kernel
theorem dL_law_319 : decode cL_law 319 = .ok (.if_icmp .eq 130, 3) := by decide +kernel
theorem dL_law_322 : decode cL_law 322 = .ok (.iconst 0, 1) := by decide +kernel
theorem dL_law_323 : decode cL_law 323 = .ok (.ireturn, 1) := by decide +kernel
theorem dL_law_324 : decode cL_law 324 = .ok (.aload_n 1, 1) := by decide +kernel
theorem dL_law_325 : decode cL_law 325 = .ok (.aload_n 0, 1) := by decide +kernel
theorem dL_law_326 : decode cL_law 326 = .ok (.iload_n 3, 1) := by decide +kernel
theorem dL_law_327 : decode cL_law 327 = .ok (.iconst 1, 1) := by decide +kernel
theorem dL_law_328 : decode cL_law 328 = .ok (.iadd, 1) := by decide +kernel
theorem dL_law_329 : decode cL_law 329 = .ok (.iaload, 1) := by decide +kernel
theorem dL_law_330 : decode cL_law 330 = .ok (.invokevirtual 48, 3) := by decide +kernel
theorem dL_law_333 : decode cL_law 333 = .ok (.aload_n 2, 1) := by decide +kernel
theorem dL_law_334 : decode cL_law 334 = .ok (.aload_n 0, 1) := by decide +kernel
theorem dL_law_335 : decode cL_law 335 = .ok (.iload_n 3, 1) := by decide +kernel
theorem dL_law_336 : decode cL_law 336 = .ok (.iconst 1, 1) := by decide +kernel
theorem dL_law_337 : decode cL_law 337 = .ok (.iadd, 1) := by decide +kernel
theorem dL_law_338 : decode cL_law 338 = .ok (.iaload, 1) := by decide +kernel
theorem dL_law_339 : decode cL_law 339 = .ok (.invokevirtual 51, 3) := by decide +kernel
theorem dL_law_342 : decode cL_law 342 = .ok (.if_icmp .eq 107, 3) := by decide +kernel
theorem dL_law_345 : decode cL_law 345 = .ok (.iconst 0, 1) := by decide +kernel
theorem dL_law_346 : decode cL_law 346 = .ok (.ireturn, 1) := by decide +kernel
theorem dL_law_347 : decode cL_law 347 = .ok (.aload_n 1, 1) := by decide +kernel
theorem dL_law_348 : decode cL_law 348 = .ok (.aload_n 0, 1) := by decide +kernel
theorem dL_law_349 : decode cL_law 349 = .ok (.iload_n 3, 1) := by decide +kernel
theorem dL_law_350 : decode cL_law 350 = .ok (.iconst 1, 1) := by decide +kernel
theorem dL_law_351 : decode cL_law 351 = .ok (.iadd, 1) := by decide +kernel
theorem dL_law_352 : decode cL_law 352 = .ok (.iaload, 1) := by decide +kernel
theorem dL_law_353 : decode cL_law 353 = .ok (.invokevirtual 52, 3) := by decide +kernel
theorem dL_law_356 : decode cL_law 356 = .ok (.aload_n 2, 1) := by decide +kernel
theorem dL_law_357 : decode cL_law 357 = .ok (.aload_n 0, 1) := by decide +kernel
theorem dL_law_358 : decode cL_law 358 = .ok (.iload_n 3, 1) := by decide +kernel
theorem dL_law_359 : decode cL_law 359 = .ok (.iconst 1, 1) := by decide +kernel
theorem dL_law_360 : decode cL_law 360 = .ok (.iadd, 1) := by decide +kernel
theorem dL_law_361 : decode cL_law 361 = .ok (.iaload, 1) := by decide +kernel
theorem dL_law_362 : decode cL_law 362 = .ok (.invokevirtual 55, 3) := by decide +kernel
theorem dL_law_365 : decode cL_law 365 = .ok (.if_icmp .eq 84, 3) := by decide +kernel
theorem dL_law_368 : decode cL_law 368 = .ok (.iconst 0, 1) := by decide +kernel
theorem dL_law_369 : decode cL_law 369 = .ok (.ireturn, 1) := by decide +kernel
theorem dL_law_370 : decode cL_law 370 = .ok (.aload_n 1, 1) := by decide +kernel
theorem dL_law_371 : decode cL_law 371 = .ok (.aload_n 0, 1) := by decide +kernel
theorem dL_law_372 : decode cL_law 372 = .ok (.iload_n 3, 1) := by decide +kernel
theorem dL_law_373 : decode cL_law 373 = .ok (.iconst 1, 1) := by decide +kernel
theorem dL_law_374 : decode cL_law 374 = .ok (.iadd, 1) := by decide +kernel
theorem dL_law_375 : decode cL_law 375 = .ok (.iaload, 1) := by decide +kernel
theorem dL_law_376 : decode cL_law 376 = .ok (.aload_n 0, 1) := by decide +kernel
theorem dL_law_377 : decode cL_law 377 = .ok (.iload_n 3, 1) := by decide +kernel
theorem dL_law_378 : decode cL_law 378 = .ok (.iconst 2, 1) := by decide +kernel
theorem dL_law_379 : decode cL_law 379 = .ok (.iadd, 1) := by decide +kernel
theorem dL_law_380 : decode cL_law 380 = .ok (.iaload, 1) := by decide +kernel
theorem dL_law_381 : decode cL_law 381 = .ok (.invokevirtual 56, 3) := by decide +kernel
theorem dL_law_384 : decode cL_law 384 = .ok (.aload_n 2, 1) := by decide +kernel
theorem dL_law_385 : decode cL_law 385 = .ok (.aload_n 0, 1) := by decide +kernel
theorem dL_law_386 : decode cL_law 386 = .ok (.iload_n 3, 1) := by decide +kernel
theorem dL_law_387 : decode cL_law 387 = .ok (.iconst 1, 1) := by decide +kernel
theorem dL_law_388 : decode cL_law 388 = .ok (.iadd, 1) := by decide +kernel
theorem dL_law_389 : decode cL_law 389 = .ok (.iaload, 1) := by decide +kernel
theorem dL_law_390 : decode cL_law 390 = .ok (.aload_n 0, 1) := by decide +kernel
theorem dL_law_391 : decode cL_law 391 = .ok (.iload_n 3, 1) := by decide +kernel
theorem dL_law_392 : decode cL_law 392 = .ok (.iconst 2, 1) := by decide +kernel
theorem dL_law_393 : decode cL_law 393 = .ok (.iadd, 1) := by decide +kernel
theorem dL_law_394 : decode cL_law 394 = .ok (.iaload, 1) := by decide +kernel
theorem dL_law_395 : decode cL_law 395 = .ok (.invokevirtual 60, 3) := by decide +kernel
theorem dL_law_398 : decode cL_law 398 = .ok (.if_icmp .eq 51, 3) := by decide +kernel
theorem dL_law_401 : decode cL_law 401 = .ok (.iconst 0, 1) := by decide +kernel
theorem dL_law_402 : decode cL_law 402 = .ok (.ireturn, 1) := by decide +kernel
theorem dL_law_403 : decode cL_law 403 = .ok (.aload_n 1, 1) := by decide +kernel
theorem dL_law_404 : decode cL_law 404 = .ok (.aload_n 0, 1) := by decide +kernel
theorem dL_law_405 : decode cL_law 405 = .ok (.iload_n 3, 1) := by decide +kernel
theorem dL_law_406 : decode cL_law 406 = .ok (.iconst 1, 1) := by decide +kernel
theorem dL_law_407 : decode cL_law 407 = .ok (.iadd, 1) := by decide +kernel
theorem dL_law_408 : decode cL_law 408 = .ok (.iaload, 1) := by decide +kernel
theorem dL_law_409 : decode cL_law 409 = .ok (.invokevirtual 61, 3) := by decide +kernel
theorem dL_law_412 : decode cL_law 412 = .ok (.aload_n 2, 1) := by decide +kernel
theorem dL_law_413 : decode cL_law 413 = .ok (.aload_n 0, 1) := by decide +kernel
theorem dL_law_414 : decode cL_law 414 = .ok (.iload_n 3, 1) := by decide +kernel
theorem dL_law_415 : decode cL_law 415 = .ok (.iconst 1, 1) := by decide +kernel
theorem dL_law_416 : decode cL_law 416 = .ok (.iadd, 1) := by decide +kernel
theorem dL_law_417 : decode cL_law 417 = .ok (.iaload, 1) := by decide +kernel
theorem dL_law_418 : decode cL_law 418 = .ok (.invokevirtual 64, 3) := by decide +kernel
theorem dL_law_421 : decode cL_law 421 = .ok (.if_icmp .eq 28, 3) := by decide +kernel
theorem dL_law_424 : decode cL_law 424 = .ok (.iconst 0, 1) := by decide +kernel
theorem dL_law_425 : decode cL_law 425 = .ok (.ireturn, 1) := by decide +kernel
theorem dL_law_426 : decode cL_law 426 = .ok (.aload_n 1, 1) := by decide +kernel
theorem dL_law_427 : decode cL_law 427 = .ok (.aload_n 0, 1) := by decide +kernel
theorem dL_law_428 : decode cL_law 428 = .ok (.iload_n 3, 1) := by decide +kernel
theorem dL_law_429 : decode cL_law 429 = .ok (.iconst 1, 1) := by decide +kernel
theorem dL_law_430 : decode cL_law 430 = .ok (.iadd, 1) := by decide +kernel
theorem dL_law_431 : decode cL_law 431 = .ok (.iaload, 1) := by decide +kernel
theorem dL_law_432 : decode cL_law 432 = .ok (.invokevirtual 65, 3) := by decide +kernel
theorem dL_law_435 : decode cL_law 435 = .ok (.aload_n 2, 1) := by decide +kernel
theorem dL_law_436 : decode cL_law 436 = .ok (.aload_n 0, 1) := by decide +kernel
theorem dL_law_437 : decode cL_law 437 = .ok (.iload_n 3, 1) := by decide +kernel
theorem dL_law_438 : decode cL_law 438 = .ok (.iconst 1, 1) := by decide +kernel
theorem dL_law_439 : decode cL_law 439 = .ok (.iadd, 1) := by decide +kernel
theorem dL_law_440 : decode cL_law 440 = .ok (.iaload, 1) := by decide +kernel
theorem dL_law_441 : decode cL_law 441 = .ok (.invokevirtual 68, 3) := by decide +kernel
theorem dL_law_444 : decode cL_law 444 = .ok (.if_icmp .eq 5, 3) := by decide +kernel
theorem dL_law_447 : decode cL_law 447 = .ok (.iconst 0, 1) := by decide +kernel
theorem dL_law_448 : decode cL_law 448 = .ok (.ireturn, 1) := by decide +kernel
theorem dL_law_449 : decode cL_law 449 = .ok (.iinc 3 6, 3) := by decide +kernel
theorem dL_law_452 : decode cL_law 452 = .ok (.goto (-434), 3) := by decide +kernel
theorem dL_law_455 : decode cL_law 455 = .ok (.iconst 1, 1) := by decide +kernel
theorem dL_law_456 : decode cL_law 456 = .ok (.ireturn, 1) := by decide +kernel
end
section
/-! general rows: a context, fields, arrays, stores that change nothing, calls that keep the world -/
theorem set_id {α : Type} {l : List α} {i : Nat} {x : α} (h : l[i]? = some x) : l.set i x = l := by
  have hl := (List.getElem?_eq_some_iff.mp h).1
  apply List.ext_getElem?
  intro j
  by_cases hj : j = i
  · subst hj
    rw [List.getElem?_set_self hl, h]
  · rw [List.getElem?_set_ne (Ne.symm hj)]
theorem upd_id {f : Nat → Int32} {k : Nat} {x : Int32} (h : f k = x) : upd f k x = f := by
  funext j
  unfold upd
  by_cases hj : j = k
  · rw [if_pos hj, hj, h]
  · rw [if_neg hj]
theorem updL_id {f : Nat → Int64} {k : Nat} {x : Int64} (h : f k = x) : vp_updL f k x = f := by
  funext j
  unfold vp_updL
  by_cases hj : j = k
  · rw [if_pos hj, hj, h]
  · rw [if_neg hj]
theorem cpy_id {f g : Nat → Int32} {sp dp n : Nat} (h : ∀ i, i < n → f (sp + i) = g (dp + i)) : va_cpy f g sp dp n = g := by
  funext j
  unfold va_cpy
  by_cases hj : dp ≤ j ∧ j < dp + n
  · rw [if_pos hj, h (j - dp) (by omega)]
    congr 1
    omega
  · rw [if_neg hj]
abbrev tys1 (t : Nat → ClassId) : List (ClassId × FieldType) := [(t 0, .byte), (t 1, .int), (t 2, .long), (t 3, .boolean), (t 4, .object "ShareHouse$Change"), (t 5, .object "ShareHouse$Conn"), (t 6, .object "ShareHouse$Node")]
def FX (p : Program) (m : MethodId) (c : Code) (cc : ByteArray) (nL : Nat) (s : State) (args : Array Value) (own : String) (D : va_G) (t : Nat → ClassId) : Prop := (p.tables.exec = Jvm.exec ∧ c.code = cc ∧ c.maxLocals = nL ∧ s.vm.findClass own = some m.cls ∧ ∀ w ∈ big, w.before args s = true) ∧ va_K D cl1 (tys1 t) s
def CI (ci : Nat) (C : String) (T : u_T) (N : Nat) (ty : Nat → FieldType) : Prop := cl1[ci]? = some (C, T, N) ∧ (∀ w ∈ u_ws C T N, w ∈ big) ∧ (∀ k, k < N → parseFieldDescriptor (T k).2.2.1 = some (ty k)) ∧ ∀ a, a < N → ∀ b, b < N → a ≠ b → (T a).2.1 ≠ (T b).2.1
theorem ci_X12 : CI 0 RX12 TX12 120 tyX12 := ⟨rfl, lay_X12, tyX12_ok, nmX12⟩
theorem ci_X11 : CI 1 RX11 TX11 18 tyX11 := ⟨rfl, lay_X11, tyX11_ok, nmX11⟩
theorem ci_X6 : CI 2 RX6 TX6 2 tyX6 := ⟨rfl, lay_X6, tyX6_ok, nmX6⟩
theorem ci_X2 : CI 3 RX2 TX2 15 tyX2 := ⟨rfl, lay_X2, tyX2_ok, nmX2⟩
theorem ci_X1 : CI 4 RX1 TX1 15 tyX1 := ⟨rfl, lay_X1, tyX1_ok, nmX1⟩
theorem ci_X4 : CI 5 RX4 TX4 14 tyX4 := ⟨rfl, lay_X4, tyX4_ok, nmX4⟩
theorem ci_X9 : CI 6 RX9 TX9 2 tyX9 := ⟨rfl, lay_X9, tyX9_ok, nmX9⟩
theorem ci_Jx4a65c : CI 7 RJx4a65c TJx4a65c 3 tyJx4a65c := ⟨rfl, lay_Jx4a65c, tyJx4a65c_ok, nmJx4a65c⟩
def FL (own : String) (index : Nat) (T : u_T) (N k : Nat) : Prop := k < N ∧ Cond.fieldLink own index (T k).1 (T k).2.1 (T k).2.2.1 ∈ big
/-- a method's start: the world ws, the classes, the heap's size -/
def PC (D : va_G) (t : Nat → ClassId) (ws : va_W) (sz : Nat) (av : List Value) : Array Value → State → Prop := va_Pc av (fun U => U.heap.size = sz ∧ va_P D cl1 ws U.heap ∧ va_K D cl1 (tys1 t) U ∧ va_D (fun _ => True) ws)
theorem gw {ws : List Cond} (h : ∀ w ∈ ws, w ∈ big) : GoodIn big ws := fun w hw => ⟨h w hw, good_of_word (big_good w (h w hw))⟩
def MV (own : String) (index : Nat) (C : String) (y : MethodName) (bytes : ByteArray) (maxL : Nat) (ret : Option FieldType) (n : Nat) : Prop :=
  (Cond.methodLink own index y ∈ big ∧ Cond.instanceMethod y ∈ big ∧ Cond.selects C y y ∈ big ∧ Cond.initialized C ∈ big ∧ Cond.code y bytes maxL ret ∈ big) ∧ y.cls = C ∧ y.cls ≠ "java/lang/invoke/MethodHandle" ∧ y.cls ≠ "java/lang/invoke/VarHandle" ∧ (parseMethodDescriptor y.desc).map (fun d => d.parameters.length) = some n
def MS (own : String) (index : Nat) (y : MethodName) (bytes : ByteArray) (maxL : Nat) (ret : Option FieldType) (n : Nat) : Prop :=
  (Cond.methodLink own index y ∈ big ∧ Cond.static y ∈ big ∧ Cond.initialized y.cls ∈ big ∧ Cond.code y bytes maxL ret ∈ big) ∧ y.cls ≠ "java/lang/invoke/MethodHandle" ∧ y.cls ≠ "java/lang/invoke/VarHandle" ∧ (parseMethodDescriptor y.desc).map (fun d => d.parameters.length) = some n
def MI (own : String) (index : Nat) (y : MethodName) (bytes : ByteArray) (maxL : Nat) (n : Nat) : Prop :=
  (Cond.methodLink own index y ∈ big ∧ Cond.instanceMethod y ∈ big ∧ Cond.initialized y.cls ∈ big ∧ Cond.code y bytes maxL none ∈ big) ∧ y.name = "<init>" ∧ y.cls ≠ "java/lang/invoke/MethodHandle" ∧ y.cls ≠ "java/lang/invoke/VarHandle" ∧ (parseMethodDescriptor y.desc).map (fun d => d.parameters.length) = some n
section H3
variable {p : Program} {l : Launch} {e : Env} {R : Room} {s : State} {m : MethodId} {args : Array Value} {below : List Frame} {meth : Method} {c : Code} {H : Heap} {locs : List Loc} {cells slots : Nat} {Q : State → Prop} {cc : ByteArray} {pc : Nat} {ls : Array Slot} {rest : List Value} {D : va_G} {t : Nat → ClassId} {A : Nat → Prop} {H0 : Heap} {ws : va_W} {own : String} {nL : Nat}
theorem PC_blind {sz : Nat} {av : List Value} : FrameBlind (PC D t ws sz av) := fun a U g mk q => by
  obtain ⟨q0, q1, qP, qK, qD⟩ := q
  exact ⟨q0, q1, qP, va_K.moved (u := U) (U := U.calling g mk a) (Vm.Alike.refl U.vm) qK, qD⟩
theorem PC_at {av : List Value} (hP : va_P D cl1 ws H) (hD : va_D A ws) (hK : va_K D cl1 (tys1 t) s) : ∀ U : State, U.heap = H → s.WarmedH U.vm → PC D t ws H.size av av.toArray U :=
  fun U hU hW => ⟨rfl, by rw [hU], by rw [hU]; exact hP, va_K.moved hW.alike hK, hD.weaken (fun _ _ _ _ => trivial)⟩
/-- the walk of a method from its entry -/
theorem go {y : MethodName} {maxL : Nat} {ret : Option FieldType} {rm : Room} {sz : Nat} {av : List Value} {Qc : Array Value → State → Outcome → State → Prop} {mc ms : Nat} {free : Addr → Prop} (hy : plainName y.cls = true) (hav : (lg_sl av).length ≤ maxL)
    (body : ∀ (p : Program) (e : Env) (s : State) (m : MethodId) (below : List Frame) (meth : Method) (c : Code) (ls : Array Slot) (A : Nat → Prop), FX p m c cc maxL s av.toArray y.cls D t → meth.sig.returnType = ret → meth.locks = false → meth.name = y.name → sz = s.heap.size → (va_A ws sz = A) → va_P D cl1 ws s.heap → va_D A ws → va_S A s.heap s.heap [] → (∀ q, s.heap.size ≤ q → A q) → lv_has ls maxL (lv_args 0 av) →
      W p l e rm s m av.toArray below meth c s.heap [] 0 0 (MQ below Qc av.toArray s mc ms free) (F0 m 0 ls [])) : Met l y (Cond.code y cc maxL ret :: big) rm (PC D t ws sz av) Qc mc ms free := by
  refine Met.ofW (cc := cc) (maxL := maxL) (ret := ret) hy rfl ?_
  intro p e s m args below meth c s₁ B hml hv
  obtain ⟨rfl, hsz, hP, hK, hD0⟩ := hv
  have hts := atoms_spec (ws := Cond.code y cc maxL ret :: big) B.pre
  have hown : s.vm.findClass y.cls = some m.cls := findClass_of_methodNamed B.named
  have hin : meth.name = y.name := (name_of_methodNamed B.named B.method).1
  rw [lg_entry_eq]
  have hl := lv_entry av (n := maxL) hav
  generalize (lg_sl av ++ List.replicate (maxL - (lg_sl av).length) Slot.unset).toArray = ls at hl ⊢
  exact body p e s m below meth c ls (va_A ws sz) ⟨⟨B.exec, B.bytes, hml, hown, fun w hw => hts w (List.mem_cons_of_mem _ hw)⟩, hK⟩ B.returns B.notSynchronized hin hsz.symm rfl hP hD0.self va_S.rf (fun q h => Or.inr (by rw [← hsz]; exact h)) hl
theorem r_get {ci : Nat} {C : String} {T : u_T} {N : Nat} {ty : Nat → FieldType} {index k q0 a : Nat} {fs : List Value} {v : Value} (hF : FX p m c cc nL s args own D t) (hC : CI ci C T N ty) (hL : FL own index T N k) (hdg : decode cc pc = .ok (.getfield index, 3)) (hP : va_P D cl1 ws H) (he : ws[q0]? = some (a, .inr (ci, fs))) (hv : fs[k]? = some v)
    (kk : W p l e R s m args below meth c H locs cells slots Q (F0 m (pc + 3) ls (v :: rest))) : W p l e R s m args below meth c H locs cells slots Q (F0 m pc ls (.ref a :: rest)) :=
  va_get hF.1.1 hF.1.2.1 hF.1.2.2.2.2 hC.2.1 hF.1.2.2.2.1 hF.2 hP q0 he hC.1 k hL.1 (hF.1.2.2.2.2 _ hL.2) (fun _ h => h) hv hdg kk
theorem r_put {ci : Nat} {C : String} {T : u_T} {N : Nat} {ty : Nat → FieldType} {index k q0 a : Nat} {fs : List Value} {v : Value} (hF : FX p m c cc nL s args own D t) (hC : CI ci C T N ty) (hL : FL own index T N k) (hdg : decode cc pc = .ok (.putfield index, 3)) (hP : va_P D cl1 ws H) (hD : va_D A ws) (hS : va_S A H0 H locs) (he : ws[q0]? = some (a, .inr (ci, fs))) (hfin : (T k).2.2.2 = false) (hn : narrow (ty k) v = v) (hfit : fits (ty k) v = true) (hl : k < fs.length)
    (kk : ∀ (H1 : Heap) (locs1 : List Loc), va_P D cl1 (ws.set q0 (a, .inr (ci, fs.set k v))) H1 → va_D A (ws.set q0 (a, .inr (ci, fs.set k v))) → va_S A H0 H1 locs1 → W p l e R s m args below meth c H1 locs1 cells slots Q (F0 m (pc + 3) ls rest)) : W p l e R s m args below meth c H locs cells slots Q (F0 m pc ls (v :: .ref a :: rest)) :=
  va_put hF.1.1 hF.1.2.1 hF.1.2.2.2.2 hC.2.1 ty hC.2.2.1 hC.2.2.2 hF.1.2.2.2.1 hF.2 hP hD hS q0 he hC.1 k hL.1 (hF.1.2.2.2.2 _ hL.2) (fun _ h => h) hfin (hC.2.2.1 k hL.1) hn hfit hl hdg kk
theorem r_putF {ci : Nat} {T : u_T} {N : Nat} {ty : Nat → FieldType} {index k q0 a : Nat} {fs : List Value} {v : Value} (hF : FX p m c cc nL s args own D t) (hC : CI ci own T N ty) (hL : FL own index T N k) (hdg : decode cc pc = .ok (.putfield index, 3)) (hP : va_P D cl1 ws H) (hD : va_D A ws) (hS : va_S A H0 H locs) (he : ws[q0]? = some (a, .inr (ci, fs))) (hin : meth.name = "<init>") (hfin : (T k).2.2.2 = true) (hdc : (T k).1 = own) (hn : narrow (ty k) v = v) (hfit : fits (ty k) v = true) (hl : k < fs.length)
    (kk : ∀ (H1 : Heap) (locs1 : List Loc), va_P D cl1 (ws.set q0 (a, .inr (ci, fs.set k v))) H1 → va_D A (ws.set q0 (a, .inr (ci, fs.set k v))) → va_S A H0 H1 locs1 → W p l e R s m args below meth c H1 locs1 cells slots Q (F0 m (pc + 3) ls rest)) : W p l e R s m args below meth c H locs cells slots Q (F0 m pc ls (v :: .ref a :: rest)) :=
  va_putF hF.1.1 hF.1.2.1 hF.1.2.2.2.2 hC.2.1 ty hC.2.2.1 hC.2.2.2 hF.1.2.2.2.1 hF.2 hP hD hS q0 he hC.1 k hL.1 (hF.1.2.2.2.2 _ hL.2) (fun _ h => h) hfin hin hdc (hC.2.2.1 k hL.1) hn hfit hl hdg kk
/-- a field gets what it has -/
theorem r_put0 {ci : Nat} {C : String} {T : u_T} {N : Nat} {ty : Nat → FieldType} {index k q0 a : Nat} {fs : List Value} {v : Value} (hF : FX p m c cc nL s args own D t) (hC : CI ci C T N ty) (hL : FL own index T N k) (hdg : decode cc pc = .ok (.putfield index, 3)) (hP : va_P D cl1 ws H) (hD : va_D A ws) (hS : va_S A H0 H locs) (he : ws[q0]? = some (a, .inr (ci, fs))) (hv : fs[k]? = some v) (hfin : (T k).2.2.2 = false) (hn : narrow (ty k) v = v) (hfit : fits (ty k) v = true)
    (kk : ∀ (H1 : Heap) (locs1 : List Loc), va_P D cl1 ws H1 → va_S A H0 H1 locs1 → W p l e R s m args below meth c H1 locs1 cells slots Q (F0 m (pc + 3) ls rest)) : W p l e R s m args below meth c H locs cells slots Q (F0 m pc ls (v :: .ref a :: rest)) :=
  r_put hF hC hL hdg hP hD hS he hfin hn hfit (List.getElem?_eq_some_iff.mp hv).1 (fun H1 l1 h1 _ h3 => kk H1 l1 (by rw [set_id hv, set_id he] at h1; exact h1) h3)
theorem r_iald {q0 a n : Nat} {f : Nat → Int32} {i v : Int32} (hF : FX p m c cc nL s args own D t) (hdg : decode cc pc = .ok (.iaload, 1)) (hP : va_P D cl1 ws H) (he : ws[q0]? = some (a, .inl (t 1, n, .inl f))) (hin : vp_in i n) (hv : f i.toNatClampNeg = v) (kk : W p l e R s m args below meth c H locs cells slots Q (F0 m (pc + 1) ls (.int v :: rest))) : W p l e R s m args below meth c H locs cells slots Q (F0 m pc ls (.int i :: .ref a :: rest)) :=
  va_iald hF.1.1 hF.1.2.1 hF.2 hP q0 1 he rfl hin hdg (by rw [hv]; exact kk)
theorem r_bald {q0 a n : Nat} {f : Nat → Int32} {i v : Int32} (hF : FX p m c cc nL s args own D t) (hdg : decode cc pc = .ok (.baload, 1)) (hP : va_P D cl1 ws H) (he : ws[q0]? = some (a, .inl (t 0, n, .inl f))) (hin : vp_in i n) (hv : f i.toNatClampNeg = v) (kk : W p l e R s m args below meth c H locs cells slots Q (F0 m (pc + 1) ls (.int v :: rest))) : W p l e R s m args below meth c H locs cells slots Q (F0 m pc ls (.int i :: .ref a :: rest)) :=
  va_bald hF.1.1 hF.1.2.1 hF.2 hP q0 0 he rfl hin hdg (by rw [hv]; exact kk)
theorem r_zald {q0 a n : Nat} {f : Nat → Int32} {i v : Int32} (hF : FX p m c cc nL s args own D t) (hdg : decode cc pc = .ok (.baload, 1)) (hP : va_P D cl1 ws H) (he : ws[q0]? = some (a, .inl (t 3, n, .inl f))) (hin : vp_in i n) (hv : f i.toNatClampNeg = v) (kk : W p l e R s m args below meth c H locs cells slots Q (F0 m (pc + 1) ls (.int v :: rest))) : W p l e R s m args below meth c H locs cells slots Q (F0 m pc ls (.int i :: .ref a :: rest)) :=
  va_zald hF.1.1 hF.1.2.1 hF.2 hP q0 3 he rfl hin hdg (by rw [hv]; exact kk)
theorem r_lald {q0 a n : Nat} {f : Nat → Int64} {i : Int32} {v : Int64} (hF : FX p m c cc nL s args own D t) (hdg : decode cc pc = .ok (.laload, 1)) (hP : va_P D cl1 ws H) (he : ws[q0]? = some (a, .inl (t 2, n, .inr (.inl f)))) (hin : vp_in i n) (hv : f i.toNatClampNeg = v) (kk : W p l e R s m args below meth c H locs cells slots Q (F0 m (pc + 1) ls (.long v :: rest))) : W p l e R s m args below meth c H locs cells slots Q (F0 m pc ls (.int i :: .ref a :: rest)) :=
  va_lald hF.1.1 hF.1.2.1 hF.2 hP q0 2 he rfl hin hdg (by rw [hv]; exact kk)
theorem r_iast {q0 a n : Nat} {f : Nat → Int32} {i x : Int32} (hF : FX p m c cc nL s args own D t) (hdg : decode cc pc = .ok (.iastore, 1)) (hP : va_P D cl1 ws H) (hD : va_D A ws) (hS : va_S A H0 H locs) (he : ws[q0]? = some (a, .inl (t 1, n, .inl f))) (hin : vp_in i n) (kk : ∀ (H1 : Heap) (locs1 : List Loc), va_P D cl1 (ws.set q0 (a, .inl (t 1, n, .inl (upd f i.toNatClampNeg x)))) H1 → va_D A (ws.set q0 (a, .inl (t 1, n, .inl (upd f i.toNatClampNeg x)))) → va_S A H0 H1 locs1 → W p l e R s m args below meth c H1 locs1 cells slots Q (F0 m (pc + 1) ls rest)) : W p l e R s m args below meth c H locs cells slots Q (F0 m pc ls (.int x :: .int i :: .ref a :: rest)) :=
  va_iast hF.1.1 hF.1.2.1 hF.2 hP hD hS q0 1 he rfl hin hdg kk
theorem r_bast {q0 a n : Nat} {f : Nat → Int32} {i x : Int32} (hF : FX p m c cc nL s args own D t) (hdg : decode cc pc = .ok (.bastore, 1)) (hP : va_P D cl1 ws H) (hD : va_D A ws) (hS : va_S A H0 H locs) (he : ws[q0]? = some (a, .inl (t 0, n, .inl f))) (hin : vp_in i n) (kk : ∀ (H1 : Heap) (locs1 : List Loc), va_P D cl1 (ws.set q0 (a, .inl (t 0, n, .inl (upd f i.toNatClampNeg (vp_nar .byte x))))) H1 → va_D A (ws.set q0 (a, .inl (t 0, n, .inl (upd f i.toNatClampNeg (vp_nar .byte x))))) → va_S A H0 H1 locs1 → W p l e R s m args below meth c H1 locs1 cells slots Q (F0 m (pc + 1) ls rest)) : W p l e R s m args below meth c H locs cells slots Q (F0 m pc ls (.int x :: .int i :: .ref a :: rest)) :=
  va_bast hF.1.1 hF.1.2.1 hF.2 hP hD hS q0 0 he rfl hin hdg kk
theorem r_zast {q0 a n : Nat} {f : Nat → Int32} {i x : Int32} (hF : FX p m c cc nL s args own D t) (hdg : decode cc pc = .ok (.bastore, 1)) (hP : va_P D cl1 ws H) (hD : va_D A ws) (hS : va_S A H0 H locs) (he : ws[q0]? = some (a, .inl (t 3, n, .inl f))) (hin : vp_in i n) (kk : ∀ (H1 : Heap) (locs1 : List Loc), va_P D cl1 (ws.set q0 (a, .inl (t 3, n, .inl (upd f i.toNatClampNeg (vp_nar .boolean x))))) H1 → va_D A (ws.set q0 (a, .inl (t 3, n, .inl (upd f i.toNatClampNeg (vp_nar .boolean x))))) → va_S A H0 H1 locs1 → W p l e R s m args below meth c H1 locs1 cells slots Q (F0 m (pc + 1) ls rest)) : W p l e R s m args below meth c H locs cells slots Q (F0 m pc ls (.int x :: .int i :: .ref a :: rest)) :=
  va_zast hF.1.1 hF.1.2.1 hF.2 hP hD hS q0 3 he rfl hin hdg kk
theorem r_last {q0 a n : Nat} {f : Nat → Int64} {i : Int32} {x : Int64} (hF : FX p m c cc nL s args own D t) (hdg : decode cc pc = .ok (.lastore, 1)) (hP : va_P D cl1 ws H) (hD : va_D A ws) (hS : va_S A H0 H locs) (he : ws[q0]? = some (a, .inl (t 2, n, .inr (.inl f)))) (hin : vp_in i n) (kk : ∀ (H1 : Heap) (locs1 : List Loc), va_P D cl1 (ws.set q0 (a, .inl (t 2, n, .inr (.inl (vp_updL f i.toNatClampNeg x))))) H1 → va_D A (ws.set q0 (a, .inl (t 2, n, .inr (.inl (vp_updL f i.toNatClampNeg x))))) → va_S A H0 H1 locs1 → W p l e R s m args below meth c H1 locs1 cells slots Q (F0 m (pc + 1) ls rest)) : W p l e R s m args below meth c H locs cells slots Q (F0 m pc ls (.long x :: .int i :: .ref a :: rest)) :=
  va_last hF.1.1 hF.1.2.1 hF.2 hP hD hS q0 2 he rfl hin hdg kk
/-- stores that change nothing -/
theorem r_iast0 {q0 a n : Nat} {f : Nat → Int32} {i x : Int32} (hF : FX p m c cc nL s args own D t) (hdg : decode cc pc = .ok (.iastore, 1)) (hP : va_P D cl1 ws H) (hD : va_D A ws) (hS : va_S A H0 H locs) (he : ws[q0]? = some (a, .inl (t 1, n, .inl f))) (hin : vp_in i n) (hv : f i.toNatClampNeg = x) (kk : ∀ (H1 : Heap) (locs1 : List Loc), va_P D cl1 ws H1 → va_S A H0 H1 locs1 → W p l e R s m args below meth c H1 locs1 cells slots Q (F0 m (pc + 1) ls rest)) : W p l e R s m args below meth c H locs cells slots Q (F0 m pc ls (.int x :: .int i :: .ref a :: rest)) :=
  r_iast hF hdg hP hD hS he hin (fun H1 l1 h1 _ h3 => kk H1 l1 (by rw [upd_id hv, set_id he] at h1; exact h1) h3)
theorem r_bast0 {q0 a n : Nat} {f : Nat → Int32} {i x : Int32} (hF : FX p m c cc nL s args own D t) (hdg : decode cc pc = .ok (.bastore, 1)) (hP : va_P D cl1 ws H) (hD : va_D A ws) (hS : va_S A H0 H locs) (he : ws[q0]? = some (a, .inl (t 0, n, .inl f))) (hin : vp_in i n) (hv : f i.toNatClampNeg = vp_nar .byte x) (kk : ∀ (H1 : Heap) (locs1 : List Loc), va_P D cl1 ws H1 → va_S A H0 H1 locs1 → W p l e R s m args below meth c H1 locs1 cells slots Q (F0 m (pc + 1) ls rest)) : W p l e R s m args below meth c H locs cells slots Q (F0 m pc ls (.int x :: .int i :: .ref a :: rest)) :=
  r_bast hF hdg hP hD hS he hin (fun H1 l1 h1 _ h3 => kk H1 l1 (by rw [upd_id hv, set_id he] at h1; exact h1) h3)
theorem r_zast0 {q0 a n : Nat} {f : Nat → Int32} {i x : Int32} (hF : FX p m c cc nL s args own D t) (hdg : decode cc pc = .ok (.bastore, 1)) (hP : va_P D cl1 ws H) (hD : va_D A ws) (hS : va_S A H0 H locs) (he : ws[q0]? = some (a, .inl (t 3, n, .inl f))) (hin : vp_in i n) (hv : f i.toNatClampNeg = vp_nar .boolean x) (kk : ∀ (H1 : Heap) (locs1 : List Loc), va_P D cl1 ws H1 → va_S A H0 H1 locs1 → W p l e R s m args below meth c H1 locs1 cells slots Q (F0 m (pc + 1) ls rest)) : W p l e R s m args below meth c H locs cells slots Q (F0 m pc ls (.int x :: .int i :: .ref a :: rest)) :=
  r_zast hF hdg hP hD hS he hin (fun H1 l1 h1 _ h3 => kk H1 l1 (by rw [upd_id hv, set_id he] at h1; exact h1) h3)
theorem r_last0 {q0 a n : Nat} {f : Nat → Int64} {i : Int32} {x : Int64} (hF : FX p m c cc nL s args own D t) (hdg : decode cc pc = .ok (.lastore, 1)) (hP : va_P D cl1 ws H) (hD : va_D A ws) (hS : va_S A H0 H locs) (he : ws[q0]? = some (a, .inl (t 2, n, .inr (.inl f)))) (hin : vp_in i n) (hv : f i.toNatClampNeg = x) (kk : ∀ (H1 : Heap) (locs1 : List Loc), va_P D cl1 ws H1 → va_S A H0 H1 locs1 → W p l e R s m args below meth c H1 locs1 cells slots Q (F0 m (pc + 1) ls rest)) : W p l e R s m args below meth c H locs cells slots Q (F0 m pc ls (.long x :: .int i :: .ref a :: rest)) :=
  r_last hF hdg hP hD hS he hin (fun H1 l1 h1 _ h3 => kk H1 l1 (by rw [updL_id hv, set_id he] at h1; exact h1) h3)
/-- the length of an array of a kind -/
theorem r_alen {q0 a t0 : Nat} {cA : ClassId} {ty : FieldType} {x : vp_A} {v : Int32} (hF : FX p m c cc nL s args own D t) (hdg : decode cc pc = .ok (.arraylength, 1)) (hP : va_P D cl1 ws H) (he : ws[q0]? = some (a, .inl (cA, x))) (ht : (tys1 t)[t0]? = some (cA, ty)) (hv : Int32.ofNat x.1 = v) (kk : W p l e R s m args below meth c H locs cells slots Q (F0 m (pc + 1) ls (.int v :: rest))) : W p l e R s m args below meth c H locs cells slots Q (F0 m pc ls (.ref a :: rest)) :=
  va_alen hF.1.1 hF.1.2.1 hF.2 hP q0 t0 he ht hv hdg kk
/-- a new array of numbers, of the class that the tables have -/
theorem r_newa {atype : ArrayType} {ty : FieldType} {t0 : Nat} {cB : ClassId} (hF : FX p m c cc nL s args own D t) (hdg : decode cc pc = .ok (.newarray atype, 2)) (hw : Cond.arrayClass (newarray.typeOf atype) ∈ big) (hty : newarray.typeOf atype = ty) (ht : (tys1 t)[t0]? = some (cB, ty)) (hprim : va_RA s cB ty → s.vm.findClass ("[" ++ ty.toString) = some cB) (hP : va_P D cl1 ws H) (hD : va_D A ws) (hS : va_S A H0 H locs) (hA : ∀ q, H0.size ≤ q → A q)
    {n : Int32} {N' : Nat} {a0 : vp_A} (ha : ∀ cA : ClassId, vp_cell cA a0 = arrV cA N' (fun _ => defaultValue ty)) (hn : ¬ n < 0) (hN : n.toNatClampNeg = N') (hbytes : N' * componentBytes ty ≤ 536870912) (hcells : cells + 1 ≤ R.cells) (hslots : slots + N' ≤ R.slots)
    (kk : ∀ (q : Nat) (H1 : Heap), va_P D cl1 (ws ++ [(q, .inl (cB, a0))]) H1 → va_D A (ws ++ [(q, .inl (cB, a0))]) → va_S A H0 H1 locs → W p l e R s m args below meth c H1 locs (cells + 1) (slots + N') Q (F0 m (pc + 2) ls (.ref q :: rest))) : W p l e R s m args below meth c H locs cells slots Q (F0 m pc ls (.int n :: rest)) := by
  refine va_newa hF.1.1 hF.1.2.1 (hF.1.2.2.2.2 _ hw) hty hF.2 hP hD hS hA ha hn hN hbytes hcells hslots hdg (fun q cA H1 hK1 hP1 hD1 hS1 => ?_)
  have h1 := hprim ((hF.2.2 t0 _ ht).2)
  have h2 := (hK1.2 (tys1 t).length (cA, ty) (List.getElem?_concat_length ..)).2
  have h3 : s.vm.findClass ("[" ++ ty.toString) = some cA := by
    subst hty
    cases atype <;> exact h2
  have hc : cA = cB := Option.some.inj (h3.symm.trans h1)
  subst hc
  exact kk q H1 hP1 hD1 hS1
end H3
end
section
/-! calls: with the words of 'big'; those that keep the world -/
section H4
variable {p : Program} {l : Launch} {e : Env} {R : Room} {s : State} {m : MethodId} {args : Array Value} {below : List Frame} {meth : Method} {c : Code} {H : Heap} {locs : List Loc} {cells slots : Nat} {Q : State → Prop} {cc : ByteArray} {pc : Nat} {ls : Array Slot} {rest : List Value} {D : va_G} {t : Nat → ClassId} {A : Nat → Prop} {H0 : Heap} {ws : va_W} {own : String} {nL : Nat}
variable {C : String} {y : MethodName} {bytes : ByteArray} {maxL n index : Nat} {ret : Option FieldType} {rm : Room} {wc : va_W} {Qc : Array Value → State → Outcome → State → Prop} {mc ms : Nat} {free : Addr → Prop} {As st0 : List Value} {b q0 ci N : Nat} {fs : List Value} {T : u_T} {ty : Nat → FieldType}
theorem r_runV (hF : FX p m c cc nL s args own D t) (hm : MV own index C y bytes maxL ret n) (hC : CI ci C T N ty) (hM : Met l y (Cond.code y bytes maxL ret :: big) rm (PC D t wc H.size (.ref b :: As)) Qc mc ms free) (hdg : decode cc pc = .ok (.invokevirtual index, 3)) (hrc : rm.cells = mc) (hrs : rm.slots = ms) (hR : rm.frames + 1 ≤ R.frames ∧ 8 + (maxL + 11) + rm.locals ≤ R.locals) (hn : As.length = n) (hls : ls.size = nL) (hW : (rest.map fun v => v.category).sum ≤ 8) (hP : va_P D cl1 wc H) (hD : va_D A wc) (he : wc[q0]? = some (b, .inr (ci, fs))) (hf : cells + mc ≤ R.cells ∧ slots + ms ≤ R.slots) (hst : st0 = As.reverse ++ .ref b :: rest) :
    va_Run p l e R s m args below meth c H locs cells slots mc ms (F0 m pc ls st0) rest (Qc (Value.ref b :: As).toArray) free := by
  obtain ⟨⟨w1, w2, w3, w4, w5⟩, hd⟩ := hm
  refine va_runV hF.1 hM (cwV n hF.1.2.2.2.2 (gw ?_) rfl hrc hrs hd hR) ⟨PC_blind, va_recv hF.2 hP hC.1 he, PC_at hP hD hF.2⟩ rfl hn hls hst (lv_room hW) hdg hf
  intro w h
  simp only [wsV, List.cons_append, List.nil_append, List.mem_cons] at h
  rcases h with rfl | rfl | rfl | rfl | rfl | h
  · exact w1
  · exact w2
  · exact w3
  · exact w4
  · exact w5
  · exact h
theorem r_runS (hF : FX p m c cc nL s args own D t) (hm : MS own index y bytes maxL ret n) (hM : Met l y (Cond.code y bytes maxL ret :: big) rm (PC D t wc H.size As) Qc mc ms free) (hdg : decode cc pc = .ok (.invokestatic index, 3)) (hrc : rm.cells = mc) (hrs : rm.slots = ms) (hR : rm.frames + 1 ≤ R.frames ∧ 8 + (maxL + 11) + rm.locals ≤ R.locals) (hn : As.length = n) (hls : ls.size = nL) (hW : (rest.map fun v => v.category).sum ≤ 8) (hP : va_P D cl1 wc H) (hD : va_D A wc) (hf : cells + mc ≤ R.cells ∧ slots + ms ≤ R.slots) (hst : st0 = As.reverse ++ rest) :
    va_Run p l e R s m args below meth c H locs cells slots mc ms (F0 m pc ls st0) rest (Qc As.toArray) free := by
  obtain ⟨⟨w1, w2, w3, w5⟩, hd⟩ := hm
  refine va_runS hF.1 hM (va_cwS n hF.1.2.2.2.2 (gw ?_) rfl hrc hrs hd hR) ⟨PC_blind, PC_at hP hD hF.2⟩ rfl hn hls hst (lv_room hW) hdg hf
  intro w h
  simp only [va_wsS, List.cons_append, List.nil_append, List.mem_cons] at h
  rcases h with rfl | rfl | rfl | rfl | h
  · exact w1
  · exact w2
  · exact w3
  · exact w5
  · exact h
theorem r_runI (hF : FX p m c cc nL s args own D t) (hm : MI own index y bytes maxL n) (hM : Met l y (Cond.code y bytes maxL none :: big) rm (PC D t wc H.size (.ref b :: As)) Qc mc ms free) (hdg : decode cc pc = .ok (.invokespecial index, 3)) (hrc : rm.cells = mc) (hrs : rm.slots = ms) (hR : rm.frames + 1 ≤ R.frames ∧ 8 + (maxL + 11) + rm.locals ≤ R.locals) (hn : As.length = n) (hls : ls.size = nL) (hW : (rest.map fun v => v.category).sum ≤ 8) (hP : va_P D cl1 wc H) (hD : va_D A wc) (hf : cells + mc ≤ R.cells ∧ slots + ms ≤ R.slots) (hst : st0 = As.reverse ++ .ref b :: rest) :
    va_Run p l e R s m args below meth c H locs cells slots mc ms (F0 m pc ls st0) rest (Qc (Value.ref b :: As).toArray) free := by
  obtain ⟨⟨w1, w2, w3, w5⟩, hy1, hd⟩ := hm
  refine va_runI hF.1 hM (cwI n hF.1.2.2.2.2 (gw ?_) rfl hrc hrs (hF.1.2.2.2.2 _ w3) (hF.1.2.2.2.2 _ w1) (hF.1.2.2.2.2 _ w2) hy1 hd hR) ⟨PC_blind, PC_at hP hD hF.2⟩ rfl hn hls hst (lv_room hW) hdg hf
  intro w h
  rcases List.mem_cons.mp h with rfl | h
  · exact w5
  · exact h
theorem r_runN {host : String} (hF : FX p m c cc nL s args own D t) (hN : va_Nw (.methodLinkNest own index y host) s) (hm : (Cond.instanceMethod y ∈ big ∧ Cond.initialized y.cls ∈ big ∧ Cond.code y bytes maxL none ∈ big) ∧ y.name = "<init>" ∧ y.cls ≠ "java/lang/invoke/MethodHandle" ∧ y.cls ≠ "java/lang/invoke/VarHandle" ∧ (parseMethodDescriptor y.desc).map (fun d => d.parameters.length) = some n) (hM : Met l y (Cond.code y bytes maxL none :: big) rm (PC D t wc H.size (.ref b :: As)) Qc mc ms free) (hdg : decode cc pc = .ok (.invokespecial index, 3)) (hrc : rm.cells = mc) (hrs : rm.slots = ms) (hR : rm.frames + 1 ≤ R.frames ∧ 8 + (maxL + 11) + rm.locals ≤ R.locals) (hn : As.length = n) (hls : ls.size = nL) (hW : (rest.map fun v => v.category).sum ≤ 8) (hP : va_P D cl1 wc H) (hD : va_D A wc) (hf : cells + mc ≤ R.cells ∧ slots + ms ≤ R.slots) (hst : st0 = As.reverse ++ .ref b :: rest) :
    va_Run p l e R s m args below meth c H locs cells slots mc ms (F0 m pc ls st0) rest (Qc (Value.ref b :: As).toArray) free := by
  obtain ⟨⟨w2, w3, w5⟩, hy1, hd⟩ := hm
  refine va_runIN hF.1 hM ⟨va_cnB n hF.1.2.2.2.2 (gw ?_) rfl hrc hrs hN (hF.1.2.2.2.2 _ w3) hd hR, hy1, hF.1.2.2.2.2 _ w2⟩ ⟨PC_blind, PC_at hP hD hF.2⟩ rfl hn hls hst (lv_room hW) hdg hf
  intro w h
  rcases List.mem_cons.mp h with rfl | h
  · exact w5
  · exact h
theorem a_in (hD : va_D A ws) (hS : va_S A H0 H locs) (hA : ∀ q, H0.size ≤ q → A q) : ∀ q, va_A ws H.size q → A q := fun q h => by
  rcases h with ⟨k, e, h⟩ | h
  · exact hD.2 k _ h
  · exact hA q (Nat.le_trans hS.1 h)
/-- contracts that keep the world: the answer is v; nothing -/
abbrev KI (l : Launch) (D : va_G) (t : Nat → ClassId) (y : MethodName) (bytes : ByteArray) (maxL : Nat) (ret : Option FieldType) (rm : Room) (ws : va_W) (sz : Nat) (av : List Value) (v : Int32) : Prop := Met l y (Cond.code y bytes maxL ret :: big) rm (PC D t ws sz av) (va_Qi (fun r (_ : Unit) => r = v) (fun _ u => va_P D cl1 ws u.heap) (va_A ws sz)) 0 0 (va_A ws sz)
abbrev KV (l : Launch) (D : va_G) (t : Nat → ClassId) (y : MethodName) (bytes : ByteArray) (maxL : Nat) (rm : Room) (ws : va_W) (sz : Nat) (av : List Value) : Prop := Met l y (Cond.code y bytes maxL none :: big) rm (PC D t ws sz av) (va_Qv (fun (_ : Unit) => True) (fun _ u => va_P D cl1 ws u.heap) (va_A ws sz)) 0 0 (va_A ws sz)
/-- a contract of the answer alone -/
abbrev AI (l : Launch) (D : va_G) (t : Nat → ClassId) (y : MethodName) (bytes : ByteArray) (maxL : Nat) (ret : Option FieldType) (rm : Room) (ws : va_W) (sz : Nat) (av : List Value) (v : Int32) : Prop := Met l y (Cond.code y bytes maxL ret :: big) rm (PC D t ws sz av) (va_Qi (fun r (_ : Unit) => r = v) (fun _ _ => True) (va_A ws sz)) 0 0 (va_A ws sz)
theorem r_cKI {v : Int32} (hF : FX p m c cc nL s args own D t) (hm : MV own index C y bytes maxL ret n) (hC : CI ci C T N ty) (hM : ∀ sz, KI l D t y bytes maxL ret rm ws sz (.ref b :: As) v) (hdg : decode cc pc = .ok (.invokevirtual index, 3)) (hrc : rm.cells = 0) (hrs : rm.slots = 0) (hR : rm.frames + 1 ≤ R.frames ∧ 8 + (maxL + 11) + rm.locals ≤ R.locals) (hn : As.length = n) (hls : ls.size = nL) (hW : (rest.map fun v => v.category).sum ≤ 8) (hP : va_P D cl1 ws H) (hD : va_D A ws) (hS : va_S A H0 H locs) (hA : ∀ q, H0.size ≤ q → A q) (he : ws[q0]? = some (b, .inr (ci, fs))) (hf : cells ≤ R.cells ∧ slots ≤ R.slots) (hst : st0 = As.reverse ++ .ref b :: rest)
    (kk : ∀ (H1 : Heap) (locs1 : List Loc), va_P D cl1 ws H1 → va_S A H0 H1 locs1 → W p l e R s m args below meth c H1 locs1 cells slots Q (F0 m (pc + 3) ls (.int v :: rest))) : W p l e R s m args below meth c H locs cells slots Q (F0 m pc ls st0) := by
  refine va_calli (r_runV hF hm hC (hM H.size) hdg hrc hrs hR hn hls hW hP hD he hf hst) hS (fun q _ h => a_in hD hS hA q h) (a_in hD hS hA) (fun r u t1 H1 locs1 ht _ hw hB _ _ hS1 => ?_)
  subst hw
  have hB : va_P D cl1 ws t1.heap := hB
  rw [ht] at hB
  exact kk H1 locs1 hB hS1
theorem r_cKIs {v : Int32} (hF : FX p m c cc nL s args own D t) (hm : MS own index y bytes maxL ret n) (hM : ∀ sz, KI l D t y bytes maxL ret rm ws sz As v) (hdg : decode cc pc = .ok (.invokestatic index, 3)) (hrc : rm.cells = 0) (hrs : rm.slots = 0) (hR : rm.frames + 1 ≤ R.frames ∧ 8 + (maxL + 11) + rm.locals ≤ R.locals) (hn : As.length = n) (hls : ls.size = nL) (hW : (rest.map fun v => v.category).sum ≤ 8) (hP : va_P D cl1 ws H) (hD : va_D A ws) (hS : va_S A H0 H locs) (hA : ∀ q, H0.size ≤ q → A q) (hf : cells ≤ R.cells ∧ slots ≤ R.slots) (hst : st0 = As.reverse ++ rest)
    (kk : ∀ (H1 : Heap) (locs1 : List Loc), va_P D cl1 ws H1 → va_S A H0 H1 locs1 → W p l e R s m args below meth c H1 locs1 cells slots Q (F0 m (pc + 3) ls (.int v :: rest))) : W p l e R s m args below meth c H locs cells slots Q (F0 m pc ls st0) := by
  refine va_calli (r_runS hF hm (hM H.size) hdg hrc hrs hR hn hls hW hP hD hf hst) hS (fun q _ h => a_in hD hS hA q h) (a_in hD hS hA) (fun r u t1 H1 locs1 ht _ hw hB _ _ hS1 => ?_)
  subst hw
  have hB : va_P D cl1 ws t1.heap := hB
  rw [ht] at hB
  exact kk H1 locs1 hB hS1
theorem r_cKV (hF : FX p m c cc nL s args own D t) (hm : MV own index C y bytes maxL none n) (hC : CI ci C T N ty) (hM : ∀ sz, KV l D t y bytes maxL rm ws sz (.ref b :: As)) (hdg : decode cc pc = .ok (.invokevirtual index, 3)) (hrc : rm.cells = 0) (hrs : rm.slots = 0) (hR : rm.frames + 1 ≤ R.frames ∧ 8 + (maxL + 11) + rm.locals ≤ R.locals) (hn : As.length = n) (hls : ls.size = nL) (hW : (rest.map fun v => v.category).sum ≤ 8) (hP : va_P D cl1 ws H) (hD : va_D A ws) (hS : va_S A H0 H locs) (hA : ∀ q, H0.size ≤ q → A q) (he : ws[q0]? = some (b, .inr (ci, fs))) (hf : cells ≤ R.cells ∧ slots ≤ R.slots) (hst : st0 = As.reverse ++ .ref b :: rest)
    (kk : ∀ (H1 : Heap) (locs1 : List Loc), va_P D cl1 ws H1 → va_S A H0 H1 locs1 → W p l e R s m args below meth c H1 locs1 cells slots Q (F0 m (pc + 3) ls rest)) : W p l e R s m args below meth c H locs cells slots Q (F0 m pc ls st0) := by
  refine va_callv (r_runV hF hm hC (hM H.size) hdg hrc hrs hR hn hls hW hP hD he hf hst) hS (fun q _ h => a_in hD hS hA q h) (a_in hD hS hA) (fun u t1 H1 locs1 ht _ _ hB _ _ hS1 => ?_)
  have hB : va_P D cl1 ws t1.heap := hB
  rw [ht] at hB
  exact kk H1 locs1 hB hS1
/-- returns -/
theorem r_retK {v : Int32} {ty : FieldType} (hF : FX p m c cc nL s args own D t) (hr : meth.sig.returnType = some ty) (hlk : meth.locks = false) (hn : narrow ty (.int v) = .int v) (hdg : decode cc pc = .ok (.ireturn, 1)) (hP : va_P D cl1 ws H) (hS : va_S A s.heap H locs) {v' : Int32} (hv : v = v') : W p l e R s m args below meth c H locs cells slots (MQ below (va_Qi (fun r (_ : Unit) => r = v') (fun _ u => va_P D cl1 ws u.heap) A) args s cells slots A) (F0 m pc ls [.int v]) :=
  W.zret hF.1.1 hF.1.2.1 hr hn (fun t1 ht _ => ⟨⟨v, (), rfl, hv, by show va_P D cl1 ws t1.heap; rw [ht]; exact hP⟩, hS.F ht⟩) hS.2.2 hdg hlk
theorem r_retA {v : Int32} {ty : FieldType} (hF : FX p m c cc nL s args own D t) (hr : meth.sig.returnType = some ty) (hlk : meth.locks = false) (hn : narrow ty (.int v) = .int v) (hdg : decode cc pc = .ok (.ireturn, 1)) (hS : va_S A s.heap H locs) {v' : Int32} (hv : v = v') : W p l e R s m args below meth c H locs cells slots (MQ below (va_Qi (fun r (_ : Unit) => r = v') (fun _ _ => True) A) args s cells slots A) (F0 m pc ls [.int v]) :=
  W.zret hF.1.1 hF.1.2.1 hr hn (fun t1 ht _ => ⟨⟨v, (), rfl, hv, trivial⟩, hS.F ht⟩) hS.2.2 hdg hlk
theorem r_retV (hF : FX p m c cc nL s args own D t) (hr : meth.sig.returnType = none) (hlk : meth.locks = false) (hdg : decode cc pc = .ok (.return_, 1)) (hP : va_P D cl1 ws H) (hS : va_S A s.heap H locs) : W p l e R s m args below meth c H locs cells slots (MQ below (va_Qv (fun (_ : Unit) => True) (fun _ u => va_P D cl1 ws u.heap) A) args s cells slots A) (F0 m pc ls []) :=
  W.vret hF.1.1 hF.1.2.1 hr (fun t1 ht _ => ⟨⟨(), rfl, trivial, by show va_P D cl1 ws t1.heap; rw [ht]; exact hP⟩, hS.F ht⟩) hS.2.2 hdg hlk
/-- a loop that keeps the world: a number of rounds, the locals by the round -/
theorem r_loop {L0 : Nat → List (Nat × Value)} (N : Nat) (hl : lv_has ls nL (L0 0)) (hP : va_P D cl1 ws H) (hS : va_S A H0 H locs)
    (step : ∀ i, i < N → ∀ (ls : Array Slot) (H : Heap) (locs : List Loc), lv_has ls nL (L0 i) → va_P D cl1 ws H → va_S A H0 H locs → (∀ (ls : Array Slot) (H : Heap) (locs : List Loc), lv_has ls nL (L0 (i + 1)) → va_P D cl1 ws H → va_S A H0 H locs → W p l e R s m args below meth c H locs cells slots Q (F0 m pc ls [])) → W p l e R s m args below meth c H locs cells slots Q (F0 m pc ls []))
    (exit : ∀ (ls : Array Slot) (H : Heap) (locs : List Loc), lv_has ls nL (L0 N) → va_P D cl1 ws H → va_S A H0 H locs → W p l e R s m args below meth c H locs cells slots Q (F0 m pc ls [])) : W p l e R s m args below meth c H locs cells slots Q (F0 m pc ls []) := by
  have key : ∀ n i, i + n = N → ∀ (ls : Array Slot) (H : Heap) (locs : List Loc), lv_has ls nL (L0 i) → va_P D cl1 ws H → va_S A H0 H locs → W p l e R s m args below meth c H locs cells slots Q (F0 m pc ls []) := by
    intro n
    induction n with
    | zero =>
      intro i hi
      have : i = N := by omega
      subst this
      exact exit
    | succ n ih =>
      intro i hi ls H locs h1 h2 h3
      exact step i (by omega) ls H locs h1 h2 h3 (ih (i + 1) (by omega))
  exact key N 0 (by omega) ls H locs hl hP hS
end H4
end
section
set_option maxRecDepth 20000 in
theorem fl_X6_7 : FL RX6 7 TX6 2 0 := ⟨by decide, wb 13 rfl⟩
set_option maxRecDepth 20000 in
theorem fl_X2_12 : FL RX2 12 TX2 15 2 := ⟨by decide, wb 20 rfl⟩
set_option maxRecDepth 20000 in
theorem fl_X2_18 : FL RX2 18 TX2 15 4 := ⟨by decide, wb 21 rfl⟩
set_option maxRecDepth 20000 in
theorem fl_X2_21 : FL RX2 21 TX2 15 5 := ⟨by decide, wb 22 rfl⟩
set_option maxRecDepth 20000 in
theorem fl_X4_9 : FL RX4 9 TX4 14 4 := ⟨by decide, wb 24 rfl⟩
set_option maxRecDepth 20000 in
theorem fl_X4_15 : FL RX4 15 TX4 14 5 := ⟨by decide, wb 25 rfl⟩
set_option maxRecDepth 20000 in
theorem fl_X4_19 : FL RX4 19 TX4 14 13 := ⟨by decide, wb 26 rfl⟩
set_option maxRecDepth 20000 in
theorem fl_X4_22 : FL RX4 22 TX4 14 0 := ⟨by decide, wb 27 rfl⟩
set_option maxRecDepth 20000 in
theorem fl_X9_11 : FL RX9 11 TX9 2 0 := ⟨by decide, wb 30 rfl⟩
set_option maxRecDepth 20000 in
theorem fl_Jx4a65c_9 : FL RJx4a65c 9 TJx4a65c 3 1 := ⟨by decide, wb 64 rfl⟩
set_option maxRecDepth 20000 in
theorem fl_Jxc12de_7 : FL RJxc12de 7 TJx4a65c 3 0 := ⟨by decide, wb 69 rfl⟩
set_option maxRecDepth 20000 in
theorem fl_X6_25 : FL RX6 25 TX6 2 1 := ⟨by decide, wb 71 rfl⟩
set_option maxRecDepth 20000 in
theorem fl_X11_85 : FL RX11 85 TX6 2 1 := ⟨by decide, wb 72 rfl⟩
set_option maxRecDepth 20000 in
theorem fl_X11_112 : FL RX11 112 TX2 15 0 := ⟨by decide, wb 74 rfl⟩
set_option maxRecDepth 20000 in
theorem fl_X2_25 : FL RX2 25 TX2 15 0 := ⟨by decide, wb 75 rfl⟩
set_option maxRecDepth 20000 in
theorem fl_X2_29 : FL RX2 29 TX2 15 1 := ⟨by decide, wb 76 rfl⟩
set_option maxRecDepth 20000 in
theorem fl_X2_32 : FL RX2 32 TX6 2 1 := ⟨by decide, wb 77 rfl⟩
set_option maxRecDepth 20000 in
theorem fl_X2_36 : FL RX2 36 TX2 15 6 := ⟨by decide, wb 78 rfl⟩
set_option maxRecDepth 20000 in
theorem fl_X2_39 : FL RX2 39 TX2 15 7 := ⟨by decide, wb 79 rfl⟩
set_option maxRecDepth 20000 in
theorem fl_X11_126 : FL RX11 126 TX6 2 0 := ⟨by decide, wb 80 rfl⟩
set_option maxRecDepth 20000 in
theorem fl_Jx4a65c_48 : FL RJx4a65c 48 TJx4a65c 3 2 := ⟨by decide, wb 82 rfl⟩
set_option maxRecDepth 20000 in
theorem fl_X9_52 : FL RX9 52 TX9 2 1 := ⟨by decide, wb 83 rfl⟩
set_option maxRecDepth 20000 in
theorem fl_X4_77 : FL RX4 77 TX4 14 1 := ⟨by decide, wb 84 rfl⟩
set_option maxRecDepth 20000 in
theorem fl_X4_28 : FL RX4 28 TX4 14 2 := ⟨by decide, wb 85 rfl⟩
set_option maxRecDepth 20000 in
theorem fl_X4_61 : FL RX4 61 TX4 14 3 := ⟨by decide, wb 86 rfl⟩
set_option maxRecDepth 20000 in
theorem fl_X4_64 : FL RX4 64 TX4 14 6 := ⟨by decide, wb 87 rfl⟩
set_option maxRecDepth 20000 in
theorem fl_X4_25 : FL RX4 25 TX4 14 7 := ⟨by decide, wb 89 rfl⟩
set_option maxRecDepth 20000 in
theorem fl_X4_35 : FL RX4 35 TX4 14 8 := ⟨by decide, wb 90 rfl⟩
set_option maxRecDepth 20000 in
theorem fl_X4_45 : FL RX4 45 TX4 14 9 := ⟨by decide, wb 91 rfl⟩
set_option maxRecDepth 20000 in
theorem fl_X4_48 : FL RX4 48 TX4 14 10 := ⟨by decide, wb 92 rfl⟩
set_option maxRecDepth 20000 in
theorem fl_X4_51 : FL RX4 51 TX4 14 11 := ⟨by decide, wb 93 rfl⟩
set_option maxRecDepth 20000 in
theorem fl_X4_32 : FL RX4 32 TX4 14 12 := ⟨by decide, wb 94 rfl⟩
set_option maxRecDepth 20000 in
theorem fl_X11_201 : FL RX11 201 TX2 15 4 := ⟨by decide, wb 96 rfl⟩
set_option maxRecDepth 20000 in
theorem fl_X11_101 : FL RX11 101 TX9 2 1 := ⟨by decide, wb 97 rfl⟩
set_option maxRecDepth 20000 in
theorem fl_X1_9 : FL RX1 9 TX1 15 4 := ⟨by decide, wb 140 rfl⟩
set_option maxRecDepth 20000 in
theorem fl_X1_15 : FL RX1 15 TX1 15 14 := ⟨by decide, wb 141 rfl⟩
set_option maxRecDepth 20000 in
theorem fl_X11_10 : FL RX11 10 TX11 18 0 := ⟨by decide, wb 142 rfl⟩
set_option maxRecDepth 20000 in
theorem fl_X11_18 : FL RX11 18 TX11 18 1 := ⟨by decide, wb 143 rfl⟩
set_option maxRecDepth 20000 in
theorem fl_X11_22 : FL RX11 22 TX11 18 2 := ⟨by decide, wb 144 rfl⟩
set_option maxRecDepth 20000 in
theorem fl_X11_29 : FL RX11 29 TX11 18 3 := ⟨by decide, wb 145 rfl⟩
set_option maxRecDepth 20000 in
theorem fl_X11_33 : FL RX11 33 TX11 18 4 := ⟨by decide, wb 146 rfl⟩
set_option maxRecDepth 20000 in
theorem fl_X11_38 : FL RX11 38 TX11 18 5 := ⟨by decide, wb 147 rfl⟩
set_option maxRecDepth 20000 in
theorem fl_X11_45 : FL RX11 45 TX11 18 8 := ⟨by decide, wb 148 rfl⟩
set_option maxRecDepth 20000 in
theorem fl_X11_49 : FL RX11 49 TX11 18 9 := ⟨by decide, wb 149 rfl⟩
set_option maxRecDepth 20000 in
theorem fl_X11_52 : FL RX11 52 TX11 18 10 := ⟨by decide, wb 150 rfl⟩
set_option maxRecDepth 20000 in
theorem fl_X11_55 : FL RX11 55 TX11 18 11 := ⟨by decide, wb 151 rfl⟩
set_option maxRecDepth 20000 in
theorem fl_X11_58 : FL RX11 58 TX11 18 12 := ⟨by decide, wb 152 rfl⟩
set_option maxRecDepth 20000 in
theorem fl_X11_61 : FL RX11 61 TX11 18 13 := ⟨by decide, wb 153 rfl⟩
set_option maxRecDepth 20000 in
theorem fl_X11_65 : FL RX11 65 TX11 18 14 := ⟨by decide, wb 154 rfl⟩
set_option maxRecDepth 20000 in
theorem fl_X11_68 : FL RX11 68 TX11 18 15 := ⟨by decide, wb 155 rfl⟩
set_option maxRecDepth 20000 in
theorem fl_X11_71 : FL RX11 71 TX11 18 16 := ⟨by decide, wb 156 rfl⟩
set_option maxRecDepth 20000 in
theorem fl_X11_74 : FL RX11 74 TX11 18 17 := ⟨by decide, wb 157 rfl⟩
set_option maxRecDepth 20000 in
theorem fl_X11_157 : FL RX11 157 TX11 18 7 := ⟨by decide, wb 177 rfl⟩
set_option maxRecDepth 20000 in
theorem fl_X11_182 : FL RX11 182 TX11 18 6 := ⟨by decide, wb 178 rfl⟩
set_option maxRecDepth 20000 in
theorem fl_X12_7 : FL RX12 7 TX12 120 0 := ⟨by decide, wb 278 rfl⟩
set_option maxRecDepth 20000 in
theorem fl_X12_13 : FL RX12 13 TX12 120 3 := ⟨by decide, wb 279 rfl⟩
set_option maxRecDepth 20000 in
theorem fl_X12_17 : FL RX12 17 TX12 120 4 := ⟨by decide, wb 280 rfl⟩
set_option maxRecDepth 20000 in
theorem fl_X12_21 : FL RX12 21 TX12 120 5 := ⟨by decide, wb 281 rfl⟩
set_option maxRecDepth 20000 in
theorem fl_X12_24 : FL RX12 24 TX12 120 6 := ⟨by decide, wb 282 rfl⟩
set_option maxRecDepth 20000 in
theorem fl_X12_27 : FL RX12 27 TX12 120 7 := ⟨by decide, wb 283 rfl⟩
set_option maxRecDepth 20000 in
theorem fl_X12_30 : FL RX12 30 TX12 120 8 := ⟨by decide, wb 284 rfl⟩
set_option maxRecDepth 20000 in
theorem fl_X12_33 : FL RX12 33 TX12 120 9 := ⟨by decide, wb 285 rfl⟩
set_option maxRecDepth 20000 in
theorem fl_X12_37 : FL RX12 37 TX12 120 10 := ⟨by decide, wb 286 rfl⟩
set_option maxRecDepth 20000 in
theorem fl_X12_41 : FL RX12 41 TX12 120 11 := ⟨by decide, wb 288 rfl⟩
set_option maxRecDepth 20000 in
theorem fl_X12_44 : FL RX12 44 TX12 120 12 := ⟨by decide, wb 289 rfl⟩
set_option maxRecDepth 20000 in
theorem fl_X12_47 : FL RX12 47 TX12 120 13 := ⟨by decide, wb 290 rfl⟩
set_option maxRecDepth 20000 in
theorem fl_X12_50 : FL RX12 50 TX12 120 14 := ⟨by decide, wb 291 rfl⟩
set_option maxRecDepth 20000 in
theorem fl_X12_53 : FL RX12 53 TX12 120 15 := ⟨by decide, wb 292 rfl⟩
set_option maxRecDepth 20000 in
theorem fl_X12_56 : FL RX12 56 TX12 120 17 := ⟨by decide, wb 293 rfl⟩
set_option maxRecDepth 20000 in
theorem fl_X12_59 : FL RX12 59 TX12 120 18 := ⟨by decide, wb 294 rfl⟩
set_option maxRecDepth 20000 in
theorem fl_X12_62 : FL RX12 62 TX12 120 19 := ⟨by decide, wb 295 rfl⟩
set_option maxRecDepth 20000 in
theorem fl_X12_65 : FL RX12 65 TX12 120 20 := ⟨by decide, wb 296 rfl⟩
set_option maxRecDepth 20000 in
theorem fl_X12_68 : FL RX12 68 TX12 120 21 := ⟨by decide, wb 297 rfl⟩
set_option maxRecDepth 20000 in
theorem fl_X12_71 : FL RX12 71 TX12 120 22 := ⟨by decide, wb 298 rfl⟩
set_option maxRecDepth 20000 in
theorem fl_X12_74 : FL RX12 74 TX12 120 23 := ⟨by decide, wb 299 rfl⟩
set_option maxRecDepth 20000 in
theorem fl_X12_77 : FL RX12 77 TX12 120 24 := ⟨by decide, wb 300 rfl⟩
set_option maxRecDepth 20000 in
theorem fl_X12_80 : FL RX12 80 TX12 120 25 := ⟨by decide, wb 301 rfl⟩
set_option maxRecDepth 20000 in
theorem fl_X12_83 : FL RX12 83 TX12 120 26 := ⟨by decide, wb 302 rfl⟩
set_option maxRecDepth 20000 in
theorem fl_X12_86 : FL RX12 86 TX12 120 27 := ⟨by decide, wb 303 rfl⟩
set_option maxRecDepth 20000 in
theorem fl_X12_89 : FL RX12 89 TX12 120 28 := ⟨by decide, wb 304 rfl⟩
set_option maxRecDepth 20000 in
theorem fl_X12_92 : FL RX12 92 TX12 120 29 := ⟨by decide, wb 305 rfl⟩
set_option maxRecDepth 20000 in
theorem fl_X12_96 : FL RX12 96 TX12 120 30 := ⟨by decide, wb 307 rfl⟩
set_option maxRecDepth 20000 in
theorem fl_X12_99 : FL RX12 99 TX12 120 31 := ⟨by decide, wb 308 rfl⟩
set_option maxRecDepth 20000 in
theorem fl_X12_103 : FL RX12 103 TX12 120 32 := ⟨by decide, wb 310 rfl⟩
set_option maxRecDepth 20000 in
theorem fl_X12_106 : FL RX12 106 TX12 120 33 := ⟨by decide, wb 311 rfl⟩
set_option maxRecDepth 20000 in
theorem fl_X12_109 : FL RX12 109 TX12 120 34 := ⟨by decide, wb 312 rfl⟩
set_option maxRecDepth 20000 in
theorem fl_X12_112 : FL RX12 112 TX12 120 35 := ⟨by decide, wb 313 rfl⟩
set_option maxRecDepth 20000 in
theorem fl_X12_115 : FL RX12 115 TX12 120 36 := ⟨by decide, wb 314 rfl⟩
set_option maxRecDepth 20000 in
theorem fl_X12_118 : FL RX12 118 TX12 120 37 := ⟨by decide, wb 315 rfl⟩
set_option maxRecDepth 20000 in
theorem fl_X12_121 : FL RX12 121 TX12 120 38 := ⟨by decide, wb 316 rfl⟩
set_option maxRecDepth 20000 in
theorem fl_X12_124 : FL RX12 124 TX12 120 39 := ⟨by decide, wb 317 rfl⟩
set_option maxRecDepth 20000 in
theorem fl_X12_127 : FL RX12 127 TX12 120 40 := ⟨by decide, wb 318 rfl⟩
set_option maxRecDepth 20000 in
theorem fl_X12_130 : FL RX12 130 TX12 120 41 := ⟨by decide, wb 319 rfl⟩
set_option maxRecDepth 20000 in
theorem fl_X12_133 : FL RX12 133 TX12 120 42 := ⟨by decide, wb 320 rfl⟩
set_option maxRecDepth 20000 in
theorem fl_X12_136 : FL RX12 136 TX12 120 43 := ⟨by decide, wb 321 rfl⟩
set_option maxRecDepth 20000 in
theorem fl_X12_139 : FL RX12 139 TX12 120 44 := ⟨by decide, wb 322 rfl⟩
set_option maxRecDepth 20000 in
theorem fl_X12_142 : FL RX12 142 TX12 120 45 := ⟨by decide, wb 323 rfl⟩
set_option maxRecDepth 20000 in
theorem fl_X12_145 : FL RX12 145 TX12 120 46 := ⟨by decide, wb 324 rfl⟩
set_option maxRecDepth 20000 in
theorem fl_X12_148 : FL RX12 148 TX12 120 47 := ⟨by decide, wb 325 rfl⟩
set_option maxRecDepth 20000 in
theorem fl_X12_151 : FL RX12 151 TX12 120 48 := ⟨by decide, wb 326 rfl⟩
set_option maxRecDepth 20000 in
theorem fl_X12_154 : FL RX12 154 TX12 120 49 := ⟨by decide, wb 327 rfl⟩
set_option maxRecDepth 20000 in
theorem fl_X12_157 : FL RX12 157 TX12 120 50 := ⟨by decide, wb 328 rfl⟩
set_option maxRecDepth 20000 in
theorem fl_X12_160 : FL RX12 160 TX12 120 51 := ⟨by decide, wb 329 rfl⟩
set_option maxRecDepth 20000 in
theorem fl_X12_163 : FL RX12 163 TX12 120 52 := ⟨by decide, wb 330 rfl⟩
set_option maxRecDepth 20000 in
theorem fl_X12_166 : FL RX12 166 TX12 120 53 := ⟨by decide, wb 331 rfl⟩
set_option maxRecDepth 20000 in
theorem fl_X12_169 : FL RX12 169 TX12 120 54 := ⟨by decide, wb 332 rfl⟩
set_option maxRecDepth 20000 in
theorem fl_X12_172 : FL RX12 172 TX12 120 55 := ⟨by decide, wb 333 rfl⟩
set_option maxRecDepth 20000 in
theorem fl_X12_175 : FL RX12 175 TX12 120 56 := ⟨by decide, wb 334 rfl⟩
set_option maxRecDepth 20000 in
theorem fl_X12_178 : FL RX12 178 TX12 120 57 := ⟨by decide, wb 335 rfl⟩
set_option maxRecDepth 20000 in
theorem fl_X12_181 : FL RX12 181 TX12 120 58 := ⟨by decide, wb 336 rfl⟩
set_option maxRecDepth 20000 in
theorem fl_X12_184 : FL RX12 184 TX12 120 64 := ⟨by decide, wb 337 rfl⟩
set_option maxRecDepth 20000 in
theorem fl_X12_187 : FL RX12 187 TX12 120 65 := ⟨by decide, wb 338 rfl⟩
set_option maxRecDepth 20000 in
theorem fl_X12_190 : FL RX12 190 TX12 120 66 := ⟨by decide, wb 339 rfl⟩
set_option maxRecDepth 20000 in
theorem fl_X12_289 : FL RX12 289 TX12 120 63 := ⟨by decide, wb 345 rfl⟩
set_option maxRecDepth 20000 in
theorem fl_X12_271 : FL RX12 271 TX12 120 16 := ⟨by decide, wb 346 rfl⟩
set_option maxRecDepth 20000 in
theorem fl_X12_295 : FL RX12 295 TX12 120 59 := ⟨by decide, wb 347 rfl⟩
set_option maxRecDepth 20000 in
theorem fl_X12_299 : FL RX12 299 TX12 120 60 := ⟨by decide, wb 348 rfl⟩
set_option maxRecDepth 20000 in
theorem fl_X12_302 : FL RX12 302 TX12 120 61 := ⟨by decide, wb 349 rfl⟩
set_option maxRecDepth 20000 in
theorem fl_X12_305 : FL RX12 305 TX12 120 62 := ⟨by decide, wb 350 rfl⟩
set_option maxRecDepth 20000 in
theorem fl_X12_261 : FL RX12 261 TX12 120 1 := ⟨by decide, wb 354 rfl⟩
set_option maxRecDepth 20000 in
theorem fl_X12_322 : FL RX12 322 TX12 120 2 := ⟨by decide, wb 355 rfl⟩
set_option maxRecDepth 20000 in
theorem fl_X12_193 : FL RX12 193 TX12 120 67 := ⟨by decide, wb 389 rfl⟩
set_option maxRecDepth 20000 in
theorem fl_X12_196 : FL RX12 196 TX12 120 68 := ⟨by decide, wb 390 rfl⟩
set_option maxRecDepth 20000 in
theorem fl_X12_199 : FL RX12 199 TX12 120 70 := ⟨by decide, wb 391 rfl⟩
set_option maxRecDepth 20000 in
theorem fl_X12_202 : FL RX12 202 TX12 120 71 := ⟨by decide, wb 392 rfl⟩
set_option maxRecDepth 20000 in
theorem fl_X12_205 : FL RX12 205 TX12 120 72 := ⟨by decide, wb 393 rfl⟩
set_option maxRecDepth 20000 in
theorem fl_X12_208 : FL RX12 208 TX12 120 73 := ⟨by decide, wb 394 rfl⟩
set_option maxRecDepth 20000 in
theorem fl_X12_211 : FL RX12 211 TX12 120 74 := ⟨by decide, wb 395 rfl⟩
set_option maxRecDepth 20000 in
theorem fl_X12_214 : FL RX12 214 TX12 120 75 := ⟨by decide, wb 396 rfl⟩
set_option maxRecDepth 20000 in
theorem fl_X12_217 : FL RX12 217 TX12 120 76 := ⟨by decide, wb 397 rfl⟩
set_option maxRecDepth 20000 in
theorem fl_X12_220 : FL RX12 220 TX12 120 77 := ⟨by decide, wb 398 rfl⟩
set_option maxRecDepth 20000 in
theorem fl_X12_223 : FL RX12 223 TX12 120 78 := ⟨by decide, wb 399 rfl⟩
set_option maxRecDepth 20000 in
theorem fl_X12_226 : FL RX12 226 TX12 120 79 := ⟨by decide, wb 400 rfl⟩
set_option maxRecDepth 20000 in
theorem fl_X12_229 : FL RX12 229 TX12 120 80 := ⟨by decide, wb 401 rfl⟩
set_option maxRecDepth 20000 in
theorem fl_X12_232 : FL RX12 232 TX12 120 81 := ⟨by decide, wb 402 rfl⟩
set_option maxRecDepth 20000 in
theorem fl_X12_235 : FL RX12 235 TX12 120 82 := ⟨by decide, wb 403 rfl⟩
set_option maxRecDepth 20000 in
theorem fl_X12_238 : FL RX12 238 TX12 120 83 := ⟨by decide, wb 404 rfl⟩
set_option maxRecDepth 20000 in
theorem fl_X12_242 : FL RX12 242 TX12 120 84 := ⟨by decide, wb 405 rfl⟩
set_option maxRecDepth 20000 in
theorem fl_X12_246 : FL RX12 246 TX12 120 89 := ⟨by decide, wb 406 rfl⟩
set_option maxRecDepth 20000 in
theorem fl_X12_249 : FL RX12 249 TX12 120 112 := ⟨by decide, wb 407 rfl⟩
set_option maxRecDepth 20000 in
theorem fl_X12_252 : FL RX12 252 TX12 120 113 := ⟨by decide, wb 408 rfl⟩
set_option maxRecDepth 20000 in
theorem fl_X12_255 : FL RX12 255 TX12 120 114 := ⟨by decide, wb 409 rfl⟩
set_option maxRecDepth 20000 in
theorem fl_X12_292 : FL RX12 292 TX12 120 69 := ⟨by decide, wb 410 rfl⟩
set_option maxRecDepth 20000 in
theorem mn_X2_11 : (Cond.instanceMethod yX6_init ∈ big ∧ Cond.initialized (yX6_init).cls ∈ big ∧ Cond.code yX6_init cX6_init 1 none ∈ big) ∧ (yX6_init).name = "<init>" ∧ (yX6_init).cls ≠ "java/lang/invoke/MethodHandle" ∧ (yX6_init).cls ≠ "java/lang/invoke/VarHandle" ∧ (parseMethodDescriptor (yX6_init).desc).map (fun d => d.parameters.length) = some 0 := ⟨⟨wb 19 rfl, wb 16 rfl, wb 18 rfl⟩, by decide +kernel⟩
set_option maxRecDepth 20000 in
theorem mi_X9_17 : MI RX9 17 yX4_init cX4_init 2 1 := ⟨⟨wb 33 rfl, wb 35 rfl, wb 31 rfl, wb 34 rfl⟩, by decide +kernel⟩
set_option maxRecDepth 20000 in
theorem mn_X11_9 : (Cond.instanceMethod yX6_init ∈ big ∧ Cond.initialized (yX6_init).cls ∈ big ∧ Cond.code yX6_init cX6_init 1 none ∈ big) ∧ (yX6_init).name = "<init>" ∧ (yX6_init).cls ≠ "java/lang/invoke/MethodHandle" ∧ (yX6_init).cls ≠ "java/lang/invoke/VarHandle" ∧ (parseMethodDescriptor (yX6_init).desc).map (fun d => d.parameters.length) = some 0 := ⟨⟨wb 19 rfl, wb 16 rfl, wb 18 rfl⟩, by decide +kernel⟩
set_option maxRecDepth 20000 in
theorem mi_X11_28 : MI RX11 28 yX9_init cX9_init 2 0 := ⟨⟨wb 43 rfl, wb 45 rfl, wb 41 rfl, wb 44 rfl⟩, by decide +kernel⟩
set_option maxRecDepth 20000 in
theorem mi_X11_44 : MI RX11 44 yJx4a65c_init_da8c8 cJx4a65c_init_da8c8 1 0 := ⟨⟨wb 50 rfl, wb 52 rfl, wb 48 rfl, wb 51 rfl⟩, by decide +kernel⟩
set_option maxRecDepth 20000 in
theorem mn_X11_77 : (Cond.instanceMethod yX2_init ∈ big ∧ Cond.initialized (yX2_init).cls ∈ big ∧ Cond.code yX2_init cX2_init 1 none ∈ big) ∧ (yX2_init).name = "<init>" ∧ (yX2_init).cls ≠ "java/lang/invoke/MethodHandle" ∧ (yX2_init).cls ≠ "java/lang/invoke/VarHandle" ∧ (parseMethodDescriptor (yX2_init).desc).map (fun d => d.parameters.length) = some 0 := ⟨⟨wb 56 rfl, wb 53 rfl, wb 55 rfl⟩, by decide +kernel⟩
set_option maxRecDepth 20000 in
theorem mn_X11_78 : (Cond.instanceMethod yX1_init ∈ big ∧ Cond.initialized (yX1_init).cls ∈ big ∧ Cond.code yX1_init cX1_init 1 none ∈ big) ∧ (yX1_init).name = "<init>" ∧ (yX1_init).cls ≠ "java/lang/invoke/MethodHandle" ∧ (yX1_init).cls ≠ "java/lang/invoke/VarHandle" ∧ (parseMethodDescriptor (yX1_init).desc).map (fun d => d.parameters.length) = some 0 := ⟨⟨wb 160 rfl, wb 57 rfl, wb 159 rfl⟩, by decide +kernel⟩
set_option maxRecDepth 20000 in
theorem ms_X11_79 : MS RX11 79 yJ7_fill_53178 cJ7_fill_53178 4 none 2 := ⟨⟨wb 161 rfl, wb 163 rfl, wb 58 rfl, wb 162 rfl⟩, by decide +kernel⟩
set_option maxRecDepth 20000 in
theorem mi_Jx4a65c_1 : MI RJx4a65c 1 yJxc12de_init_da8c8 cJxc12de_init_da8c8 1 0 := ⟨⟨wb 59 rfl, wb 62 rfl, wb 60 rfl, wb 61 rfl⟩, by decide +kernel⟩
set_option maxRecDepth 20000 in
theorem mi_Jxc12de_1 : MI RJxc12de 1 yJxa1e45_init_da8c8 cJxa1e45_init_da8c8 1 0 := ⟨⟨wb 65 rfl, wb 68 rfl, wb 66 rfl, wb 67 rfl⟩, by decide +kernel⟩
set_option maxRecDepth 20000 in
theorem mv_X6_33 : MV RX6 33 RX6 yX6_add cX6_add 2 none 1 := ⟨⟨wb 164 rfl, wb 166 rfl, wb 167 rfl, wb 16 rfl, wb 165 rfl⟩, by decide +kernel⟩
set_option maxRecDepth 20000 in
theorem mv_X11_89 : MV RX11 89 RX6 yX6_addHighestFirst cX6_addHighestFirst 2 none 1 := ⟨⟨wb 168 rfl, wb 170 rfl, wb 171 rfl, wb 16 rfl, wb 169 rfl⟩, by decide +kernel⟩
set_option maxRecDepth 20000 in
theorem mv_X11_93 : MV RX11 93 RX11 yX11_tapeIsShareName cX11_tapeIsShareName 4 (some .boolean) 0 := ⟨⟨wb 172 rfl, wb 174 rfl, wb 0 rfl, wb 73 rfl, wb 173 rfl⟩, by decide +kernel⟩
set_option maxRecDepth 20000 in
theorem mv_X11_108 : MV RX11 108 RX11 yX11_connection cX11_connection 2 (some (.object "ShareHouse$Conn")) 1 := ⟨⟨wb 232 rfl, wb 234 rfl, wb 1 rfl, wb 73 rfl, wb 233 rfl⟩, by decide +kernel⟩
set_option maxRecDepth 20000 in
theorem mv_X11_116 : MV RX11 116 RX2 yX2_begin cX2_begin 1 none 0 := ⟨⟨wb 235 rfl, wb 237 rfl, wb 238 rfl, wb 53 rfl, wb 236 rfl⟩, by decide +kernel⟩
set_option maxRecDepth 20000 in
theorem mv_X11_161 : MV RX11 161 RJx4a65c yJx4a65c_size_8abf5 cJx4a65c_size_8abf5 1 (some .int) 0 := ⟨⟨wb 241 rfl, wb 243 rfl, wb 244 rfl, wb 48 rfl, wb 242 rfl⟩, by decide +kernel⟩
set_option maxRecDepth 20000 in
theorem mv_X11_185 : MV RX11 185 RX11 yX11_comeToDisk cX11_comeToDisk 2 none 0 := ⟨⟨wb 179 rfl, wb 181 rfl, wb 2 rfl, wb 73 rfl, wb 180 rfl⟩, by decide +kernel⟩
set_option maxRecDepth 20000 in
theorem mv_X11_188 : MV RX11 188 RX9 yX9_copyFrom cX9_copyFrom 3 none 1 := ⟨⟨wb 257 rfl, wb 259 rfl, wb 260 rfl, wb 41 rfl, wb 258 rfl⟩, by decide +kernel⟩
set_option maxRecDepth 20000 in
theorem mv_X11_192 : MV RX11 192 RX2 yX2_vanish cX2_vanish 1 none 0 := ⟨⟨wb 261 rfl, wb 263 rfl, wb 264 rfl, wb 53 rfl, wb 262 rfl⟩, by decide +kernel⟩
set_option maxRecDepth 20000 in
theorem mv_X11_195 : MV RX11 195 RJx4a65c yJx4a65c_clear_da8c8 cJx4a65c_clear_da8c8 4 none 0 := ⟨⟨wb 265 rfl, wb 267 rfl, wb 268 rfl, wb 48 rfl, wb 266 rfl⟩, by decide +kernel⟩
set_option maxRecDepth 20000 in
theorem ms_X11_198 : MS RX11 198 yJ7_fill_d0a16 cJ7_fill_d0a16 5 none 2 := ⟨⟨wb 269 rfl, wb 271 rfl, wb 58 rfl, wb 270 rfl⟩, by decide +kernel⟩
set_option maxRecDepth 20000 in
theorem mv_X9_130 : MV RX9 130 RX4 yX4_copyFrom cX4_copyFrom 2 none 1 := ⟨⟨wb 272 rfl, wb 274 rfl, wb 275 rfl, wb 31 rfl, wb 273 rfl⟩, by decide +kernel⟩
set_option maxRecDepth 20000 in
theorem mv_X12_258 : MV RX12 258 RX12 yX12_begin cX12_begin 2 none 0 := ⟨⟨wb 342 rfl, wb 344 rfl, wb 3 rfl, wb 98 rfl, wb 343 rfl⟩, by decide +kernel⟩
set_option maxRecDepth 20000 in
theorem mv_X12_308 : MV RX12 308 RX12 yX12_copyNode cX12_copyNode 4 none 2 := ⟨⟨wb 351 rfl, wb 353 rfl, wb 4 rfl, wb 98 rfl, wb 352 rfl⟩, by decide +kernel⟩
set_option maxRecDepth 20000 in
theorem mv_X12_265 : MV RX12 265 RX12 yX12_lay cX12_lay 3 none 1 := ⟨⟨wb 506 rfl, wb 508 rfl, wb 5 rfl, wb 98 rfl, wb 507 rfl⟩, by decide +kernel⟩
set_option maxRecDepth 20000 in
theorem ms_X12_325 : MS RX12 325 yX12_isLine cX12_isLine 1 (some .boolean) 1 := ⟨⟨wb 509 rfl, wb 511 rfl, wb 98 rfl, wb 510 rfl⟩, by decide +kernel⟩
set_option maxRecDepth 20000 in
theorem mv_X12_281 : MV RX12 281 RX12 yX12_come cX12_come 4 none 2 := ⟨⟨wb 512 rfl, wb 514 rfl, wb 6 rfl, wb 98 rfl, wb 513 rfl⟩, by decide +kernel⟩
set_option maxRecDepth 20000 in
theorem mv_X12_315 : MV RX12 315 RX12 yX12_nodes cX12_nodes 4 (some .int) 1 := ⟨⟨wb 515 rfl, wb 517 rfl, wb 7 rfl, wb 98 rfl, wb 516 rfl⟩, by decide +kernel⟩
set_option maxRecDepth 20000 in
theorem mv_X12_688 : MV RX12 688 RX12 yX12_count cX12_count 4 (some .int) 1 := ⟨⟨wb 564 rfl, wb 566 rfl, wb 8 rfl, wb 98 rfl, wb 565 rfl⟩, by decide +kernel⟩
set_option maxRecDepth 20000 in
theorem mi_L_9 : MI RL 9 yX11_init cX11_init 2 0 := ⟨⟨wb 101 rfl, wb 103 rfl, wb 73 rfl, wb 102 rfl⟩, by decide +kernel⟩
set_option maxRecDepth 20000 in
theorem mi_L_12 : MI RL 12 yX12_init cX12_init 2 0 := ⟨⟨wb 358 rfl, wb 360 rfl, wb 98 rfl, wb 359 rfl⟩, by decide +kernel⟩
set_option maxRecDepth 20000 in
theorem mv_L_13 : MV RL 13 RX11 yX11_feed cX11_feed 6 (some .int) 5 := ⟨⟨wb 184 rfl, wb 186 rfl, wb 187 rfl, wb 73 rfl, wb 185 rfl⟩, by decide +kernel⟩
set_option maxRecDepth 20000 in
theorem mv_L_17 : MV RL 17 RX12 yX12_feed cX12_feed 6 (some .int) 5 := ⟨⟨wb 518 rfl, wb 520 rfl, wb 521 rfl, wb 98 rfl, wb 519 rfl⟩, by decide +kernel⟩
set_option maxRecDepth 20000 in
theorem mv_L_18 : MV RL 18 RX11 yX11_cut cX11_cut 3 (some .int) 1 := ⟨⟨wb 188 rfl, wb 190 rfl, wb 191 rfl, wb 73 rfl, wb 189 rfl⟩, by decide +kernel⟩
set_option maxRecDepth 20000 in
theorem mv_L_22 : MV RL 22 RX12 yX12_cut cX12_cut 3 (some .int) 1 := ⟨⟨wb 522 rfl, wb 524 rfl, wb 525 rfl, wb 98 rfl, wb 523 rfl⟩, by decide +kernel⟩
set_option maxRecDepth 20000 in
theorem mv_L_23 : MV RL 23 RX11 yX11_share cX11_share 3 (some .boolean) 1 := ⟨⟨wb 192 rfl, wb 194 rfl, wb 195 rfl, wb 73 rfl, wb 193 rfl⟩, by decide +kernel⟩
set_option maxRecDepth 20000 in
theorem mv_L_27 : MV RL 27 RX12 yX12_share cX12_share 7 (some .boolean) 1 := ⟨⟨wb 526 rfl, wb 528 rfl, wb 529 rfl, wb 98 rfl, wb 527 rfl⟩, by decide +kernel⟩
set_option maxRecDepth 20000 in
theorem mv_L_28 : MV RL 28 RX11 yX11_connect cX11_connect 3 (some .boolean) 1 := ⟨⟨wb 245 rfl, wb 247 rfl, wb 248 rfl, wb 73 rfl, wb 246 rfl⟩, by decide +kernel⟩
set_option maxRecDepth 20000 in
theorem mv_L_31 : MV RL 31 RX12 yX12_connect cX12_connect 2 (some .boolean) 1 := ⟨⟨wb 530 rfl, wb 532 rfl, wb 533 rfl, wb 98 rfl, wb 531 rfl⟩, by decide +kernel⟩
set_option maxRecDepth 20000 in
theorem mv_L_32 : MV RL 32 RX11 yX11_hang cX11_hang 3 (some .boolean) 1 := ⟨⟨wb 249 rfl, wb 251 rfl, wb 252 rfl, wb 73 rfl, wb 250 rfl⟩, by decide +kernel⟩
set_option maxRecDepth 20000 in
theorem mv_L_35 : MV RL 35 RX12 yX12_hang cX12_hang 2 (some .boolean) 1 := ⟨⟨wb 534 rfl, wb 536 rfl, wb 537 rfl, wb 98 rfl, wb 535 rfl⟩, by decide +kernel⟩
set_option maxRecDepth 20000 in
theorem mv_L_36 : MV RL 36 RX11 yX11_come cX11_come 9 (some .int) 1 := ⟨⟨wb 253 rfl, wb 255 rfl, wb 256 rfl, wb 73 rfl, wb 254 rfl⟩, by decide +kernel⟩
set_option maxRecDepth 20000 in
theorem mv_L_39 : MV RL 39 RX12 yX12_come_ cX12_come_ 8 (some .int) 1 := ⟨⟨wb 567 rfl, wb 569 rfl, wb 570 rfl, wb 98 rfl, wb 568 rfl⟩, by decide +kernel⟩
set_option maxRecDepth 20000 in
theorem mv_L_40 : MV RL 40 RX11 yX11_isOpen cX11_isOpen 3 (some .boolean) 1 := ⟨⟨wb 361 rfl, wb 363 rfl, wb 364 rfl, wb 73 rfl, wb 362 rfl⟩, by decide +kernel⟩
set_option maxRecDepth 20000 in
theorem mv_L_43 : MV RL 43 RX12 yX12_isOpen cX12_isOpen 2 (some .boolean) 1 := ⟨⟨wb 571 rfl, wb 573 rfl, wb 574 rfl, wb 98 rfl, wb 572 rfl⟩, by decide +kernel⟩
set_option maxRecDepth 20000 in
theorem mv_L_44 : MV RL 44 RX11 yX11_tick cX11_tick 4 (some .boolean) 1 := ⟨⟨wb 365 rfl, wb 367 rfl, wb 368 rfl, wb 73 rfl, wb 366 rfl⟩, by decide +kernel⟩
set_option maxRecDepth 20000 in
theorem mv_L_47 : MV RL 47 RX12 yX12_tick cX12_tick 8 (some .boolean) 1 := ⟨⟨wb 576 rfl, wb 578 rfl, wb 579 rfl, wb 98 rfl, wb 577 rfl⟩, by decide +kernel⟩
set_option maxRecDepth 20000 in
theorem mv_L_48 : MV RL 48 RX11 yX11_crash cX11_crash 4 (some .int) 1 := ⟨⟨wb 369 rfl, wb 371 rfl, wb 372 rfl, wb 73 rfl, wb 370 rfl⟩, by decide +kernel⟩
set_option maxRecDepth 20000 in
theorem mv_L_51 : MV RL 51 RX12 yX12_crash cX12_crash 3 (some .int) 1 := ⟨⟨wb 580 rfl, wb 582 rfl, wb 583 rfl, wb 98 rfl, wb 581 rfl⟩, by decide +kernel⟩
set_option maxRecDepth 20000 in
theorem mv_L_52 : MV RL 52 RX11 yX11_outs cX11_outs 3 (some .int) 1 := ⟨⟨wb 373 rfl, wb 375 rfl, wb 376 rfl, wb 73 rfl, wb 374 rfl⟩, by decide +kernel⟩
set_option maxRecDepth 20000 in
theorem mv_L_55 : MV RL 55 RX12 yX12_outs cX12_outs 2 (some .int) 1 := ⟨⟨wb 584 rfl, wb 586 rfl, wb 587 rfl, wb 98 rfl, wb 585 rfl⟩, by decide +kernel⟩
set_option maxRecDepth 20000 in
theorem mv_L_56 : MV RL 56 RX11 yX11_out cX11_out 4 (some .int) 2 := ⟨⟨wb 377 rfl, wb 379 rfl, wb 380 rfl, wb 73 rfl, wb 378 rfl⟩, by decide +kernel⟩
set_option maxRecDepth 20000 in
theorem mv_L_60 : MV RL 60 RX12 yX12_out cX12_out 3 (some .int) 2 := ⟨⟨wb 588 rfl, wb 590 rfl, wb 591 rfl, wb 98 rfl, wb 589 rfl⟩, by decide +kernel⟩
set_option maxRecDepth 20000 in
theorem mv_L_61 : MV RL 61 RX11 yX11_drop cX11_drop 4 (some .int) 1 := ⟨⟨wb 381 rfl, wb 383 rfl, wb 384 rfl, wb 73 rfl, wb 382 rfl⟩, by decide +kernel⟩
set_option maxRecDepth 20000 in
theorem mv_L_64 : MV RL 64 RX12 yX12_drop cX12_drop 3 (some .int) 1 := ⟨⟨wb 592 rfl, wb 594 rfl, wb 595 rfl, wb 98 rfl, wb 593 rfl⟩, by decide +kernel⟩
set_option maxRecDepth 20000 in
theorem mv_L_65 : MV RL 65 RX11 yX11_told cX11_told 2 (some .int) 1 := ⟨⟨wb 385 rfl, wb 387 rfl, wb 388 rfl, wb 73 rfl, wb 386 rfl⟩, by decide +kernel⟩
set_option maxRecDepth 20000 in
theorem mv_L_68 : MV RL 68 RX12 yX12_told cX12_told 2 (some .int) 1 := ⟨⟨wb 596 rfl, wb 598 rfl, wb 599 rfl, wb 98 rfl, wb 597 rfl⟩, by decide +kernel⟩
end
section
/-! making cells: a new cell stands at the front of the world; calls that change the world -/
theorem P_mem {D : va_G} {cl : List vw_C} {ws ws' : va_W} {H : Heap} (h : va_P D cl ws H) (hs : ∀ q ∈ ws', q ∈ ws) : va_P D cl ws' H := fun k q hk => by
  obtain ⟨i, hi⟩ := List.getElem?_of_mem (hs q (List.mem_of_getElem? hk))
  exact h i q hi
theorem P_front {D : va_G} {cl : List vw_C} {ws : va_W} {x : Nat × va_E} {H : Heap} (h : va_P D cl (ws ++ [x]) H) : va_P D cl (x :: ws) H := P_mem h (fun q hq => by
  rcases List.mem_cons.mp hq with rfl | hq
  · exact List.mem_append_right _ (List.mem_singleton.mpr rfl)
  · exact List.mem_append_left _ hq)
theorem D_front {A : Nat → Prop} {ws : va_W} {x : Nat × va_E} (h : va_D A (ws ++ [x])) : va_D A (x :: ws) := by
  have hx : (ws ++ [x])[ws.length]? = some x := List.getElem?_concat_length ..
  have hw : ∀ (i : Nat) (q : Nat × va_E), ws[i]? = some q → (ws ++ [x])[i]? = some q ∧ i < ws.length := fun i q hi => by
    have hl := (List.getElem?_eq_some_iff.mp hi).1
    exact ⟨by rw [List.getElem?_append_left hl]; exact hi, hl⟩
  refine ⟨fun i j a b hi hj hab => ?_, fun k q hk => ?_⟩
  · cases i with
    | zero =>
      cases j with
      | zero => rfl
      | succ j =>
        rw [List.getElem?_cons_zero] at hi
        rw [List.getElem?_cons_succ] at hj
        cases hi
        obtain ⟨h1, h2⟩ := hw j b hj
        have := h.1 _ _ _ _ hx h1 hab
        omega
    | succ i =>
      rw [List.getElem?_cons_succ] at hi
      obtain ⟨h1, h2⟩ := hw i a hi
      cases j with
      | zero =>
        rw [List.getElem?_cons_zero] at hj
        cases hj
        have := h.1 _ _ _ _ h1 hx hab
        omega
      | succ j =>
        rw [List.getElem?_cons_succ] at hj
        obtain ⟨h3, h4⟩ := hw j b hj
        rw [h.1 _ _ _ _ h1 h3 hab]
  · cases k with
    | zero =>
      rw [List.getElem?_cons_zero] at hk
      cases hk
      exact h.2 _ _ hx
    | succ k =>
      rw [List.getElem?_cons_succ] at hk
      exact h.2 _ _ (hw k q hk).1
theorem gx {α : Type} {X Y : List α} {k : Nat} {x : α} (h : Y[k]? = some x) : (X ++ Y)[X.length + k]? = some x := by
  rw [List.getElem?_append_right (by omega), Nat.add_sub_cancel_left]
  exact h
theorem sx {α : Type} {X Y : List α} {k : Nat} {x : α} : (X ++ Y).set (X.length + k) x = X ++ Y.set k x := by
  induction X with
  | nil => simp
  | cons a X ih =>
    rw [List.cons_append, List.cons_append, List.length_cons, show X.length + 1 + k = (X.length + k) + 1 by omega, List.set_cons_succ, ih]
theorem D_left {A : Nat → Prop} {w1 X : va_W} (h : va_D A (w1 ++ X)) : va_D A w1 := by
  have hw : ∀ (i : Nat) (q : Nat × va_E), w1[i]? = some q → (w1 ++ X)[i]? = some q := fun i q hi => by
    rw [List.getElem?_append_left (List.getElem?_eq_some_iff.mp hi).1]; exact hi
  exact ⟨fun i j a b hi hj hab => h.1 i j a b (hw i a hi) (hw j b hj) hab, fun k q hk => h.2 k q (hw k q hk)⟩
theorem D_right {A : Nat → Prop} {w1 X : va_W} (h : va_D A (w1 ++ X)) : va_D A X := by
  have hw : ∀ (i : Nat) (q : Nat × va_E), X[i]? = some q → (w1 ++ X)[w1.length + i]? = some q := fun i q hi => gx hi
  refine ⟨fun i j a b hi hj hab => ?_, fun k q hk => h.2 _ q (hw k q hk)⟩
  have := h.1 _ _ a b (hw i a hi) (hw j b hj) hab
  omega
theorem P_left {D : va_G} {cl : List vw_C} {w1 X : va_W} {H : Heap} (h : va_P D cl (w1 ++ X) H) : va_P D cl w1 H := P_mem h (fun _ hq => List.mem_append_left _ hq)
theorem P_right {D : va_G} {cl : List vw_C} {w1 X : va_W} {H : Heap} (h : va_P D cl (w1 ++ X) H) : va_P D cl X H := P_mem h (fun _ hq => List.mem_append_right _ hq)
/-- what stands beside the callee's world stays -/
theorem P_rest {D : va_G} {cl : List vw_C} {A : Nat → Prop} {wc X : va_W} {H H1 : Heap} (hP : va_P D cl (wc ++ X) H) (hD : va_D A (wc ++ X)) (hk : ∀ q : Nat, q < H.size → ¬ va_A wc H.size q → H1[q]? = H[q]?) : va_P D cl X H1 ∧ ∀ (k : Nat) (q : Nat × va_E), X[k]? = some q → q.1 < H.size ∧ ¬ va_A wc H.size q.1 := by
  have key : ∀ (k : Nat) (q : Nat × va_E), X[k]? = some q → q.1 < H.size ∧ ¬ va_A wc H.size q.1 := fun k q hq => by
    have h1 : (wc ++ X)[wc.length + k]? = some q := gx hq
    have hl := (hP _ q h1).lt
    refine ⟨hl, fun h => ?_⟩
    rcases h with ⟨i, e, h⟩ | h
    · have hi := (List.getElem?_eq_some_iff.mp h).1
      have h2 : (wc ++ X)[i]? = some (q.1, e) := by rw [List.getElem?_append_left hi]; exact h
      have := hD.1 _ _ _ _ h1 h2 rfl
      omega
    · omega
  exact ⟨fun k q hq => (P_right hP k q hq).kept (hk q.1 (key k q hq).1 (key k q hq).2), key⟩
theorem join_app {D : va_G} {cl : List vw_C} {A : Nat → Prop} {wc X w1 : va_W} {H H1 : Heap} (hP : va_P D cl (wc ++ X) H) (hD : va_D A (wc ++ X)) (hk : ∀ q : Nat, q < H.size → ¬ va_A wc H.size q → H1[q]? = H[q]?) (hF : ∀ q, va_A wc H.size q → A q) (hP1 : va_P D cl w1 H1) (hD1 : va_D (va_A wc H.size) w1) : va_P D cl (w1 ++ X) H1 ∧ va_D A (w1 ++ X) := by
  obtain ⟨h1, h2⟩ := P_rest hP hD hk
  refine ⟨va_P.app hP1 h1, va_D.app (hD1.weaken (fun k q _ h => hF q.1 h)) (D_right hD) (fun i j a b ha hb hab => ?_)⟩
  exact (h2 j b hb).2 (by rw [← hab]; exact hD1.2 i a ha)
theorem D_iff {A : Nat → Prop} {ws : va_W} : va_D A ws ↔ (ws.map (fun q => q.1)).Pairwise (fun a b => a ≠ b) ∧ ∀ q ∈ ws, A q.1 := by
  constructor
  · intro h
    refine ⟨?_, fun q hq => by obtain ⟨k, hk⟩ := List.getElem?_of_mem hq; exact h.2 k q hk⟩
    rw [List.pairwise_iff_getElem]
    intro i j hi hj hij he
    rw [List.length_map] at hi hj
    rw [List.getElem_map, List.getElem_map] at he
    have := h.1 i j _ _ (List.getElem?_eq_getElem hi) (List.getElem?_eq_getElem hj) he
    omega
  · intro h
    refine ⟨fun i j a b hi hj hab => ?_, fun k q hk => h.2 q (List.mem_of_getElem? hk)⟩
    have h1 := List.pairwise_iff_getElem.mp h.1
    obtain ⟨li, ei⟩ := List.getElem?_eq_some_iff.mp hi
    obtain ⟨lj, ej⟩ := List.getElem?_eq_some_iff.mp hj
    rcases Nat.lt_trichotomy i j with z | z | z
    · exact absurd (by rw [List.getElem_map, List.getElem_map, ei, ej]; exact hab) (h1 i j (by rw [List.length_map]; exact li) (by rw [List.length_map]; exact lj) z)
    · exact z
    · exact absurd (by rw [List.getElem_map, List.getElem_map, ei, ej]; exact hab.symm) (h1 j i (by rw [List.length_map]; exact lj) (by rw [List.length_map]; exact li) z)
theorem D_perm {A : Nat → Prop} {ws ws' : va_W} (hp : ws.Perm ws') (h : va_D A ws) : va_D A ws' := by
  rw [D_iff] at h ⊢
  exact ⟨(List.Perm.pairwise_iff (fun h => Ne.symm h) (hp.map _)).mp h.1, fun q hq => h.2 q (hp.mem_iff.mpr hq)⟩
theorem P_perm {D : va_G} {cl : List vw_C} {ws ws' : va_W} {H : Heap} (hp : ws.Perm ws') (h : va_P D cl ws H) : va_P D cl ws' H := P_mem h (fun _ hq => hp.mem_iff.mpr hq)
abbrev WV (l : Launch) (D : va_G) (t : Nat → ClassId) (y : MethodName) (bytes : ByteArray) (maxL : Nat) (rm : Room) (ws : va_W) (sz : Nat) (av : List Value) (mc ms : Nat) (E : State → Prop) (I : va_W → Prop) : Prop := Met l y (Cond.code y bytes maxL none :: big) rm (fun a U => PC D t ws sz av a U ∧ E U) (va_Qv I (fun w1 u => va_P D cl1 w1 u.heap ∧ va_D (va_A ws sz) w1) (va_A ws sz)) mc ms (va_A ws sz)
section H6
variable {p : Program} {l : Launch} {e : Env} {R : Room} {s : State} {m : MethodId} {args : Array Value} {below : List Frame} {meth : Method} {c : Code} {H : Heap} {locs : List Loc} {cells slots : Nat} {Q : State → Prop} {cc : ByteArray} {pc : Nat} {ls : Array Slot} {rest : List Value} {D : va_G} {t : Nat → ClassId} {A : Nat → Prop} {H0 : Heap} {ws : va_W} {own : String} {nL : Nat}
variable {C : String} {y : MethodName} {bytes : ByteArray} {maxL n index : Nat} {ret : Option FieldType} {rm : Room} {mc ms : Nat} {As st0 : List Value} {b q0 ci N : Nat} {fs : List Value} {T : u_T} {ty : Nat → FieldType} {E : State → Prop} {I : va_W → Prop}
theorem goE {sz : Nat} {av : List Value} {Qc : Array Value → State → Outcome → State → Prop} {free : Addr → Prop} (hy : plainName y.cls = true) (hav : (lg_sl av).length ≤ maxL)
    (body : ∀ (p : Program) (e : Env) (s : State) (m : MethodId) (below : List Frame) (meth : Method) (c : Code) (ls : Array Slot) (A : Nat → Prop), FX p m c cc maxL s av.toArray y.cls D t → meth.sig.returnType = ret → meth.locks = false → meth.name = y.name → sz = s.heap.size → (va_A ws sz = A) → va_P D cl1 ws s.heap → va_D A ws → va_S A s.heap s.heap [] → (∀ q, s.heap.size ≤ q → A q) → lv_has ls maxL (lv_args 0 av) → E s →
      W p l e rm s m av.toArray below meth c s.heap [] 0 0 (MQ below Qc av.toArray s mc ms free) (F0 m 0 ls [])) : Met l y (Cond.code y cc maxL ret :: big) rm (fun a U => PC D t ws sz av a U ∧ E U) Qc mc ms free := by
  refine Met.ofW (cc := cc) (maxL := maxL) (ret := ret) hy rfl ?_
  intro p e s m args below meth c s₁ B hml hv
  obtain ⟨⟨rfl, hsz, hP, hK, hD0⟩, hE⟩ := hv
  have hts := atoms_spec (ws := Cond.code y cc maxL ret :: big) B.pre
  have hown : s.vm.findClass y.cls = some m.cls := findClass_of_methodNamed B.named
  have hin : meth.name = y.name := (name_of_methodNamed B.named B.method).1
  rw [lg_entry_eq]
  have hl := lv_entry av (n := maxL) hav
  generalize (lg_sl av ++ List.replicate (maxL - (lg_sl av).length) Slot.unset).toArray = ls at hl ⊢
  exact body p e s m below meth c ls (va_A ws sz) ⟨⟨B.exec, B.bytes, hml, hown, fun w hw => hts w (List.mem_cons_of_mem _ hw)⟩, hK⟩ B.returns B.notSynchronized hin hsz.symm rfl hP hD0.self va_S.rf (fun q h => Or.inr (by rw [← hsz]; exact h)) hl hE
theorem r_new (hF : FX p m c cc nL s args own D t) (hC : CI ci C T N ty) (hdg : decode cc pc = .ok (.new index, 3)) (w1 : Cond.classLink own index C ∈ big) (w2 : Cond.instantiable C N ∈ big) (w3 : Cond.initialized C ∈ big) (hP : va_P D cl1 ws H) (hD : va_D A ws) (hS : va_S A H0 H locs) (hA : ∀ q, H0.size ≤ q → A q) (hfs : ∀ j, j < N → defaultValue (ty j) = vp_V fs j) (hcells : cells + 1 ≤ R.cells) (hslots : slots + N ≤ R.slots)
    (kk : ∀ (q : Nat) (H1 : Heap), va_P D cl1 ((q, .inr (ci, fs)) :: ws) H1 → va_D A ((q, .inr (ci, fs)) :: ws) → va_S A H0 H1 locs → W p l e R s m args below meth c H1 locs (cells + 1) (slots + N) Q (F0 m (pc + 3) ls (.ref q :: rest))) : W p l e R s m args below meth c H locs cells slots Q (F0 m pc ls rest) :=
  va_new hF.1.1 hF.1.2.1 hF.1.2.2.2.2 hC.2.1 ty hC.2.2.1 hF.1.2.2.2.1 (hF.1.2.2.2.2 _ w1) (hF.1.2.2.2.2 _ w2) (hF.1.2.2.2.2 _ w3) hF.2 hP hD hS hA hC.1 hfs hcells hslots hdg (fun q H1 h1 h2 h3 => kk q H1 (P_front h1) (D_front h2) h3)
theorem r_newF {atype : ArrayType} {tyE : FieldType} {t0 : Nat} {cB : ClassId} (hF : FX p m c cc nL s args own D t) (hdg : decode cc pc = .ok (.newarray atype, 2)) (hw : Cond.arrayClass (newarray.typeOf atype) ∈ big) (hty : newarray.typeOf atype = tyE) (ht : (tys1 t)[t0]? = some (cB, tyE)) (hprim : va_RA s cB tyE → s.vm.findClass ("[" ++ tyE.toString) = some cB) (hP : va_P D cl1 ws H) (hD : va_D A ws) (hS : va_S A H0 H locs) (hA : ∀ q, H0.size ≤ q → A q)
    {n : Int32} {N' : Nat} {a0 : vp_A} (ha : ∀ cA : ClassId, vp_cell cA a0 = arrV cA N' (fun _ => defaultValue tyE)) (hn : ¬ n < 0) (hN : n.toNatClampNeg = N') (hbytes : N' * componentBytes tyE ≤ 536870912) (hcells : cells + 1 ≤ R.cells) (hslots : slots + N' ≤ R.slots)
    (kk : ∀ (q : Nat) (H1 : Heap), va_P D cl1 ((q, .inl (cB, a0)) :: ws) H1 → va_D A ((q, .inl (cB, a0)) :: ws) → va_S A H0 H1 locs → W p l e R s m args below meth c H1 locs (cells + 1) (slots + N') Q (F0 m (pc + 2) ls (.ref q :: rest))) : W p l e R s m args below meth c H locs cells slots Q (F0 m pc ls (.int n :: rest)) :=
  r_newa hF hdg hw hty ht hprim hP hD hS hA ha hn hN hbytes hcells hslots (fun q H1 h1 h2 h3 => kk q H1 (P_front h1) (D_front h2) h3)
theorem r_newq {cB : ClassId} {t0 : Nat} (hF : FX p m c cc nL s args own D t) (hdg : decode cc pc = .ok (.anewarray index, 3)) (w1 : Cond.classLink own index C ∈ big) (hover : va_AO C s) (ht : (tys1 t)[t0]? = some (cB, .object C)) (hP : va_P D cl1 ws H) (hD : va_D A ws) (hS : va_S A H0 H locs) (hA : ∀ q, H0.size ≤ q → A q)
    {n : Int32} {N' : Nat} (hn : ¬ n < 0) (hN : n.toNatClampNeg = N') (hbytes : N' * 4 ≤ 536870912) (hcells : cells + 1 ≤ R.cells) (hslots : slots + N' ≤ R.slots)
    (kk : ∀ (q : Nat) (H1 : Heap), va_P D cl1 ((q, .inl (cB, N', .inr (.inr (.inr (.inr (fun _ => none)))))) :: ws) H1 → va_D A ((q, .inl (cB, N', .inr (.inr (.inr (.inr (fun _ => none)))))) :: ws) → va_S A H0 H1 locs → W p l e R s m args below meth c H1 locs (cells + 1) (slots + N') Q (F0 m (pc + 3) ls (.ref q :: rest))) : W p l e R s m args below meth c H locs cells slots Q (F0 m pc ls (.int n :: rest)) := by
  refine va_newq hF.1.1 hF.1.2.1 hF.1.2.2.2.1 (hF.1.2.2.2.2 _ w1) hover hF.2 hP hD hS hA hn hN hbytes hcells hslots hdg (fun q cA H1 hK1 hP1 hD1 hS1 => ?_)
  obtain ⟨_, _, -, -, -, h1⟩ := (hF.2.2 t0 _ ht).2
  obtain ⟨_, _, -, -, -, h2⟩ := (hK1.2 (tys1 t).length (cA, .object C) (List.getElem?_concat_length ..)).2
  have hc : cA = cB := Option.some.inj (h2.symm.trans h1)
  subst hc
  exact kk q H1 (P_front hP1) (D_front hD1) hS1
theorem r_aldq {t0 a nn : Nat} {cA : ClassId} {f : Nat → Option Nat} {i : Int32} {v : Value} (hF : FX p m c cc nL s args own D t) (hdg : decode cc pc = .ok (.aaload, 1)) (hP : va_P D cl1 ws H) (he : ws[q0]? = some (a, .inl (cA, nn, .inr (.inr (.inr (.inr f)))))) (ht : (tys1 t)[t0]? = some (cA, .object C)) (hin : vp_in i nn) (hv : va_rf (f i.toNatClampNeg) = v) (kk : W p l e R s m args below meth c H locs cells slots Q (F0 m (pc + 1) ls (v :: rest))) : W p l e R s m args below meth c H locs cells slots Q (F0 m pc ls (.int i :: .ref a :: rest)) :=
  va_aldq hF.1.1 hF.1.2.1 hF.2 hP q0 t0 he ht hin hdg (by rw [hv]; exact kk)
theorem r_astq {t0 a nn qk v : Nat} {cA : ClassId} {f : Nat → Option Nat} {i : Int32} (hF : FX p m c cc nL s args own D t) (hC : CI ci C T N ty) (hdg : decode cc pc = .ok (.aastore, 1)) (hP : va_P D cl1 ws H) (hD : va_D A ws) (hS : va_S A H0 H locs) (he : ws[q0]? = some (a, .inl (cA, nn, .inr (.inr (.inr (.inr f)))))) (ht : (tys1 t)[t0]? = some (cA, .object C)) (hv : ws[qk]? = some (v, .inr (ci, fs))) (hin : vp_in i nn)
    (kk : ∀ (H1 : Heap) (locs1 : List Loc), va_P D cl1 (ws.set q0 (a, .inl (cA, nn, .inr (.inr (.inr (.inr (va_up f i.toNatClampNeg (some v)))))))) H1 → va_D A (ws.set q0 (a, .inl (cA, nn, .inr (.inr (.inr (.inr (va_up f i.toNatClampNeg (some v)))))))) → va_S A H0 H1 locs1 → W p l e R s m args below meth c H1 locs1 cells slots Q (F0 m (pc + 1) ls rest)) : W p l e R s m args below meth c H locs cells slots Q (F0 m pc ls (.ref v :: .int i :: .ref a :: rest)) :=
  va_astq hF.1.1 hF.1.2.1 hF.2 hP hD hS q0 t0 qk ci he ht hv hC.1 hin hdg kk
theorem EP_blind {sz : Nat} {av : List Value} (h : ∀ (a : Array Value) (U : State) (g : JFrame) (mk : MethodId), E U → E (U.calling g mk a)) : FrameBlind (fun a U => PC D t ws sz av a U ∧ E U) := fun a U g mk q => ⟨PC_blind a U g mk q.1, h a U g mk q.2⟩
theorem r_cWI {wc X : va_W} (hF : FX p m c cc nL s args own D t) (hm : MI own index y bytes maxL n) (hM : WV l D t y bytes maxL rm wc H.size (.ref b :: As) mc ms E I) (hE1 : ∀ (a : Array Value) (U : State) (g : JFrame) (mk : MethodId), E U → E (U.calling g mk a)) (hE2 : ∀ U : State, U.heap = H → s.WarmedH U.vm → E U) (hdg : decode cc pc = .ok (.invokespecial index, 3)) (hrc : rm.cells = mc) (hrs : rm.slots = ms) (hR : rm.frames + 1 ≤ R.frames ∧ 8 + (maxL + 11) + rm.locals ≤ R.locals) (hn : As.length = n) (hls : ls.size = nL) (hW : (rest.map fun v => v.category).sum ≤ 8) (hP : va_P D cl1 (wc ++ X) H) (hD : va_D A (wc ++ X)) (hS : va_S A H0 H locs) (hA : ∀ q, H0.size ≤ q → A q) (hf : cells + mc ≤ R.cells ∧ slots + ms ≤ R.slots) (hst : st0 = As.reverse ++ .ref b :: rest)
    (kk : ∀ (w1 : va_W) (H1 : Heap) (locs1 : List Loc), I w1 → va_P D cl1 (w1 ++ X) H1 → va_D A (w1 ++ X) → va_S A H0 H1 locs1 → W p l e R s m args below meth c H1 locs1 (cells + mc) (slots + ms) Q (F0 m (pc + 3) ls rest)) : W p l e R s m args below meth c H locs cells slots Q (F0 m pc ls st0) := by
  obtain ⟨⟨w1, w2, w3, w5⟩, hy1, hd⟩ := hm
  have hG : GoodIn big (Cond.code y bytes maxL none :: big) := gw (fun w h => by
    rcases List.mem_cons.mp h with rfl | h
    · exact w5
    · exact h)
  have hr := va_runI (l := l) (e := e) (R := R) (below := below) (meth := meth) (H := H) (locs := locs) (cells := cells) (slots := slots) (g := F0 m pc ls st0) (rest := rest) hF.1 hM (cwI n hF.1.2.2.2.2 hG rfl hrc hrs (hF.1.2.2.2.2 _ w3) (hF.1.2.2.2.2 _ w1) (hF.1.2.2.2.2 _ w2) hy1 hd hR) ⟨EP_blind hE1, fun U hU hW2 => ⟨PC_at (P_left hP) (D_left hD) hF.2 U hU hW2, hE2 U hU hW2⟩⟩ rfl hn hls hst (lv_room hW) hdg hf
  refine va_callv hr hS (fun q _ h => a_in (D_left hD) hS hA q h) (a_in (D_left hD) hS hA) (fun u t1 H1 locs1 ht _ hI hB _ hk1 hS1 => ?_)
  obtain ⟨hB1, hB2⟩ := hB
  rw [ht] at hB1
  obtain ⟨j1, j2⟩ := join_app hP hD hk1 (a_in (D_left hD) hS hA) hB1 hB2
  exact kk u H1 locs1 hI j1 j2 hS1
theorem r_cWN {host : String} {wc X : va_W} (hF : FX p m c cc nL s args own D t) (hN : va_Nw (.methodLinkNest own index y host) s) (hm : (Cond.instanceMethod y ∈ big ∧ Cond.initialized y.cls ∈ big ∧ Cond.code y bytes maxL none ∈ big) ∧ y.name = "<init>" ∧ y.cls ≠ "java/lang/invoke/MethodHandle" ∧ y.cls ≠ "java/lang/invoke/VarHandle" ∧ (parseMethodDescriptor y.desc).map (fun d => d.parameters.length) = some n) (hM : WV l D t y bytes maxL rm wc H.size (.ref b :: As) mc ms E I) (hE1 : ∀ (a : Array Value) (U : State) (g : JFrame) (mk : MethodId), E U → E (U.calling g mk a)) (hE2 : ∀ U : State, U.heap = H → s.WarmedH U.vm → E U) (hdg : decode cc pc = .ok (.invokespecial index, 3)) (hrc : rm.cells = mc) (hrs : rm.slots = ms) (hR : rm.frames + 1 ≤ R.frames ∧ 8 + (maxL + 11) + rm.locals ≤ R.locals) (hn : As.length = n) (hls : ls.size = nL) (hW : (rest.map fun v => v.category).sum ≤ 8) (hP : va_P D cl1 (wc ++ X) H) (hD : va_D A (wc ++ X)) (hS : va_S A H0 H locs) (hA : ∀ q, H0.size ≤ q → A q) (hf : cells + mc ≤ R.cells ∧ slots + ms ≤ R.slots) (hst : st0 = As.reverse ++ .ref b :: rest)
    (kk : ∀ (w1 : va_W) (H1 : Heap) (locs1 : List Loc), I w1 → va_P D cl1 (w1 ++ X) H1 → va_D A (w1 ++ X) → va_S A H0 H1 locs1 → W p l e R s m args below meth c H1 locs1 (cells + mc) (slots + ms) Q (F0 m (pc + 3) ls rest)) : W p l e R s m args below meth c H locs cells slots Q (F0 m pc ls st0) := by
  obtain ⟨⟨w2, w3, w5⟩, hy1, hd⟩ := hm
  have hG : GoodIn big (Cond.code y bytes maxL none :: big) := gw (fun w h => by
    rcases List.mem_cons.mp h with rfl | h
    · exact w5
    · exact h)
  have hr := va_runIN (l := l) (e := e) (R := R) (below := below) (meth := meth) (H := H) (locs := locs) (cells := cells) (slots := slots) (g := F0 m pc ls st0) (rest := rest) hF.1 hM ⟨va_cnB n hF.1.2.2.2.2 hG rfl hrc hrs hN (hF.1.2.2.2.2 _ w3) hd hR, hy1, hF.1.2.2.2.2 _ w2⟩ ⟨EP_blind hE1, fun U hU hW2 => ⟨PC_at (P_left hP) (D_left hD) hF.2 U hU hW2, hE2 U hU hW2⟩⟩ rfl hn hls hst (lv_room hW) hdg hf
  refine va_callv hr hS (fun q _ h => a_in (D_left hD) hS hA q h) (a_in (D_left hD) hS hA) (fun u t1 H1 locs1 ht _ hI hB _ hk1 hS1 => ?_)
  obtain ⟨hB1, hB2⟩ := hB
  rw [ht] at hB1
  obtain ⟨j1, j2⟩ := join_app hP hD hk1 (a_in (D_left hD) hS hA) hB1 hB2
  exact kk u H1 locs1 hI j1 j2 hS1
theorem r_cWV (hF : FX p m c cc nL s args own D t) (hm : MV own index C y bytes maxL none n) (hC : CI ci C T N ty) (hM : WV l D t y bytes maxL rm ws H.size (.ref b :: As) mc ms (fun _ => True) I) (hdg : decode cc pc = .ok (.invokevirtual index, 3)) (hrc : rm.cells = mc) (hrs : rm.slots = ms) (hR : rm.frames + 1 ≤ R.frames ∧ 8 + (maxL + 11) + rm.locals ≤ R.locals) (hn : As.length = n) (hls : ls.size = nL) (hW : (rest.map fun v => v.category).sum ≤ 8) (hP : va_P D cl1 ws H) (hD : va_D A ws) (hS : va_S A H0 H locs) (hA : ∀ q, H0.size ≤ q → A q) (he : ws[q0]? = some (b, .inr (ci, fs))) (hf : cells + mc ≤ R.cells ∧ slots + ms ≤ R.slots) (hst : st0 = As.reverse ++ .ref b :: rest)
    (kk : ∀ (w1 : va_W) (H1 : Heap) (locs1 : List Loc), I w1 → va_P D cl1 w1 H1 → va_D A w1 → va_S A H0 H1 locs1 → W p l e R s m args below meth c H1 locs1 (cells + mc) (slots + ms) Q (F0 m (pc + 3) ls rest)) : W p l e R s m args below meth c H locs cells slots Q (F0 m pc ls st0) := by
  obtain ⟨⟨w1, w2, w3, w4, w5⟩, hd⟩ := hm
  have hG : GoodIn big (wsV own index C y (Cond.code y bytes maxL none :: big)) := gw (fun w h => by
    simp only [wsV, List.cons_append, List.nil_append, List.mem_cons] at h
    rcases h with rfl | rfl | rfl | rfl | rfl | h
    · exact w1
    · exact w2
    · exact w3
    · exact w4
    · exact w5
    · exact h)
  have hr := va_runV (l := l) (e := e) (R := R) (below := below) (meth := meth) (H := H) (locs := locs) (cells := cells) (slots := slots) (g := F0 m pc ls st0) (rest := rest) hF.1 hM (cwV n hF.1.2.2.2.2 hG rfl hrc hrs hd hR) ⟨EP_blind (fun _ _ _ _ h => h), va_recv hF.2 hP hC.1 he, fun U hU hW2 => ⟨PC_at hP hD hF.2 U hU hW2, trivial⟩⟩ rfl hn hls hst (lv_room hW) hdg hf
  refine va_callv hr hS (fun q _ h => a_in hD hS hA q h) (a_in hD hS hA) (fun u t1 H1 locs1 ht _ hI hB _ _ hS1 => ?_)
  obtain ⟨hB1, hB2⟩ := hB
  rw [ht] at hB1
  exact kk u H1 locs1 hI hB1 (hB2.weaken (fun k q _ h => a_in hD hS hA q.1 h)) hS1
theorem r_cWS (hF : FX p m c cc nL s args own D t) (hm : MS own index y bytes maxL none n) (hM : WV l D t y bytes maxL rm ws H.size As mc ms (fun _ => True) I) (hdg : decode cc pc = .ok (.invokestatic index, 3)) (hrc : rm.cells = mc) (hrs : rm.slots = ms) (hR : rm.frames + 1 ≤ R.frames ∧ 8 + (maxL + 11) + rm.locals ≤ R.locals) (hn : As.length = n) (hls : ls.size = nL) (hW : (rest.map fun v => v.category).sum ≤ 8) (hP : va_P D cl1 ws H) (hD : va_D A ws) (hS : va_S A H0 H locs) (hA : ∀ q, H0.size ≤ q → A q) (hf : cells + mc ≤ R.cells ∧ slots + ms ≤ R.slots) (hst : st0 = As.reverse ++ rest)
    (kk : ∀ (w1 : va_W) (H1 : Heap) (locs1 : List Loc), I w1 → va_P D cl1 w1 H1 → va_D A w1 → va_S A H0 H1 locs1 → W p l e R s m args below meth c H1 locs1 (cells + mc) (slots + ms) Q (F0 m (pc + 3) ls rest)) : W p l e R s m args below meth c H locs cells slots Q (F0 m pc ls st0) := by
  obtain ⟨⟨w1, w2, w3, w5⟩, hd⟩ := hm
  have hG : GoodIn big (va_wsS own index y (Cond.code y bytes maxL none :: big)) := gw (fun w h => by
    simp only [va_wsS, List.cons_append, List.nil_append, List.mem_cons] at h
    rcases h with rfl | rfl | rfl | rfl | h
    · exact w1
    · exact w2
    · exact w3
    · exact w5
    · exact h)
  have hr := va_runS (l := l) (e := e) (R := R) (below := below) (meth := meth) (H := H) (locs := locs) (cells := cells) (slots := slots) (g := F0 m pc ls st0) (rest := rest) hF.1 hM (va_cwS n hF.1.2.2.2.2 hG rfl hrc hrs hd hR) ⟨EP_blind (fun _ _ _ _ h => h), fun U hU hW2 => ⟨PC_at hP hD hF.2 U hU hW2, trivial⟩⟩ rfl hn hls hst (lv_room hW) hdg hf
  refine va_callv hr hS (fun q _ h => a_in hD hS hA q h) (a_in hD hS hA) (fun u t1 H1 locs1 ht _ hI hB _ _ hS1 => ?_)
  obtain ⟨hB1, hB2⟩ := hB
  rw [ht] at hB1
  exact kk u H1 locs1 hI hB1 (hB2.weaken (fun k q _ h => a_in hD hS hA q.1 h)) hS1
theorem r_retW (hF : FX p m c cc nL s args own D t) (hr : meth.sig.returnType = none) (hlk : meth.locks = false) (hdg : decode cc pc = .ok (.return_, 1)) (hP : va_P D cl1 ws H) (hD : va_D A ws) (hS : va_S A s.heap H locs) (hI : I ws) : W p l e R s m args below meth c H locs cells slots (MQ below (va_Qv I (fun w1 u => va_P D cl1 w1 u.heap ∧ va_D A w1) A) args s cells slots A) (F0 m pc ls []) :=
  W.vret hF.1.1 hF.1.2.1 hr (fun t1 ht _ => ⟨⟨ws, rfl, hI, by show va_P D cl1 ws t1.heap; rw [ht]; exact hP, hD⟩, hS.F ht⟩) hS.2.2 hdg hlk
/-- a loop whose world and whose room grow -/
theorem r_loopW {L0 : Nat → List (Nat × Value)} {J : Nat → va_W → Prop} (cs ss : Nat → Nat) (N : Nat) (hl : lv_has ls nL (L0 0)) (hJ : J 0 ws) (hP : va_P D cl1 ws H) (hD : va_D A ws) (hS : va_S A H0 H locs)
    (step : ∀ i, i < N → ∀ (ws : va_W) (ls : Array Slot) (H : Heap) (locs : List Loc), J i ws → lv_has ls nL (L0 i) → va_P D cl1 ws H → va_D A ws → va_S A H0 H locs → (∀ (ws : va_W) (ls : Array Slot) (H : Heap) (locs : List Loc), J (i + 1) ws → lv_has ls nL (L0 (i + 1)) → va_P D cl1 ws H → va_D A ws → va_S A H0 H locs → W p l e R s m args below meth c H locs (cs (i + 1)) (ss (i + 1)) Q (F0 m pc ls [])) → W p l e R s m args below meth c H locs (cs i) (ss i) Q (F0 m pc ls []))
    (exit : ∀ (ws : va_W) (ls : Array Slot) (H : Heap) (locs : List Loc), J N ws → lv_has ls nL (L0 N) → va_P D cl1 ws H → va_D A ws → va_S A H0 H locs → W p l e R s m args below meth c H locs (cs N) (ss N) Q (F0 m pc ls [])) : W p l e R s m args below meth c H locs (cs 0) (ss 0) Q (F0 m pc ls []) := by
  have key : ∀ n i, i + n = N → ∀ (ws : va_W) (ls : Array Slot) (H : Heap) (locs : List Loc), J i ws → lv_has ls nL (L0 i) → va_P D cl1 ws H → va_D A ws → va_S A H0 H locs → W p l e R s m args below meth c H locs (cs i) (ss i) Q (F0 m pc ls []) := by
    intro n
    induction n with
    | zero =>
      intro i hi
      have : i = N := by omega
      subst this
      exact exit
    | succ n ih =>
      intro i hi ws ls H locs h0 h1 h2 h3 h4
      exact step i (by omega) ws ls H locs h0 h1 h2 h3 h4 (ih (i + 1) (by omega))
  exact key N 0 (by omega) ws ls H locs hJ hl hP hD hS
end H6
theorem perm_mv {α : Type} (Y T Xc Tr : List α) : (Y ++ (T ++ (Xc ++ Tr))).Perm ((Y ++ Xc) ++ (T ++ Tr)) := by
  rw [List.append_assoc]
  refine List.Perm.append_left Y ?_
  rw [← List.append_assoc, ← List.append_assoc]
  exact List.perm_append_comm.append_right Tr
theorem perm_mv0 {α : Type} (N Xc TT : List α) : (N ++ (Xc ++ TT)).Perm (Xc ++ (N ++ TT)) := by
  rw [← List.append_assoc, ← List.append_assoc]
  exact List.perm_append_comm.append_right TT
section H7
variable {p : Program} {l : Launch} {e : Env} {R : Room} {s : State} {m : MethodId} {args : Array Value} {below : List Frame} {meth : Method} {c : Code} {H : Heap} {locs : List Loc} {cells slots : Nat} {Q : State → Prop} {cc : ByteArray} {pc : Nat} {ls : Array Slot} {rest : List Value} {D : va_G} {t : Nat → ClassId} {A : Nat → Prop} {H0 : Heap} {ws : va_W} {own : String} {nL : Nat} {y : MethodName} {bytes : ByteArray} {maxL n index : Nat} {rm : Room} {As st0 : List Value} {b : Nat}
theorem r_cKVi (hF : FX p m c cc nL s args own D t) (hm : MI own index y bytes maxL n) (hM : ∀ sz, KV l D t y bytes maxL rm ws sz (.ref b :: As)) (hdg : decode cc pc = .ok (.invokespecial index, 3)) (hrc : rm.cells = 0) (hrs : rm.slots = 0) (hR : rm.frames + 1 ≤ R.frames ∧ 8 + (maxL + 11) + rm.locals ≤ R.locals) (hn : As.length = n) (hls : ls.size = nL) (hW : (rest.map fun v => v.category).sum ≤ 8) (hP : va_P D cl1 ws H) (hD : va_D A ws) (hS : va_S A H0 H locs) (hA : ∀ q, H0.size ≤ q → A q) (hf : cells ≤ R.cells ∧ slots ≤ R.slots) (hst : st0 = As.reverse ++ .ref b :: rest)
    (kk : ∀ (H1 : Heap) (locs1 : List Loc), va_P D cl1 ws H1 → va_S A H0 H1 locs1 → W p l e R s m args below meth c H1 locs1 cells slots Q (F0 m (pc + 3) ls rest)) : W p l e R s m args below meth c H locs cells slots Q (F0 m pc ls st0) := by
  refine va_callv (r_runI hF hm (hM H.size) hdg hrc hrs hR hn hls hW hP hD hf hst) hS (fun q _ h => a_in hD hS hA q h) (a_in hD hS hA) (fun u t1 H1 locs1 ht _ _ hB _ _ hS1 => ?_)
  have hB : va_P D cl1 ws t1.heap := hB
  rw [ht] at hB
  exact kk H1 locs1 hB hS1
end H7
end
section
def mF (L : Nat → Nat) : List Value := [.ref (L 0), .int 0, .long 0, .ref (L 1), .ref (L 2), .ref (L 3), .ref (L 4), .ref (L 5), .ref (L 6), .ref (L 7), .ref (L 8), .ref (L 9), .ref (L 10), .ref (L 11), .ref (L 12), .ref (L 13), .int 0, .ref (L 14), .ref (L 15), .ref (L 16), .ref (L 17), .ref (L 18), .ref (L 19), .ref (L 20), .ref (L 21), .ref (L 22), .ref (L 23), .ref (L 24), .ref (L 25), .ref (L 26), .ref (L 27), .ref (L 28), .ref (L 29), .ref (L 30), .ref (L 31), .ref (L 32), .ref (L 33), .ref (L 34), .ref (L 35), .ref (L 36), .ref (L 37), .ref (L 38), .ref (L 39), .ref (L 40), .ref (L 41), .ref (L 42), .ref (L 43), .ref (L 44), .ref (L 45), .ref (L 46), .ref (L 47), .ref (L 48), .ref (L 49), .ref (L 50), .ref (L 51), .ref (L 52), .ref (L 53), .ref (L 54), .ref (L 55), .long 0, .long 0, .long 0, .long 0, .int 0, .ref (L 56), .ref (L 57), .ref (L 58), .ref (L 59), .ref (L 60), .int 0, .ref (L 61), .ref (L 62), .ref (L 63), .ref (L 64), .ref (L 65), .ref (L 66), .ref (L 67), .ref (L 68), .ref (L 69), .ref (L 70), .ref (L 71), .ref (L 72), .ref (L 73), .ref (L 74), .ref (L 75), .null, .int 0, .int 0, .int 0, .ref (L 76), .int 0, .int 0, .int 0, .int 0, .int 0, .int 0, .long 0, .long 0, .int 0, .int 0, .int 0, .long 0, .long 0, .int 0, .long 0, .long 0, .long 0, .long 0, .int 0, .int 0, .int 0, .long 0, .ref (L 77), .ref (L 78), .ref (L 79), .int 0, .int 0, .int 0, .int 0, .int 0]
def mW (t : Nat → ClassId) (h0 : Nat) (L : Nat → Nat) (sr : Nat → Int32) : va_W := [(h0, .inr (0, mF L)), ((L 0), .inl (t 0, 8000, .inl (fun _ => 0))), ((L 1), .inl (t 3, 160, .inl (fun _ => 0))), ((L 2), .inl (t 1, 160, .inl (fun _ => 0))), ((L 3), .inl (t 3, 160, .inl (fun _ => 0))), ((L 4), .inl (t 0, 1920, .inl (fun _ => 0))), ((L 5), .inl (t 1, 160, .inl (fun _ => 0))), ((L 6), .inl (t 1, 160, .inl (fun _ => 0))), ((L 7), .inl (t 2, 640, .inr (.inl (fun _ => 0)))), ((L 8), .inl (t 1, 160, .inl (fun _ => 0))), ((L 9), .inl (t 0, 655360, .inl (fun _ => 0))), ((L 10), .inl (t 3, 80, .inl (fun _ => 0))), ((L 11), .inl (t 1, 4, .inl sr)), ((L 12), .inl (t 0, 48, .inl (fun _ => 0))), ((L 13), .inl (t 1, 4, .inl (fun _ => 0))), ((L 14), .inl (t 1, 9, .inl (fun _ => 0))), ((L 15), .inl (t 1, 9, .inl (fun _ => 0))), ((L 16), .inl (t 1, 9, .inl (fun _ => 0))), ((L 17), .inl (t 3, 9, .inl (fun _ => 0))), ((L 18), .inl (t 0, 108, .inl (fun _ => 0))), ((L 19), .inl (t 1, 9, .inl (fun _ => 0))), ((L 20), .inl (t 1, 9, .inl (fun _ => 0))), ((L 21), .inl (t 2, 36, .inr (.inl (fun _ => 0)))), ((L 22), .inl (t 1, 9, .inl (fun _ => 0))), ((L 23), .inl (t 1, 9, .inl (fun _ => 0))), ((L 24), .inl (t 0, 9216, .inl (fun _ => 0))), ((L 25), .inl (t 3, 6, .inl (fun _ => 0))), ((L 26), .inl (t 3, 6, .inl (fun _ => 0))), ((L 27), .inl (t 0, 96000, .inl (fun _ => 0))), ((L 28), .inl (t 1, 6, .inl (fun _ => 0))), ((L 29), .inl (t 0, 72600, .inl (fun _ => 0))), ((L 30), .inl (t 1, 6, .inl (fun _ => 0))), ((L 31), .inl (t 2, 96, .inr (.inl (fun _ => 0)))), ((L 32), .inl (t 1, 6, .inl (fun _ => 0))), ((L 33), .inl (t 2, 6, .inr (.inl (fun _ => 0)))), ((L 34), .inl (t 2, 8, .inr (.inl (fun _ => 0)))), ((L 35), .inl (t 1, 8, .inl (fun _ => 0))), ((L 36), .inl (t 0, 128, .inl (fun _ => 0))), ((L 37), .inl (t 1, 8, .inl (fun _ => 0))), ((L 38), .inl (t 2, 16, .inr (.inl (fun _ => 0)))), ((L 39), .inl (t 1, 16, .inl (fun _ => 0))), ((L 40), .inl (t 1, 16, .inl (fun _ => 0))), ((L 41), .inl (t 2, 40, .inr (.inl (fun _ => 0)))), ((L 42), .inl (t 1, 40, .inl (fun _ => 0))), ((L 43), .inl (t 1, 40, .inl (fun _ => 0))), ((L 44), .inl (t 1, 40, .inl (fun _ => 0))), ((L 45), .inl (t 1, 40, .inl (fun _ => 0))), ((L 46), .inl (t 1, 40, .inl (fun _ => 0))), ((L 47), .inl (t 3, 40, .inl (fun _ => 0))), ((L 48), .inl (t 1, 40, .inl (fun _ => 0))), ((L 49), .inl (t 2, 40, .inr (.inl (fun _ => 0)))), ((L 50), .inl (t 3, 40, .inl (fun _ => 0))), ((L 51), .inl (t 1, 40, .inl (fun _ => 0))), ((L 52), .inl (t 1, 800, .inl (fun _ => 0))), ((L 53), .inl (t 1, 40, .inl (fun _ => 0))), ((L 54), .inl (t 0, 480, .inl (fun _ => 0))), ((L 55), .inl (t 1, 40, .inl (fun _ => 0))), ((L 56), .inl (t 2, 80, .inr (.inl (fun _ => 0)))), ((L 57), .inl (t 1, 80, .inl (fun _ => 0))), ((L 58), .inl (t 2, 80, .inr (.inl (fun _ => 0)))), ((L 59), .inl (t 2, 80, .inr (.inl (fun _ => 0)))), ((L 60), .inl (t 3, 80, .inl (fun _ => 0))), ((L 61), .inl (t 1, 16, .inl (fun _ => 0))), ((L 62), .inl (t 1, 16, .inl (fun _ => 0))), ((L 63), .inl (t 1, 16, .inl (fun _ => 0))), ((L 64), .inl (t 3, 16, .inl (fun _ => 0))), ((L 65), .inl (t 2, 16, .inr (.inl (fun _ => 0)))), ((L 66), .inl (t 2, 16, .inr (.inl (fun _ => 0)))), ((L 67), .inl (t 1, 16, .inl (fun _ => 0))), ((L 68), .inl (t 1, 16, .inl (fun _ => 0))), ((L 69), .inl (t 2, 16, .inr (.inl (fun _ => 0)))), ((L 70), .inl (t 1, 16, .inl (fun _ => 0))), ((L 71), .inl (t 2, 16, .inr (.inl (fun _ => 0)))), ((L 72), .inl (t 2, 16, .inr (.inl (fun _ => 0)))), ((L 73), .inl (t 3, 16, .inl (fun _ => 0))), ((L 74), .inl (t 1, 16, .inl (fun _ => 0))), ((L 75), .inl (t 0, 64000, .inl (fun _ => 0))), ((L 76), .inl (t 0, 90000, .inl (fun _ => 0))), ((L 77), .inl (t 1, 130, .inl (fun _ => 0))), ((L 78), .inl (t 1, 130, .inl (fun _ => 0))), ((L 79), .inl (t 1, 130, .inl (fun _ => 0)))]
def lineA (c a b : Int32) : Int32 := if c < 0 then b else if 6 ≤ c then b else a
theorem line_cases (k : Int32) : (∀ a b, lineA k a b = b) ∨ ∃ j : Nat, j < 6 ∧ k = nI j ∧ ∀ a b, lineA k a b = a := by
  by_cases h : k < 0
  · exact Or.inl (fun a b => by unfold lineA; rw [if_pos h])
  · by_cases h2 : 6 ≤ k
    · exact Or.inl (fun a b => by unfold lineA; rw [if_neg h, if_pos h2])
    · rcases pk_ix k (n := 6) (by decide) with h3 | h3 | ⟨j, hj, e⟩
      · exact absurd h3 h
      · exact absurd h3 h2
      · exact Or.inr ⟨j, hj, e, fun a b => by unfold lineA; rw [if_neg h, if_neg h2]⟩
def tapeA (n : Int32) : Int32 := if n = 0 then 0 else -1
def tickA (n : Int32) : Int32 := if n < 0 then 0 else if 1000000 < n then 0 else 1
def toldA (n : Int32) : Int32 := if n < 0 then -1 else if 8 < n then -1 else 0
set_option maxRecDepth 100000 in
set_option maxHeartbeats 4000000 in
theorem c_X12_isLine (l : Launch) (D : va_G) (t : Nat → ClassId) (ws : va_W) (k : Int32) (sz : Nat) : KI l D t yX12_isLine cX12_isLine 1 (some .boolean) ({ frames := 0, cells := 0, slots := 0, locals := 0 }) ws sz [.int k] (lineA k 1 0) := by
  refine go (by decide) (Nat.le_of_ble_eq_true rfl) ?_
  intro p e s m below meth c ls A hF hr hlk hin hsz hAe hP hD hS hA hl
  rw [hAe]
  clear hAe hsz
  have hF : FX p m c cX12_isLine 1 s _ RX12 D t := hF
  have hx := hF.1.1
  have hb := hF.1.2.1
  have hls := hl.1
  have hl : lv_has ls 1 [(0, .int k)] := hl
  refine lv_iload_n hx hb dX12_isLine_0 rfl (lv_at hl 0 rfl) ?_
  refine lv_if_lt (tgt := 14) hx hb dX12_isLine_1 rfl (fun h1 => ?_) (fun h1 => ?_)
  · refine lv_iconst (v := 0) hx hb dX12_isLine_14 (by decide) ?_
    exact r_retK hF hr hlk rfl dX12_isLine_15 hP hS (by unfold lineA; rw [if_pos h1])
  · refine lv_iload_n hx hb dX12_isLine_4 rfl (lv_at hl 0 rfl) ?_
    refine lv_bipush (v := 6) hx hb dX12_isLine_5 (by decide) ?_
    refine lv_icmp_ge (tgt := 14) hx hb dX12_isLine_7 rfl (fun h2 => ?_) (fun h2 => ?_)
    · refine lv_iconst (v := 0) hx hb dX12_isLine_14 (by decide) ?_
      exact r_retK hF hr hlk rfl dX12_isLine_15 hP hS (by unfold lineA; rw [if_neg h1, if_pos h2])
    · refine lv_iconst (v := 1) hx hb dX12_isLine_10 (by decide) ?_
      refine lv_goto (tgt := 15) hx hb dX12_isLine_11 rfl ?_
      exact r_retK hF hr hlk rfl dX12_isLine_15 hP hS (by unfold lineA; rw [if_neg h1, if_neg h2])
set_option maxRecDepth 100000 in
set_option maxHeartbeats 4000000 in
theorem c_X12_outs (l : Launch) (D : va_G) (t : Nat → ClassId) (h0 : Nat) (L : Nat → Nat) (sr : Nat → Int32) (k : Int32) (sz : Nat) : AI l D t yX12_outs cX12_outs 2 (some .int) ({ frames := 1, cells := 0, slots := 0, locals := 20 }) (mW t h0 L sr) sz [.ref h0, .int k] (lineA k 0 (-1)) := by
  refine go (by decide) (Nat.le_of_ble_eq_true rfl) ?_
  intro p e s m below meth c ls A hF hr hlk hin hsz hAe hP hD hS hA hl
  rw [hAe]
  clear hAe hsz
  have hF : FX p m c cX12_outs 2 s _ RX12 D t := hF
  have hx := hF.1.1
  have hb := hF.1.2.1
  have hls := hl.1
  have hl : lv_has ls 2 [(0, .ref h0), (1, .int k)] := hl
  have hP : va_P D cl1 [(h0, .inr (0, mF L)), ((L 28), .inl (t 1, 6, .inl (fun _ => 0)))] s.heap := hP.sub [0, 29] rfl
  have hD : va_D A [(h0, .inr (0, mF L)), ((L 28), .inl (t 1, 6, .inl (fun _ => 0)))] := hD.sub [0, 29] (by decide) rfl
  rcases line_cases k with hk | ⟨j, hj, hkj, hk⟩
  · refine lv_iload_n hx hb dX12_outs_0 rfl (lv_at hl 1 rfl) ?_
    refine r_cKIs (v := 0) (As := [.int k]) (rest := []) hF ms_X12_325 (fun sz => (hk 1 0) ▸ c_X12_isLine l D t _ _ sz) dX12_outs_1 rfl rfl (by decide) rfl hl.1 (by decide) hP hD hS hA (by decide) rfl (fun H locs hP hS => ?_)
    refine lv_if_eq (tgt := 16) hx hb dX12_outs_4 rfl (fun _ => ?_) (fun h => absurd rfl h)
    refine lv_iconst (v := (-1)) hx hb dX12_outs_16 (by decide) ?_
    exact r_retA hF hr hlk rfl dX12_outs_17 hS (hk 0 (-1)).symm
  · refine lv_iload_n hx hb dX12_outs_0 rfl (lv_at hl 1 rfl) ?_
    refine r_cKIs (v := 1) (As := [.int k]) (rest := []) hF ms_X12_325 (fun sz => (hk 1 0) ▸ c_X12_isLine l D t _ _ sz) dX12_outs_1 rfl rfl (by decide) rfl hl.1 (by decide) hP hD hS hA (by decide) rfl (fun H locs hP hS => ?_)
    refine lv_if_eq (tgt := 16) hx hb dX12_outs_4 rfl (fun h => absurd h (by decide)) (fun _ => ?_)
    refine lv_aload_n hx hb dX12_outs_7 rfl (lv_at hl 0 rfl) ?_
    refine r_get hF ci_X12 fl_X12_99 dX12_outs_8 hP (q0 := 0) rfl rfl ?_
    refine lv_iload_n hx hb dX12_outs_11 rfl (lv_at hl 1 rfl) ?_
    refine r_iald (v := 0) hF dX12_outs_12 hP (q0 := 1) rfl (by rw [hkj]; exact vp_in_nI hj (by decide)) rfl ?_
    refine lv_goto (tgt := 17) hx hb dX12_outs_13 rfl ?_
    exact r_retA hF hr hlk rfl dX12_outs_17 hS (hk 0 (-1)).symm
set_option maxRecDepth 100000 in
set_option maxHeartbeats 4000000 in
theorem c_X12_drop (l : Launch) (D : va_G) (t : Nat → ClassId) (h0 : Nat) (L : Nat → Nat) (sr : Nat → Int32) (k : Int32) (sz : Nat) : AI l D t yX12_drop cX12_drop 3 (some .int) ({ frames := 1, cells := 0, slots := 0, locals := 20 }) (mW t h0 L sr) sz [.ref h0, .int k] (lineA k 0 (-1)) := by
  refine go (by decide) (Nat.le_of_ble_eq_true rfl) ?_
  intro p e s m below meth c ls A hF hr hlk hin hsz hAe hP hD hS hA hl
  rw [hAe]
  clear hAe hsz
  have hF : FX p m c cX12_drop 3 s _ RX12 D t := hF
  have hx := hF.1.1
  have hb := hF.1.2.1
  have hls := hl.1
  have hl : lv_has ls 3 [(0, .ref h0), (1, .int k)] := hl
  have hP : va_P D cl1 [(h0, .inr (0, mF L)), ((L 28), .inl (t 1, 6, .inl (fun _ => 0)))] s.heap := hP.sub [0, 29] rfl
  have hD : va_D A [(h0, .inr (0, mF L)), ((L 28), .inl (t 1, 6, .inl (fun _ => 0)))] := hD.sub [0, 29] (by decide) rfl
  rcases line_cases k with hk | ⟨j, hj, hkj, hk⟩
  · refine lv_iload_n hx hb dX12_drop_0 rfl (lv_at hl 1 rfl) ?_
    refine r_cKIs (v := 0) (As := [.int k]) (rest := []) hF ms_X12_325 (fun sz => (hk 1 0) ▸ c_X12_isLine l D t _ _ sz) dX12_drop_1 rfl rfl (by decide) rfl hl.1 (by decide) hP hD hS hA (by decide) rfl (fun H locs hP hS => ?_)
    refine lv_if_ne (tgt := 9) hx hb dX12_drop_4 rfl (fun h => absurd h (by decide)) (fun _ => ?_)
    refine lv_iconst (v := (-1)) hx hb dX12_drop_7 (by decide) ?_
    exact r_retA hF hr hlk rfl dX12_drop_8 hS (hk 0 (-1)).symm
  · refine lv_iload_n hx hb dX12_drop_0 rfl (lv_at hl 1 rfl) ?_
    refine r_cKIs (v := 1) (As := [.int k]) (rest := []) hF ms_X12_325 (fun sz => (hk 1 0) ▸ c_X12_isLine l D t _ _ sz) dX12_drop_1 rfl rfl (by decide) rfl hl.1 (by decide) hP hD hS hA (by decide) rfl (fun H locs hP hS => ?_)
    refine lv_if_ne (tgt := 9) hx hb dX12_drop_4 rfl (fun _ => ?_) (fun h => absurd h (by decide))
    refine lv_aload_n hx hb dX12_drop_9 rfl (lv_at hl 0 rfl) ?_
    refine r_get hF ci_X12 fl_X12_99 dX12_drop_10 hP (q0 := 0) rfl rfl ?_
    refine lv_iload_n hx hb dX12_drop_13 rfl (lv_at hl 1 rfl) ?_
    refine r_iald (v := 0) hF dX12_drop_14 hP (q0 := 1) rfl (by rw [hkj]; exact vp_in_nI hj (by decide)) rfl ?_
    refine lv_istore_n (lv' := [(2, .int 0), (0, .ref h0), (1, .int k)]) hx hb dX12_drop_15 rfl hl (by decide) rfl (fun ls hl => ?_)
    refine lv_aload_n hx hb dX12_drop_16 rfl (lv_at hl 1 rfl) ?_
    refine r_get hF ci_X12 fl_X12_99 dX12_drop_17 hP (q0 := 0) rfl rfl ?_
    refine lv_iload_n hx hb dX12_drop_20 rfl (lv_at hl 2 rfl) ?_
    refine lv_iconst (v := 0) hx hb dX12_drop_21 (by decide) ?_
    refine r_iast0 hF dX12_drop_22 hP hD hS (q0 := 1) rfl (by rw [hkj]; exact vp_in_nI hj (by decide)) rfl (fun H locs hP hS => ?_)
    refine lv_iload_n hx hb dX12_drop_23 rfl (lv_at hl 0 rfl) ?_
    exact r_retA hF hr hlk rfl dX12_drop_24 hS (hk 0 (-1)).symm
set_option maxRecDepth 100000 in
set_option maxHeartbeats 4000000 in
theorem c_X12_hang (l : Launch) (D : va_G) (t : Nat → ClassId) (h0 : Nat) (L : Nat → Nat) (sr : Nat → Int32) (k : Int32) (sz : Nat) : AI l D t yX12_hang cX12_hang 2 (some .boolean) ({ frames := 1, cells := 0, slots := 0, locals := 20 }) (mW t h0 L sr) sz [.ref h0, .int k] 0 := by
  refine go (by decide) (Nat.le_of_ble_eq_true rfl) ?_
  intro p e s m below meth c ls A hF hr hlk hin hsz hAe hP hD hS hA hl
  rw [hAe]
  clear hAe hsz
  have hF : FX p m c cX12_hang 2 s _ RX12 D t := hF
  have hx := hF.1.1
  have hb := hF.1.2.1
  have hls := hl.1
  have hl : lv_has ls 2 [(0, .ref h0), (1, .int k)] := hl
  have hP : va_P D cl1 [(h0, .inr (0, mF L)), ((L 25), .inl (t 3, 6, .inl (fun _ => 0)))] s.heap := hP.sub [0, 26] rfl
  have hD : va_D A [(h0, .inr (0, mF L)), ((L 25), .inl (t 3, 6, .inl (fun _ => 0)))] := hD.sub [0, 26] (by decide) rfl
  rcases line_cases k with hk | ⟨j, hj, hkj, hk⟩
  · refine lv_iload_n hx hb dX12_hang_0 rfl (lv_at hl 1 rfl) ?_
    refine r_cKIs (v := 0) (As := [.int k]) (rest := []) hF ms_X12_325 (fun sz => (hk 1 0) ▸ c_X12_isLine l D t _ _ sz) dX12_hang_1 rfl rfl (by decide) rfl hl.1 (by decide) hP hD hS hA (by decide) rfl (fun H locs hP hS => ?_)
    refine lv_if_eq (tgt := 16) hx hb dX12_hang_4 rfl (fun _ => ?_) (fun h => absurd rfl h)
    refine lv_iconst (v := 0) hx hb dX12_hang_16 (by decide) ?_
    exact r_retA hF hr hlk rfl dX12_hang_17 hS rfl
  · refine lv_iload_n hx hb dX12_hang_0 rfl (lv_at hl 1 rfl) ?_
    refine r_cKIs (v := 1) (As := [.int k]) (rest := []) hF ms_X12_325 (fun sz => (hk 1 0) ▸ c_X12_isLine l D t _ _ sz) dX12_hang_1 rfl rfl (by decide) rfl hl.1 (by decide) hP hD hS hA (by decide) rfl (fun H locs hP hS => ?_)
    refine lv_if_eq (tgt := 16) hx hb dX12_hang_4 rfl (fun h => absurd h (by decide)) (fun _ => ?_)
    refine lv_aload_n hx hb dX12_hang_7 rfl (lv_at hl 0 rfl) ?_
    refine r_get hF ci_X12 fl_X12_89 dX12_hang_8 hP (q0 := 0) rfl rfl ?_
    refine lv_iload_n hx hb dX12_hang_11 rfl (lv_at hl 1 rfl) ?_
    refine r_zald (v := 0) hF dX12_hang_12 hP (q0 := 1) rfl (by rw [hkj]; exact vp_in_nI hj (by decide)) rfl ?_
    refine lv_if_ne (tgt := 18) hx hb dX12_hang_13 rfl (fun h => absurd h (by decide)) (fun _ => ?_)
    refine lv_iconst (v := 0) hx hb dX12_hang_16 (by decide) ?_
    exact r_retA hF hr hlk rfl dX12_hang_17 hS rfl
set_option maxRecDepth 100000 in
set_option maxHeartbeats 4000000 in
theorem c_X12_isOpen (l : Launch) (D : va_G) (t : Nat → ClassId) (h0 : Nat) (L : Nat → Nat) (sr : Nat → Int32) (k : Int32) (sz : Nat) : AI l D t yX12_isOpen cX12_isOpen 2 (some .boolean) ({ frames := 1, cells := 0, slots := 0, locals := 20 }) (mW t h0 L sr) sz [.ref h0, .int k] 0 := by
  refine go (by decide) (Nat.le_of_ble_eq_true rfl) ?_
  intro p e s m below meth c ls A hF hr hlk hin hsz hAe hP hD hS hA hl
  rw [hAe]
  clear hAe hsz
  have hF : FX p m c cX12_isOpen 2 s _ RX12 D t := hF
  have hx := hF.1.1
  have hb := hF.1.2.1
  have hls := hl.1
  have hl : lv_has ls 2 [(0, .ref h0), (1, .int k)] := hl
  have hP : va_P D cl1 [(h0, .inr (0, mF L)), ((L 25), .inl (t 3, 6, .inl (fun _ => 0)))] s.heap := hP.sub [0, 26] rfl
  have hD : va_D A [(h0, .inr (0, mF L)), ((L 25), .inl (t 3, 6, .inl (fun _ => 0)))] := hD.sub [0, 26] (by decide) rfl
  rcases line_cases k with hk | ⟨j, hj, hkj, hk⟩
  · refine lv_iload_n hx hb dX12_isOpen_0 rfl (lv_at hl 1 rfl) ?_
    refine r_cKIs (v := 0) (As := [.int k]) (rest := []) hF ms_X12_325 (fun sz => (hk 1 0) ▸ c_X12_isLine l D t _ _ sz) dX12_isOpen_1 rfl rfl (by decide) rfl hl.1 (by decide) hP hD hS hA (by decide) rfl (fun H locs hP hS => ?_)
    refine lv_if_eq (tgt := 20) hx hb dX12_isOpen_4 rfl (fun _ => ?_) (fun h => absurd rfl h)
    refine lv_iconst (v := 0) hx hb dX12_isOpen_20 (by decide) ?_
    exact r_retA hF hr hlk rfl dX12_isOpen_21 hS rfl
  · refine lv_iload_n hx hb dX12_isOpen_0 rfl (lv_at hl 1 rfl) ?_
    refine r_cKIs (v := 1) (As := [.int k]) (rest := []) hF ms_X12_325 (fun sz => (hk 1 0) ▸ c_X12_isLine l D t _ _ sz) dX12_isOpen_1 rfl rfl (by decide) rfl hl.1 (by decide) hP hD hS hA (by decide) rfl (fun H locs hP hS => ?_)
    refine lv_if_eq (tgt := 20) hx hb dX12_isOpen_4 rfl (fun h => absurd h (by decide)) (fun _ => ?_)
    refine lv_aload_n hx hb dX12_isOpen_7 rfl (lv_at hl 0 rfl) ?_
    refine r_get hF ci_X12 fl_X12_89 dX12_isOpen_8 hP (q0 := 0) rfl rfl ?_
    refine lv_iload_n hx hb dX12_isOpen_11 rfl (lv_at hl 1 rfl) ?_
    refine r_zald (v := 0) hF dX12_isOpen_12 hP (q0 := 1) rfl (by rw [hkj]; exact vp_in_nI hj (by decide)) rfl ?_
    refine lv_if_eq (tgt := 20) hx hb dX12_isOpen_13 rfl (fun _ => ?_) (fun h => absurd rfl h)
    refine lv_iconst (v := 0) hx hb dX12_isOpen_20 (by decide) ?_
    exact r_retA hF hr hlk rfl dX12_isOpen_21 hS rfl
set_option maxRecDepth 100000 in
set_option maxHeartbeats 4000000 in
theorem c_X12_come_ (l : Launch) (D : va_G) (t : Nat → ClassId) (h0 : Nat) (L : Nat → Nat) (sr : Nat → Int32) (k : Int32) (sz : Nat) : AI l D t yX12_come_ cX12_come_ 8 (some .int) ({ frames := 1, cells := 0, slots := 0, locals := 20 }) (mW t h0 L sr) sz [.ref h0, .int k] (-1) := by
  refine go (by decide) (Nat.le_of_ble_eq_true rfl) ?_
  intro p e s m below meth c ls A hF hr hlk hin hsz hAe hP hD hS hA hl
  rw [hAe]
  clear hAe hsz
  have hF : FX p m c cX12_come_ 8 s _ RX12 D t := hF
  have hx := hF.1.1
  have hb := hF.1.2.1
  have hls := hl.1
  have hl : lv_has ls 8 [(0, .ref h0), (1, .int k)] := hl
  have hP : va_P D cl1 [(h0, .inr (0, mF L)), ((L 25), .inl (t 3, 6, .inl (fun _ => 0)))] s.heap := hP.sub [0, 26] rfl
  have hD : va_D A [(h0, .inr (0, mF L)), ((L 25), .inl (t 3, 6, .inl (fun _ => 0)))] := hD.sub [0, 26] (by decide) rfl
  rcases line_cases k with hk | ⟨j, hj, hkj, hk⟩
  · refine lv_aload_n hx hb dX12_come__0 rfl (lv_at hl 0 rfl) ?_
    refine r_get hF ci_X12 fl_X12_261 dX12_come__1 hP (q0 := 0) rfl rfl ?_
    refine lv_istore_n (lv' := [(2, .int 0), (0, .ref h0), (1, .int k)]) hx hb dX12_come__4 rfl hl (by decide) rfl (fun ls hl => ?_)
    refine lv_aload_n hx hb dX12_come__5 rfl (lv_at hl 1 rfl) ?_
    refine lv_iconst (v := 0) hx hb dX12_come__6 (by decide) ?_
    refine r_put0 hF ci_X12 fl_X12_261 dX12_come__7 hP hD hS (q0 := 0) rfl rfl rfl rfl rfl (fun H locs hP hS => ?_)
    refine lv_iload_n hx hb dX12_come__10 rfl (lv_at hl 2 rfl) ?_
    refine r_cKIs (v := 0) (As := [.int k]) (rest := []) hF ms_X12_325 (fun sz => (hk 1 0) ▸ c_X12_isLine l D t _ _ sz) dX12_come__11 rfl rfl (by decide) rfl hl.1 (by decide) hP hD hS hA (by decide) rfl (fun H locs hP hS => ?_)
    refine lv_if_eq (tgt := 26) hx hb dX12_come__14 rfl (fun _ => ?_) (fun h => absurd rfl h)
    refine lv_iconst (v := (-1)) hx hb dX12_come__26 (by decide) ?_
    exact r_retA hF hr hlk rfl dX12_come__27 hS rfl
  · refine lv_aload_n hx hb dX12_come__0 rfl (lv_at hl 0 rfl) ?_
    refine r_get hF ci_X12 fl_X12_261 dX12_come__1 hP (q0 := 0) rfl rfl ?_
    refine lv_istore_n (lv' := [(2, .int 0), (0, .ref h0), (1, .int k)]) hx hb dX12_come__4 rfl hl (by decide) rfl (fun ls hl => ?_)
    refine lv_aload_n hx hb dX12_come__5 rfl (lv_at hl 1 rfl) ?_
    refine lv_iconst (v := 0) hx hb dX12_come__6 (by decide) ?_
    refine r_put0 hF ci_X12 fl_X12_261 dX12_come__7 hP hD hS (q0 := 0) rfl rfl rfl rfl rfl (fun H locs hP hS => ?_)
    refine lv_iload_n hx hb dX12_come__10 rfl (lv_at hl 2 rfl) ?_
    refine r_cKIs (v := 1) (As := [.int k]) (rest := []) hF ms_X12_325 (fun sz => (hk 1 0) ▸ c_X12_isLine l D t _ _ sz) dX12_come__11 rfl rfl (by decide) rfl hl.1 (by decide) hP hD hS hA (by decide) rfl (fun H locs hP hS => ?_)
    refine lv_if_eq (tgt := 26) hx hb dX12_come__14 rfl (fun h => absurd h (by decide)) (fun _ => ?_)
    refine lv_aload_n hx hb dX12_come__17 rfl (lv_at hl 1 rfl) ?_
    refine r_get hF ci_X12 fl_X12_89 dX12_come__18 hP (q0 := 0) rfl rfl ?_
    refine lv_iload_n hx hb dX12_come__21 rfl (lv_at hl 2 rfl) ?_
    refine r_zald (v := 0) hF dX12_come__22 hP (q0 := 1) rfl (by rw [hkj]; exact vp_in_nI hj (by decide)) rfl ?_
    refine lv_if_ne (tgt := 28) hx hb dX12_come__23 rfl (fun h => absurd h (by decide)) (fun _ => ?_)
    refine lv_iconst (v := (-1)) hx hb dX12_come__26 (by decide) ?_
    exact r_retA hF hr hlk rfl dX12_come__27 hS rfl
set_option maxRecDepth 100000 in
set_option maxHeartbeats 4000000 in
theorem c_X12_out (l : Launch) (D : va_G) (t : Nat → ClassId) (h0 : Nat) (L : Nat → Nat) (sr : Nat → Int32) (k : Int32) (k2 : Int32) (sz : Nat) : AI l D t yX12_out cX12_out 3 (some .int) ({ frames := 1, cells := 0, slots := 0, locals := 20 }) (mW t h0 L sr) sz [.ref h0, .int k, .int k2] (-1) := by
  refine go (by decide) (Nat.le_of_ble_eq_true rfl) ?_
  intro p e s m below meth c ls A hF hr hlk hin hsz hAe hP hD hS hA hl
  rw [hAe]
  clear hAe hsz
  have hF : FX p m c cX12_out 3 s _ RX12 D t := hF
  have hx := hF.1.1
  have hb := hF.1.2.1
  have hls := hl.1
  have hl : lv_has ls 3 [(0, .ref h0), (1, .int k), (2, .int k2)] := hl
  have hP : va_P D cl1 [(h0, .inr (0, mF L)), ((L 28), .inl (t 1, 6, .inl (fun _ => 0)))] s.heap := hP.sub [0, 29] rfl
  have hD : va_D A [(h0, .inr (0, mF L)), ((L 28), .inl (t 1, 6, .inl (fun _ => 0)))] := hD.sub [0, 29] (by decide) rfl
  rcases line_cases k with hk | ⟨j, hj, hkj, hk⟩
  · refine lv_iload_n hx hb dX12_out_0 rfl (lv_at hl 1 rfl) ?_
    refine r_cKIs (v := 0) (As := [.int k]) (rest := []) hF ms_X12_325 (fun sz => (hk 1 0) ▸ c_X12_isLine l D t _ _ sz) dX12_out_1 rfl rfl (by decide) rfl hl.1 (by decide) hP hD hS hA (by decide) rfl (fun H locs hP hS => ?_)
    refine lv_if_eq (tgt := 40) hx hb dX12_out_4 rfl (fun _ => ?_) (fun h => absurd rfl h)
    refine lv_iconst (v := (-1)) hx hb dX12_out_40 (by decide) ?_
    exact r_retA hF hr hlk rfl dX12_out_41 hS rfl
  · refine lv_iload_n hx hb dX12_out_0 rfl (lv_at hl 1 rfl) ?_
    refine r_cKIs (v := 1) (As := [.int k]) (rest := []) hF ms_X12_325 (fun sz => (hk 1 0) ▸ c_X12_isLine l D t _ _ sz) dX12_out_1 rfl rfl (by decide) rfl hl.1 (by decide) hP hD hS hA (by decide) rfl (fun H locs hP hS => ?_)
    refine lv_if_eq (tgt := 40) hx hb dX12_out_4 rfl (fun h => absurd h (by decide)) (fun _ => ?_)
    refine lv_iload_n hx hb dX12_out_7 rfl (lv_at hl 2 rfl) ?_
    refine lv_if_lt (tgt := 40) hx hb dX12_out_8 rfl (fun h1 => ?_) (fun h1 => ?_)
    · refine lv_iconst (v := (-1)) hx hb dX12_out_40 (by decide) ?_
      exact r_retA hF hr hlk rfl dX12_out_41 hS rfl
    · refine lv_iload_n hx hb dX12_out_11 rfl (lv_at hl 2 rfl) ?_
      refine lv_aload_n hx hb dX12_out_12 rfl (lv_at hl 0 rfl) ?_
      refine r_get hF ci_X12 fl_X12_99 dX12_out_13 hP (q0 := 0) rfl rfl ?_
      refine lv_iload_n hx hb dX12_out_16 rfl (lv_at hl 1 rfl) ?_
      refine r_iald (v := 0) hF dX12_out_17 hP (q0 := 1) rfl (by rw [hkj]; exact vp_in_nI hj (by decide)) rfl ?_
      refine lv_icmp_ge (tgt := 40) hx hb dX12_out_18 rfl (fun _ => ?_) (fun h => absurd (by rcases pk_ix k2 (n := 1) (by decide) with h3 | h3 | ⟨j3, hj3, rfl⟩; exact absurd h3 h1; exact Int32.le_trans (by decide) h3; exact (by have z3 : j3 = 0 := (by omega); subst z3; decide)) h)
      refine lv_iconst (v := (-1)) hx hb dX12_out_40 (by decide) ?_
      exact r_retA hF hr hlk rfl dX12_out_41 hS rfl
set_option maxRecDepth 100000 in
set_option maxHeartbeats 4000000 in
theorem c_X12_connect (l : Launch) (D : va_G) (t : Nat → ClassId) (h0 : Nat) (L : Nat → Nat) (sr : Nat → Int32) (k : Int32) (sz : Nat) : AI l D t yX12_connect cX12_connect 2 (some .boolean) ({ frames := 1, cells := 0, slots := 0, locals := 20 }) (mW t h0 L sr) sz [.ref h0, .int k] (lineA k 1 0) := by
  refine go (by decide) (Nat.le_of_ble_eq_true rfl) ?_
  intro p e s m below meth c ls A hF hr hlk hin hsz hAe hP hD hS hA hl
  rw [hAe]
  clear hAe hsz
  have hF : FX p m c cX12_connect 2 s _ RX12 D t := hF
  have hx := hF.1.1
  have hb := hF.1.2.1
  have hls := hl.1
  have hl : lv_has ls 2 [(0, .ref h0), (1, .int k)] := hl
  have hP : va_P D cl1 [(h0, .inr (0, mF L)), ((L 25), .inl (t 3, 6, .inl (fun _ => 0))), ((L 26), .inl (t 3, 6, .inl (fun _ => 0))), ((L 28), .inl (t 1, 6, .inl (fun _ => 0))), ((L 30), .inl (t 1, 6, .inl (fun _ => 0))), ((L 32), .inl (t 1, 6, .inl (fun _ => 0))), ((L 31), .inl (t 2, 96, .inr (.inl (fun _ => 0)))), ((L 33), .inl (t 2, 6, .inr (.inl (fun _ => 0))))] s.heap := hP.sub [0, 26, 27, 29, 31, 33, 32, 34] rfl
  have hD : va_D A [(h0, .inr (0, mF L)), ((L 25), .inl (t 3, 6, .inl (fun _ => 0))), ((L 26), .inl (t 3, 6, .inl (fun _ => 0))), ((L 28), .inl (t 1, 6, .inl (fun _ => 0))), ((L 30), .inl (t 1, 6, .inl (fun _ => 0))), ((L 32), .inl (t 1, 6, .inl (fun _ => 0))), ((L 31), .inl (t 2, 96, .inr (.inl (fun _ => 0)))), ((L 33), .inl (t 2, 6, .inr (.inl (fun _ => 0))))] := hD.sub [0, 26, 27, 29, 31, 33, 32, 34] (by decide) rfl
  rcases line_cases k with hk | ⟨j, hj, hkj, hk⟩
  · refine lv_iload_n hx hb dX12_connect_0 rfl (lv_at hl 1 rfl) ?_
    refine r_cKIs (v := 0) (As := [.int k]) (rest := []) hF ms_X12_325 (fun sz => (hk 1 0) ▸ c_X12_isLine l D t _ _ sz) dX12_connect_1 rfl rfl (by decide) rfl hl.1 (by decide) hP hD hS hA (by decide) rfl (fun H locs hP hS => ?_)
    refine lv_if_eq (tgt := 16) hx hb dX12_connect_4 rfl (fun _ => ?_) (fun h => absurd rfl h)
    refine lv_iconst (v := 0) hx hb dX12_connect_16 (by decide) ?_
    exact r_retA hF hr hlk rfl dX12_connect_17 hS (hk 1 0).symm
  · refine lv_iload_n hx hb dX12_connect_0 rfl (lv_at hl 1 rfl) ?_
    refine r_cKIs (v := 1) (As := [.int k]) (rest := []) hF ms_X12_325 (fun sz => (hk 1 0) ▸ c_X12_isLine l D t _ _ sz) dX12_connect_1 rfl rfl (by decide) rfl hl.1 (by decide) hP hD hS hA (by decide) rfl (fun H locs hP hS => ?_)
    refine lv_if_eq (tgt := 16) hx hb dX12_connect_4 rfl (fun h => absurd h (by decide)) (fun _ => ?_)
    refine lv_aload_n hx hb dX12_connect_7 rfl (lv_at hl 0 rfl) ?_
    refine r_get hF ci_X12 fl_X12_89 dX12_connect_8 hP (q0 := 0) rfl rfl ?_
    refine lv_iload_n hx hb dX12_connect_11 rfl (lv_at hl 1 rfl) ?_
    refine r_zald (v := 0) hF dX12_connect_12 hP (q0 := 1) rfl (by rw [hkj]; exact vp_in_nI hj (by decide)) rfl ?_
    refine lv_if_eq (tgt := 18) hx hb dX12_connect_13 rfl (fun _ => ?_) (fun h => absurd rfl h)
    refine lv_aload_n hx hb dX12_connect_18 rfl (lv_at hl 0 rfl) ?_
    refine r_get hF ci_X12 fl_X12_89 dX12_connect_19 hP (q0 := 0) rfl rfl ?_
    refine lv_iload_n hx hb dX12_connect_22 rfl (lv_at hl 1 rfl) ?_
    refine lv_iconst (v := 1) hx hb dX12_connect_23 (by decide) ?_
    refine r_zast hF dX12_connect_24 hP hD hS (q0 := 1) rfl (by rw [hkj]; exact vp_in_nI hj (by decide)) (fun H locs hP hD hS => ?_)
    refine lv_aload_n hx hb dX12_connect_25 rfl (lv_at hl 0 rfl) ?_
    refine r_get hF ci_X12 fl_X12_92 dX12_connect_26 hP (q0 := 0) rfl rfl ?_
    refine lv_iload_n hx hb dX12_connect_29 rfl (lv_at hl 1 rfl) ?_
    refine lv_iconst (v := 0) hx hb dX12_connect_30 (by decide) ?_
    refine r_zast hF dX12_connect_31 hP hD hS (q0 := 2) rfl (by rw [hkj]; exact vp_in_nI hj (by decide)) (fun H locs hP hD hS => ?_)
    refine lv_aload_n hx hb dX12_connect_32 rfl (lv_at hl 0 rfl) ?_
    refine r_get hF ci_X12 fl_X12_99 dX12_connect_33 hP (q0 := 0) rfl rfl ?_
    refine lv_iload_n hx hb dX12_connect_36 rfl (lv_at hl 1 rfl) ?_
    refine lv_iconst (v := 0) hx hb dX12_connect_37 (by decide) ?_
    refine r_iast hF dX12_connect_38 hP hD hS (q0 := 3) rfl (by rw [hkj]; exact vp_in_nI hj (by decide)) (fun H locs hP hD hS => ?_)
    refine lv_aload_n hx hb dX12_connect_39 rfl (lv_at hl 0 rfl) ?_
    refine r_get hF ci_X12 fl_X12_106 dX12_connect_40 hP (q0 := 0) rfl rfl ?_
    refine lv_iload_n hx hb dX12_connect_43 rfl (lv_at hl 1 rfl) ?_
    refine lv_iconst (v := 0) hx hb dX12_connect_44 (by decide) ?_
    refine r_iast hF dX12_connect_45 hP hD hS (q0 := 4) rfl (by rw [hkj]; exact vp_in_nI hj (by decide)) (fun H locs hP hD hS => ?_)
    refine lv_aload_n hx hb dX12_connect_46 rfl (lv_at hl 0 rfl) ?_
    refine r_get hF ci_X12 fl_X12_112 dX12_connect_47 hP (q0 := 0) rfl rfl ?_
    refine lv_iload_n hx hb dX12_connect_50 rfl (lv_at hl 1 rfl) ?_
    refine lv_iconst (v := 1) hx hb dX12_connect_51 (by decide) ?_
    refine r_iast hF dX12_connect_52 hP hD hS (q0 := 5) rfl (by rw [hkj]; exact vp_in_nI hj (by decide)) (fun H locs hP hD hS => ?_)
    refine lv_aload_n hx hb dX12_connect_53 rfl (lv_at hl 0 rfl) ?_
    refine r_get hF ci_X12 fl_X12_109 dX12_connect_54 hP (q0 := 0) rfl rfl ?_
    refine lv_bipush (v := 16) hx hb dX12_connect_57 (by decide) ?_
    refine lv_iload_n hx hb dX12_connect_59 rfl (lv_at hl 1 rfl) ?_
    refine lv_imul hx hb dX12_connect_60 ?_
    refine lv_lconst (v := 0) hx hb dX12_connect_61 (by decide) ?_
    refine r_last hF dX12_connect_62 hP hD hS (q0 := 6) rfl (by rw [hkj, show (16 : Int32) = nI 16 from rfl, pk_mul]; exact vp_in_nI (by omega) (by decide)) (fun H locs hP hD hS => ?_)
    refine lv_aload_n hx hb dX12_connect_63 rfl (lv_at hl 0 rfl) ?_
    refine r_get hF ci_X12 fl_X12_115 dX12_connect_64 hP (q0 := 0) rfl rfl ?_
    refine lv_iload_n hx hb dX12_connect_67 rfl (lv_at hl 1 rfl) ?_
    refine lv_lconst (v := 0) hx hb dX12_connect_68 (by decide) ?_
    refine r_last hF dX12_connect_69 hP hD hS (q0 := 7) rfl (by rw [hkj]; exact vp_in_nI hj (by decide)) (fun H locs hP hD hS => ?_)
    refine lv_iconst (v := 1) hx hb dX12_connect_70 (by decide) ?_
    exact r_retA hF hr hlk rfl dX12_connect_71 hS (hk 1 0).symm
set_option maxRecDepth 100000 in
set_option maxHeartbeats 4000000 in
theorem c_X12_cut (l : Launch) (D : va_G) (t : Nat → ClassId) (h0 : Nat) (L : Nat → Nat) (sr : Nat → Int32) (k : Int32) (sz : Nat) : AI l D t yX12_cut cX12_cut 3 (some .int) ({ frames := 0, cells := 0, slots := 0, locals := 0 }) (mW t h0 L sr) sz [.ref h0, .int k] (tapeA k) := by
  refine go (by decide) (Nat.le_of_ble_eq_true rfl) ?_
  intro p e s m below meth c ls A hF hr hlk hin hsz hAe hP hD hS hA hl
  rw [hAe]
  clear hAe hsz
  have hF : FX p m c cX12_cut 3 s _ RX12 D t := hF
  have hx := hF.1.1
  have hb := hF.1.2.1
  have hls := hl.1
  have hl : lv_has ls 3 [(0, .ref h0), (1, .int k)] := hl
  have hP : va_P D cl1 [(h0, .inr (0, mF L))] s.heap := hP.sub [0] rfl
  have hD : va_D A [(h0, .inr (0, mF L))] := hD.sub [0] (by decide) rfl
  refine lv_iload_n hx hb dX12_cut_0 rfl (lv_at hl 1 rfl) ?_
  refine lv_if_lt (tgt := 12) hx hb dX12_cut_1 rfl (fun h1 => ?_) (fun h1 => ?_)
  · refine lv_iconst (v := (-1)) hx hb dX12_cut_12 (by decide) ?_
    exact r_retA hF hr hlk rfl dX12_cut_13 hS (by unfold tapeA; rw [if_neg (fun z => by subst z; exact absurd h1 (by decide))])
  · refine lv_iload_n hx hb dX12_cut_4 rfl (lv_at hl 1 rfl) ?_
    refine lv_aload_n hx hb dX12_cut_5 rfl (lv_at hl 0 rfl) ?_
    refine r_get hF ci_X12 fl_X12_261 dX12_cut_6 hP (q0 := 0) rfl rfl ?_
    refine lv_icmp_le (tgt := 14) hx hb dX12_cut_9 rfl (fun h2 => ?_) (fun h2 => ?_)
    · have hk0 : k = 0 := by rcases pk_ix k (n := 1) (by decide) with h3 | h3 | ⟨j3, hj3, e3⟩; exact absurd h3 h1; exact absurd (Int32.le_trans h3 h2) (by decide); exact (by have z3 : j3 = 0 := (by omega); subst z3; exact e3)
      subst hk0
      refine lv_aload_n hx hb dX12_cut_14 rfl (lv_at hl 0 rfl) ?_
      refine r_get hF ci_X12 fl_X12_261 dX12_cut_15 hP (q0 := 0) rfl rfl ?_
      refine lv_iload_n hx hb dX12_cut_18 rfl (lv_at hl 1 rfl) ?_
      refine lv_isub hx hb dX12_cut_19 ?_
      refine lv_istore_n (lv' := [(2, .int (0 - 0)), (0, .ref h0), (1, .int 0)]) hx hb dX12_cut_20 rfl hl (by decide) rfl (fun ls hl => ?_)
      refine lv_aload_n hx hb dX12_cut_21 rfl (lv_at hl 1 rfl) ?_
      refine lv_iload_n hx hb dX12_cut_22 rfl (lv_at hl 2 rfl) ?_
      refine r_put0 hF ci_X12 fl_X12_261 dX12_cut_23 hP hD hS (q0 := 0) rfl rfl rfl rfl rfl (fun H locs hP hS => ?_)
      refine lv_iload_n hx hb dX12_cut_26 rfl (lv_at hl 0 rfl) ?_
      exact r_retA hF hr hlk rfl dX12_cut_27 hS (by decide)
    · refine lv_iconst (v := (-1)) hx hb dX12_cut_12 (by decide) ?_
      exact r_retA hF hr hlk rfl dX12_cut_13 hS (by unfold tapeA; rw [if_neg (fun z => h2 (by rw [z]; exact Int32.le_refl 0))])
set_option maxRecDepth 100000 in
set_option maxHeartbeats 4000000 in
theorem c_X12_share (l : Launch) (D : va_G) (t : Nat → ClassId) (h0 : Nat) (L : Nat → Nat) (sr : Nat → Int32) (hsr : ∀ i, i < 4 → sr i = -1) (k : Int32) (sz : Nat) : AI l D t yX12_share cX12_share 7 (some .boolean) ({ frames := 0, cells := 0, slots := 0, locals := 0 }) (mW t h0 L sr) sz [.ref h0, .int k] 0 := by
  refine go (by decide) (Nat.le_of_ble_eq_true rfl) ?_
  intro p e s m below meth c ls A hF hr hlk hin hsz hAe hP hD hS hA hl
  rw [hAe]
  clear hAe hsz
  have hF : FX p m c cX12_share 7 s _ RX12 D t := hF
  have hx := hF.1.1
  have hb := hF.1.2.1
  have hls := hl.1
  have hl : lv_has ls 7 [(0, .ref h0), (1, .int k)] := hl
  have hP : va_P D cl1 [(h0, .inr (0, mF L)), ((L 11), .inl (t 1, 4, .inl sr))] s.heap := hP.sub [0, 12] rfl
  have hD : va_D A [(h0, .inr (0, mF L)), ((L 11), .inl (t 1, 4, .inl sr))] := hD.sub [0, 12] (by decide) rfl
  refine lv_aload_n hx hb dX12_share_0 rfl (lv_at hl 0 rfl) ?_
  refine r_get hF ci_X12 fl_X12_261 dX12_share_1 hP (q0 := 0) rfl rfl ?_
  refine lv_istore_n (lv' := [(2, .int 0), (0, .ref h0), (1, .int k)]) hx hb dX12_share_4 rfl hl (by decide) rfl (fun ls hl => ?_)
  refine lv_aload_n hx hb dX12_share_5 rfl (lv_at hl 1 rfl) ?_
  refine lv_iconst (v := 0) hx hb dX12_share_6 (by decide) ?_
  refine r_put0 hF ci_X12 fl_X12_261 dX12_share_7 hP hD hS (q0 := 0) rfl rfl rfl rfl rfl (fun H locs hP hS => ?_)
  refine lv_iload_n hx hb dX12_share_10 rfl (lv_at hl 2 rfl) ?_
  refine lv_if_lt (tgt := 39) hx hb dX12_share_11 rfl (fun h1 => ?_) (fun h1 => ?_)
  · refine lv_iconst (v := 0) hx hb dX12_share_39 (by decide) ?_
    exact r_retA hF hr hlk rfl dX12_share_40 hS rfl
  · refine lv_iload_n hx hb dX12_share_14 rfl (lv_at hl 2 rfl) ?_
    refine lv_iconst (v := 3) hx hb dX12_share_15 (by decide) ?_
    refine lv_icmp_gt (tgt := 39) hx hb dX12_share_16 rfl (fun h2 => ?_) (fun h2 => ?_)
    · refine lv_iconst (v := 0) hx hb dX12_share_39 (by decide) ?_
      exact r_retA hF hr hlk rfl dX12_share_40 hS rfl
    · obtain ⟨j, hj, hkj⟩ : ∃ j : Nat, j < 4 ∧ k = nI j := by rcases pk_ix k (n := 4) (by decide) with h3 | h3 | h3; exact absurd h3 h1; exact absurd (Int32.lt_of_lt_of_le (by decide) h3) h2; exact h3
      refine lv_aload_n hx hb dX12_share_19 rfl (lv_at hl 1 rfl) ?_
      refine r_get hF ci_X12 fl_X12_47 dX12_share_20 hP (q0 := 0) rfl rfl ?_
      refine lv_iload_n hx hb dX12_share_23 rfl (lv_at hl 2 rfl) ?_
      refine r_iald (v := (-1)) hF dX12_share_24 hP (q0 := 1) rfl (by rw [hkj]; exact vp_in_nI hj (by decide)) (by rw [hkj, nI_clamp (by omega)]; exact hsr j hj) ?_
      refine lv_if_ge (tgt := 39) hx hb dX12_share_25 rfl (fun h => absurd h (by decide)) (fun _ => ?_)
      refine lv_iload_n hx hb dX12_share_28 rfl (lv_at hl 0 rfl) ?_
      refine lv_iconst (v := 1) hx hb dX12_share_29 (by decide) ?_
      refine lv_icmp_lt (tgt := 39) hx hb dX12_share_30 rfl (fun _ => ?_) (fun h => absurd (by decide) h)
      refine lv_iconst (v := 0) hx hb dX12_share_39 (by decide) ?_
      exact r_retA hF hr hlk rfl dX12_share_40 hS rfl
end
section
set_option maxRecDepth 100000 in
set_option maxHeartbeats 4000000 in
theorem c_X12_nodes (l : Launch) (D : va_G) (t : Nat → ClassId) (h0 : Nat) (L : Nat → Nat) (sr : Nat → Int32) (f : Nat) (hf : f ≤ 80) (sz : Nat) : KI l D t yX12_nodes cX12_nodes 4 (some .int) ({ frames := 0, cells := 0, slots := 0, locals := 0 }) (mW t h0 L sr) sz [.ref h0, .int (nI f)] 0 := by
  refine go (by decide) (Nat.le_of_ble_eq_true rfl) ?_
  intro p e s m below meth c ls A hF hr hlk hin hsz hAe hP hD hS hA hl
  rw [hAe]
  clear hAe hsz
  have hF : FX p m c cX12_nodes 4 s _ RX12 D t := hF
  have hx := hF.1.1
  have hb := hF.1.2.1
  have hls := hl.1
  have hl : lv_has ls 4 [(0, .ref h0), (1, .int (nI f))] := hl
  refine lv_iconst (v := 0) hx hb dX12_nodes_0 (by decide) ?_
  refine lv_istore_n (lv' := [(2, .int 0), (0, .ref h0), (1, .int (nI f))]) hx hb dX12_nodes_1 rfl hl (by decide) rfl (fun ls hl => ?_)
  refine lv_iload_n hx hb dX12_nodes_2 rfl (lv_at hl 2 rfl) ?_
  refine lv_istore_n (lv' := [(3, .int (nI f)), (2, .int 0), (0, .ref h0), (1, .int (nI f))]) hx hb dX12_nodes_3 rfl hl (by decide) rfl (fun ls hl => ?_)
  have hl : lv_has ls 4 [(3, .int (nI f)), (2, .int 0), (1, .int (nI f)), (0, .ref h0)] := lv_sub hl [0, 1, 3, 2] rfl
  refine r_loop (L0 := fun i => [(3, .int (nI (f + i))), (2, .int 0), (1, .int (nI f)), (0, .ref h0)]) 80 hl hP hS (fun i hi ls H locs hl hP hS ih => ?_) (fun ls H locs hl hP hS => ?_)
  · have hl : lv_has ls 4 [(3, .int (nI (f + i))), (2, .int 0), (1, .int (nI f)), (0, .ref h0)] := hl
    refine lv_iload_n hx hb dX12_nodes_4 rfl (lv_at hl 0 rfl) ?_
    refine lv_iload_n hx hb dX12_nodes_5 rfl (lv_at hl 2 rfl) ?_
    refine lv_bipush (v := 80) hx hb dX12_nodes_6 (by decide) ?_
    refine lv_iadd hx hb dX12_nodes_8 ?_
    refine lv_icmp_ge (tgt := 35) hx hb dX12_nodes_9 rfl (fun h => absurd h (by rw [show nI f + 80 = nI (f + 80) from nI_add f 80]; exact nI_ge (by omega) (by omega))) (fun _ => ?_)
    refine lv_iload_n hx hb dX12_nodes_12 rfl (lv_at hl 1 rfl) ?_
    refine lv_aload_n hx hb dX12_nodes_13 rfl (lv_at hl 3 rfl) ?_
    refine r_get hF ci_X12 fl_X12_13 dX12_nodes_14 hP (q0 := 0) rfl rfl ?_
    refine lv_iload_n hx hb dX12_nodes_17 rfl (lv_at hl 0 rfl) ?_
    refine r_zald (v := 0) hF dX12_nodes_18 hP (q0 := 2) rfl (vp_in_nI (by omega) (by decide)) rfl ?_
    refine lv_if_eq (tgt := 26) hx hb dX12_nodes_19 rfl (fun _ => ?_) (fun h => absurd rfl h)
    refine lv_iconst (v := 0) hx hb dX12_nodes_26 (by decide) ?_
    refine lv_iadd hx hb dX12_nodes_27 ?_
    refine lv_istore_n (lv' := [(2, .int (0 + 0)), (3, .int (nI (f + i))), (1, .int (nI f)), (0, .ref h0)]) hx hb dX12_nodes_28 rfl hl (by decide) rfl (fun ls hl => ?_)
    have hl : lv_has ls 4 [(2, .int 0), (3, .int (nI (f + i))), (1, .int (nI f)), (0, .ref h0)] := hl
    refine lv_iinc (lv' := [(3, .int (nI (f + (i + 1)))), (2, .int 0), (1, .int (nI f)), (0, .ref h0)]) (k := 1) (v := (nI (f + (i + 1)))) hx hb dX12_nodes_29 hl rfl (nI_1 (f + i)) (by decide) rfl (fun ls hl => ?_)
    refine lv_goto (tgt := 4) hx hb dX12_nodes_32 rfl ?_
    exact ih ls H locs hl hP hS
  · have hl : lv_has ls 4 [(3, .int (nI (f + 80))), (2, .int 0), (1, .int (nI f)), (0, .ref h0)] := hl
    refine lv_iload_n hx hb dX12_nodes_4 rfl (lv_at hl 0 rfl) ?_
    refine lv_iload_n hx hb dX12_nodes_5 rfl (lv_at hl 2 rfl) ?_
    refine lv_bipush (v := 80) hx hb dX12_nodes_6 (by decide) ?_
    refine lv_iadd hx hb dX12_nodes_8 ?_
    refine lv_icmp_ge (tgt := 35) hx hb dX12_nodes_9 rfl (fun _ => ?_) (fun h => absurd (by rw [show nI f + 80 = nI (f + 80) from nI_add f 80]; exact nI_le (Nat.le_refl _) (by omega)) h)
    refine lv_iload_n hx hb dX12_nodes_35 rfl (lv_at hl 1 rfl) ?_
    exact r_retK hF hr hlk rfl dX12_nodes_36 hP hS rfl
set_option maxRecDepth 100000 in
set_option maxHeartbeats 4000000 in
theorem c_X12_count (l : Launch) (D : va_G) (t : Nat → ClassId) (h0 : Nat) (L : Nat → Nat) (sr : Nat → Int32) (a n q1 : Nat) (hn : n < 1000) (he : (mW t h0 L sr)[q1]? = some (a, .inl (t 2, n, .inr (.inl (fun _ => 0))))) (sz : Nat) : KI l D t yX12_count cX12_count 4 (some .int) ({ frames := 0, cells := 0, slots := 0, locals := 0 }) (mW t h0 L sr) sz [.ref h0, .ref a] 0 := by
  refine go (by decide) (Nat.le_of_ble_eq_true rfl) ?_
  intro p e s m below meth c ls A hF hr hlk hin hsz hAe hP hD hS hA hl
  rw [hAe]
  clear hAe hsz
  have hF : FX p m c cX12_count 4 s _ RX12 D t := hF
  have hx := hF.1.1
  have hb := hF.1.2.1
  have hls := hl.1
  have hl : lv_has ls 4 [(0, .ref h0), (1, .ref a)] := hl
  refine lv_iconst (v := 0) hx hb dX12_count_0 (by decide) ?_
  refine lv_istore_n (lv' := [(2, .int 0), (0, .ref h0), (1, .ref a)]) hx hb dX12_count_1 rfl hl (by decide) rfl (fun ls hl => ?_)
  refine lv_iconst (v := 0) hx hb dX12_count_2 (by decide) ?_
  refine lv_istore_n (lv' := [(3, .int 0), (2, .int 0), (0, .ref h0), (1, .ref a)]) hx hb dX12_count_3 rfl hl (by decide) rfl (fun ls hl => ?_)
  have hl : lv_has ls 4 [(3, .int 0), (2, .int 0), (1, .ref a), (0, .ref h0)] := lv_sub hl [0, 1, 3, 2] rfl
  refine r_loop (L0 := fun i => [(3, .int (nI i)), (2, .int 0), (1, .ref a), (0, .ref h0)]) n hl hP hS (fun i hi ls H locs hl hP hS ih => ?_) (fun ls H locs hl hP hS => ?_)
  · have hl : lv_has ls 4 [(3, .int (nI i)), (2, .int 0), (1, .ref a), (0, .ref h0)] := hl
    refine lv_iload_n hx hb dX12_count_4 rfl (lv_at hl 0 rfl) ?_
    refine lv_aload_n hx hb dX12_count_5 rfl (lv_at hl 2 rfl) ?_
    refine r_alen (v := (nI n)) hF dX12_count_6 hP he (t0 := 2) rfl rfl ?_
    refine lv_icmp_ge (tgt := 32) hx hb dX12_count_7 rfl (fun h => absurd h (nI_ge hi (by omega))) (fun _ => ?_)
    refine lv_iload_n hx hb dX12_count_10 rfl (lv_at hl 1 rfl) ?_
    refine lv_aload_n hx hb dX12_count_11 rfl (lv_at hl 2 rfl) ?_
    refine lv_iload_n hx hb dX12_count_12 rfl (lv_at hl 0 rfl) ?_
    refine r_lald (v := 0) hF dX12_count_13 hP he (vp_in_nI hi (by omega)) rfl ?_
    refine lv_lconst (v := 0) hx hb dX12_count_14 (by decide) ?_
    refine W.lcmp hx hb dX12_count_15 ?_
    refine lv_if_le (tgt := 23) hx hb dX12_count_16 rfl (fun _ => ?_) (fun h => absurd (by decide) h)
    refine lv_iconst (v := 0) hx hb dX12_count_23 (by decide) ?_
    refine lv_iadd hx hb dX12_count_24 ?_
    refine lv_istore_n (lv' := [(2, .int (0 + 0)), (3, .int (nI i)), (1, .ref a), (0, .ref h0)]) hx hb dX12_count_25 rfl hl (by decide) rfl (fun ls hl => ?_)
    have hl : lv_has ls 4 [(2, .int 0), (3, .int (nI i)), (1, .ref a), (0, .ref h0)] := hl
    refine lv_iinc (lv' := [(3, .int (nI (i + 1))), (2, .int 0), (1, .ref a), (0, .ref h0)]) (k := 1) (v := (nI (i + 1))) hx hb dX12_count_26 hl rfl (nI_1 i) (by decide) rfl (fun ls hl => ?_)
    refine lv_goto (tgt := 4) hx hb dX12_count_29 rfl ?_
    exact ih ls H locs hl hP hS
  · have hl : lv_has ls 4 [(3, .int (nI n)), (2, .int 0), (1, .ref a), (0, .ref h0)] := hl
    refine lv_iload_n hx hb dX12_count_4 rfl (lv_at hl 0 rfl) ?_
    refine lv_aload_n hx hb dX12_count_5 rfl (lv_at hl 2 rfl) ?_
    refine r_alen (v := (nI n)) hF dX12_count_6 hP he (t0 := 2) rfl rfl ?_
    refine lv_icmp_ge (tgt := 32) hx hb dX12_count_7 rfl (fun _ => ?_) (fun h => absurd (nI_le (Nat.le_refl _) (by omega)) h)
    refine lv_iload_n hx hb dX12_count_32 rfl (lv_at hl 1 rfl) ?_
    exact r_retK hF hr hlk rfl dX12_count_33 hP hS rfl
set_option maxRecDepth 100000 in
set_option maxHeartbeats 4000000 in
theorem c_X12_told (l : Launch) (D : va_G) (t : Nat → ClassId) (h0 : Nat) (L : Nat → Nat) (sr : Nat → Int32) (k : Int32) (sz : Nat) : AI l D t yX12_told cX12_told 2 (some .int) ({ frames := 1, cells := 0, slots := 0, locals := 23 }) (mW t h0 L sr) sz [.ref h0, .int k] (toldA k) := by
  refine go (by decide) (Nat.le_of_ble_eq_true rfl) ?_
  intro p e s m below meth c ls A hF hr hlk hin hsz hAe hP hD hS hA hl
  rw [hAe]
  clear hAe hsz
  have hF : FX p m c cX12_told 2 s _ RX12 D t := hF
  have hx := hF.1.1
  have hb := hF.1.2.1
  have hls := hl.1
  have hl : lv_has ls 2 [(0, .ref h0), (1, .int k)] := hl
  rcases pk_ix k (n := 9) (by decide) with h1 | h1 | ⟨j, hj, hkj⟩
  · have hk : toldA k = -1 := by unfold toldA; rw [if_pos h1]
    refine lv_iload_n hx hb dX12_told_0 rfl (lv_at hl 1 rfl) ?_
    refine lv_tableOut (tgt := 113) hx hb dX12_told_1 (Or.inl (Int32.lt_iff_toInt_lt.mp h1)) rfl ?_
    refine lv_iconst (v := (-1)) hx hb dX12_told_113 (by decide) ?_
    exact r_retA hF hr hlk rfl dX12_told_114 hS hk.symm
  · have h8 : (8 : Int32) < k := Int32.lt_of_lt_of_le (by decide) h1
    have hk : toldA k = -1 := by unfold toldA; rw [if_pos h8]; exact ite_self _
    refine lv_iload_n hx hb dX12_told_0 rfl (lv_at hl 1 rfl) ?_
    refine lv_tableOut (tgt := 113) hx hb dX12_told_1 (Or.inr (Int32.lt_iff_toInt_lt.mp h8)) rfl ?_
    refine lv_iconst (v := (-1)) hx hb dX12_told_113 (by decide) ?_
    exact r_retA hF hr hlk rfl dX12_told_114 hS hk.symm
  · rcases (show j = 0 ∨ j = 1 ∨ j = 2 ∨ j = 3 ∨ j = 4 ∨ j = 5 ∨ j = 6 ∨ j = 7 ∨ j = 8 by omega) with z | z | z | z | z | z | z | z | z
    · subst z
      subst hkj
      refine lv_iload_n hx hb dX12_told_0 rfl (lv_at hl 1 rfl) ?_
      refine lv_tableIn (off := 51) (tgt := 52) hx hb dX12_told_1 (by decide) (by decide) rfl rfl ?_
      refine lv_aload_n hx hb dX12_told_52 rfl (lv_at hl 0 rfl) ?_
      refine r_get hF ci_X12 fl_X12_322 dX12_told_53 hP (q0 := 0) rfl rfl ?_
      refine lv_l2i (v := 0) hx hb dX12_told_56 (by decide) ?_
      exact r_retA hF hr hlk rfl dX12_told_57 hS (by decide)
    · subst z
      subst hkj
      refine lv_iload_n hx hb dX12_told_0 rfl (lv_at hl 1 rfl) ?_
      refine lv_tableIn (off := 57) (tgt := 58) hx hb dX12_told_1 (by decide) (by decide) rfl rfl ?_
      refine lv_aload_n hx hb dX12_told_58 rfl (lv_at hl 0 rfl) ?_
      refine r_get hF ci_X12 fl_X12_271 dX12_told_59 hP (q0 := 0) rfl rfl ?_
      exact r_retA hF hr hlk rfl dX12_told_62 hS (by decide)
    · subst z
      subst hkj
      refine lv_iload_n hx hb dX12_told_0 rfl (lv_at hl 1 rfl) ?_
      refine lv_tableIn (off := 62) (tgt := 63) hx hb dX12_told_1 (by decide) (by decide) rfl rfl ?_
      refine lv_aload_n hx hb dX12_told_63 rfl (lv_at hl 0 rfl) ?_
      refine lv_iconst (v := 0) hx hb dX12_told_64 (by decide) ?_
      refine r_cKI (v := 0) (As := [.int (nI 0)]) (rest := []) hF mv_X12_315 ci_X12 (fun sz => c_X12_nodes l D t h0 L sr 0 (by decide) sz) dX12_told_65 rfl rfl (by decide) rfl hl.1 (by decide) hP hD hS hA (q0 := 0) rfl (by decide) rfl (fun H locs hP hS => ?_)
      exact r_retA hF hr hlk rfl dX12_told_68 hS (by decide)
    · subst z
      subst hkj
      refine lv_iload_n hx hb dX12_told_0 rfl (lv_at hl 1 rfl) ?_
      refine lv_tableIn (off := 68) (tgt := 69) hx hb dX12_told_1 (by decide) (by decide) rfl rfl ?_
      refine lv_aload_n hx hb dX12_told_69 rfl (lv_at hl 0 rfl) ?_
      refine lv_aload_n hx hb dX12_told_70 rfl (lv_at hl 0 rfl) ?_
      refine r_get hF ci_X12 fl_X12_139 dX12_told_71 hP (q0 := 0) rfl rfl ?_
      refine r_cKI (v := 0) (As := [.ref (L 41)]) (rest := []) hF mv_X12_688 ci_X12 (fun sz => c_X12_count l D t h0 L sr _ 40 42 (by decide) rfl sz) dX12_told_74 rfl rfl (by decide) rfl hl.1 (by decide) hP hD hS hA (q0 := 0) rfl (by decide) rfl (fun H locs hP hS => ?_)
      exact r_retA hF hr hlk rfl dX12_told_77 hS (by decide)
    · subst z
      subst hkj
      refine lv_iload_n hx hb dX12_told_0 rfl (lv_at hl 1 rfl) ?_
      refine lv_tableIn (off := 77) (tgt := 78) hx hb dX12_told_1 (by decide) (by decide) rfl rfl ?_
      refine lv_aload_n hx hb dX12_told_78 rfl (lv_at hl 0 rfl) ?_
      refine r_get hF ci_X12 fl_X12_289 dX12_told_79 hP (q0 := 0) rfl rfl ?_
      exact r_retA hF hr hlk rfl dX12_told_82 hS (by decide)
    · subst z
      subst hkj
      refine lv_iload_n hx hb dX12_told_0 rfl (lv_at hl 1 rfl) ?_
      refine lv_tableIn (off := 82) (tgt := 83) hx hb dX12_told_1 (by decide) (by decide) rfl rfl ?_
      refine lv_aload_n hx hb dX12_told_83 rfl (lv_at hl 0 rfl) ?_
      refine r_get hF ci_X12 fl_X12_292 dX12_told_84 hP (q0 := 0) rfl rfl ?_
      exact r_retA hF hr hlk rfl dX12_told_87 hS (by decide)
    · subst z
      subst hkj
      refine lv_iload_n hx hb dX12_told_0 rfl (lv_at hl 1 rfl) ?_
      refine lv_tableIn (off := 87) (tgt := 88) hx hb dX12_told_1 (by decide) (by decide) rfl rfl ?_
      refine lv_aload_n hx hb dX12_told_88 rfl (lv_at hl 0 rfl) ?_
      refine lv_aload_n hx hb dX12_told_89 rfl (lv_at hl 0 rfl) ?_
      refine r_get hF ci_X12 fl_X12_118 dX12_told_90 hP (q0 := 0) rfl rfl ?_
      refine r_cKI (v := 0) (As := [.ref (L 34)]) (rest := []) hF mv_X12_688 ci_X12 (fun sz => c_X12_count l D t h0 L sr _ 8 35 (by decide) rfl sz) dX12_told_93 rfl rfl (by decide) rfl hl.1 (by decide) hP hD hS hA (q0 := 0) rfl (by decide) rfl (fun H locs hP hS => ?_)
      exact r_retA hF hr hlk rfl dX12_told_96 hS (by decide)
    · subst z
      subst hkj
      refine lv_iload_n hx hb dX12_told_0 rfl (lv_at hl 1 rfl) ?_
      refine lv_tableIn (off := 96) (tgt := 97) hx hb dX12_told_1 (by decide) (by decide) rfl rfl ?_
      refine lv_aload_n hx hb dX12_told_97 rfl (lv_at hl 0 rfl) ?_
      refine lv_aload_n hx hb dX12_told_98 rfl (lv_at hl 0 rfl) ?_
      refine r_get hF ci_X12 fl_X12_130 dX12_told_99 hP (q0 := 0) rfl rfl ?_
      refine r_cKI (v := 0) (As := [.ref (L 38)]) (rest := []) hF mv_X12_688 ci_X12 (fun sz => c_X12_count l D t h0 L sr _ 16 39 (by decide) rfl sz) dX12_told_102 rfl rfl (by decide) rfl hl.1 (by decide) hP hD hS hA (q0 := 0) rfl (by decide) rfl (fun H locs hP hS => ?_)
      exact r_retA hF hr hlk rfl dX12_told_105 hS (by decide)
    · subst z
      subst hkj
      refine lv_iload_n hx hb dX12_told_0 rfl (lv_at hl 1 rfl) ?_
      refine lv_tableIn (off := 105) (tgt := 106) hx hb dX12_told_1 (by decide) (by decide) rfl rfl ?_
      refine lv_aload_n hx hb dX12_told_106 rfl (lv_at hl 0 rfl) ?_
      refine lv_bipush (v := 80) hx hb dX12_told_107 (by decide) ?_
      refine r_cKI (v := 0) (As := [.int (nI 80)]) (rest := []) hF mv_X12_315 ci_X12 (fun sz => c_X12_nodes l D t h0 L sr 80 (by decide) sz) dX12_told_109 rfl rfl (by decide) rfl hl.1 (by decide) hP hD hS hA (q0 := 0) rfl (by decide) rfl (fun H locs hP hS => ?_)
      exact r_retA hF hr hlk rfl dX12_told_112 hS (by decide)
theorem dX12_tick_190 : decode cX12_tick 190 = .ok (.goto (-161), 3) := by decide +kernel
set_option maxRecDepth 100000 in
set_option maxHeartbeats 4000000 in
theorem c_X12_tick (l : Launch) (D : va_G) (t : Nat → ClassId) (h0 : Nat) (L : Nat → Nat) (sr : Nat → Int32) (k : Int32) (sz : Nat) : AI l D t yX12_tick cX12_tick 8 (some .boolean) ({ frames := 0, cells := 0, slots := 0, locals := 0 }) (mW t h0 L sr) sz [.ref h0, .int k] (tickA k) := by
  refine go (by decide) (Nat.le_of_ble_eq_true rfl) ?_
  intro p e s m below meth c ls A hF hr hlk hin hsz hAe hP hD hS hA hl
  rw [hAe]
  clear hAe hsz
  have hF : FX p m c cX12_tick 8 s _ RX12 D t := hF
  have hx := hF.1.1
  have hb := hF.1.2.1
  have hls := hl.1
  have hl : lv_has ls 8 [(0, .ref h0), (1, .int k)] := hl
  have hP : va_P D cl1 [(h0, .inr (0, mF L)), ((L 41), .inl (t 2, 40, .inr (.inl (fun _ => 0))))] s.heap := hP.sub [0, 42] rfl
  have hD : va_D A [(h0, .inr (0, mF L)), ((L 41), .inl (t 2, 40, .inr (.inl (fun _ => 0))))] := hD.sub [0, 42] (by decide) rfl
  refine lv_iload_n hx hb dX12_tick_0 rfl (lv_at hl 1 rfl) ?_
  refine lv_if_lt (tgt := 11) hx hb dX12_tick_1 rfl (fun h1 => ?_) (fun h1 => ?_)
  · refine lv_iconst (v := 0) hx hb dX12_tick_11 (by decide) ?_
    exact r_retA hF hr hlk rfl dX12_tick_12 hS (by unfold tickA; rw [if_pos h1])
  · refine lv_iload_n hx hb dX12_tick_4 rfl (lv_at hl 1 rfl) ?_
    refine lv_ldcw (v := 1000000) hx hb hF.1.2.2.2.1 (hF.1.2.2.2.2 _ (wb 575 rfl)) dX12_tick_5 ?_
    refine lv_icmp_le (tgt := 13) hx hb dX12_tick_8 rfl (fun h2 => ?_) (fun h2 => ?_)
    · refine lv_aload_n hx hb dX12_tick_13 rfl (lv_at hl 0 rfl) ?_
      refine lv_dup hx hb dX12_tick_14 rfl ?_
      refine r_get hF ci_X12 fl_X12_322 dX12_tick_15 hP (q0 := 0) rfl rfl ?_
      refine lv_iload_n hx hb dX12_tick_18 rfl (lv_at hl 1 rfl) ?_
      refine lv_i2l (v := k.toInt64) hx hb dX12_tick_19 rfl ?_
      refine lv_ladd hx hb dX12_tick_20 ?_
      refine r_put hF ci_X12 fl_X12_322 dX12_tick_21 hP hD hS (q0 := 0) rfl rfl rfl rfl (Nat.le_of_ble_eq_true rfl) (fun H locs hP hD hS => ?_)
      refine lv_lconst (v := 0) hx hb dX12_tick_24 (by decide) ?_
      refine lv_lstore_n (lv' := [(2, .long 0), (0, .ref h0), (1, .int k)]) hx hb dX12_tick_25 rfl hl (by decide) rfl (fun ls hl => ?_)
      refine lv_iconst (v := 1) hx hb dX12_tick_26 (by decide) ?_
      refine lv_istore (lv' := [(4, .int 1), (2, .long 0), (0, .ref h0), (1, .int k)]) hx hb dX12_tick_27 hl (by decide) rfl (fun ls hl => ?_)
      refine lv_iload hx hb dX12_tick_29 (lv_at hl 0 rfl) ?_
      refine lv_if_eq (tgt := 193) hx hb dX12_tick_31 rfl (fun h => absurd h (by decide)) (fun _ => ?_)
      refine lv_iconst (v := (-1)) hx hb dX12_tick_34 (by decide) ?_
      refine lv_istore (lv' := [(5, .int (-1)), (4, .int 1), (2, .long 0), (0, .ref h0), (1, .int k)]) hx hb dX12_tick_35 hl (by decide) rfl (fun ls hl => ?_)
      refine lv_iconst (v := 0) hx hb dX12_tick_37 (by decide) ?_
      refine lv_istore (lv' := [(6, .int 0), (5, .int (-1)), (4, .int 1), (2, .long 0), (0, .ref h0), (1, .int k)]) hx hb dX12_tick_38 hl (by decide) rfl (fun ls hl => ?_)
      have hl : lv_has ls 8 [(6, .int 0), (5, .int (-1)), (4, .int 1), (2, .long 0), (1, .int k), (0, .ref h0)] := lv_sub hl [0, 1, 2, 3, 5, 4] rfl
      refine r_loop (L0 := fun i => [(6, .int (nI i)), (5, .int (-1)), (4, .int 1), (2, .long 0), (1, .int k), (0, .ref h0)]) 40 hl hP hS (fun i hi ls H locs hl hP hS ih => ?_) (fun ls H locs hl hP hS => ?_)
      · have hl : lv_has ls 8 [(6, .int (nI i)), (5, .int (-1)), (4, .int 1), (2, .long 0), (1, .int k), (0, .ref h0)] := hl
        refine lv_iload hx hb dX12_tick_40 (lv_at hl 0 rfl) ?_
        refine lv_bipush (v := 40) hx hb dX12_tick_42 (by decide) ?_
        refine lv_icmp_ge (tgt := 138) hx hb dX12_tick_44 rfl (fun h => absurd h (nI_ge hi (by decide))) (fun _ => ?_)
        refine lv_aload_n hx hb dX12_tick_47 rfl (lv_at hl 5 rfl) ?_
        refine r_get hF ci_X12 fl_X12_139 dX12_tick_48 hP (q0 := 0) rfl rfl ?_
        refine lv_iload hx hb dX12_tick_51 (lv_at hl 0 rfl) ?_
        refine r_lald (v := 0) hF dX12_tick_53 hP (q0 := 1) rfl (vp_in_nI hi (by decide)) rfl ?_
        refine lv_lload_n hx hb dX12_tick_54 rfl (lv_at hl 3 rfl) ?_
        refine W.lcmp hx hb dX12_tick_55 ?_
        refine lv_if_le (tgt := 92) hx hb dX12_tick_56 rfl (fun _ => ?_) (fun h => absurd (by decide) h)
        refine lv_iconst (v := 0) hx hb dX12_tick_92 (by decide) ?_
        refine lv_istore (lv' := [(7, .int 0), (6, .int (nI i)), (5, .int (-1)), (4, .int 1), (2, .long 0), (1, .int k), (0, .ref h0)]) hx hb dX12_tick_93 hl (by decide) rfl (fun ls hl => ?_)
        refine lv_iload hx hb dX12_tick_95 (lv_at hl 0 rfl) ?_
        refine lv_if_eq (tgt := 128) hx hb dX12_tick_97 rfl (fun _ => ?_) (fun h => absurd rfl h)
        refine lv_iload hx hb dX12_tick_128 (lv_at hl 2 rfl) ?_
        refine lv_istore (lv' := [(5, .int (-1)), (7, .int 0), (6, .int (nI i)), (4, .int 1), (2, .long 0), (1, .int k), (0, .ref h0)]) hx hb dX12_tick_130 hl (by decide) rfl (fun ls hl => ?_)
        refine lv_iinc (lv' := [(6, .int (nI (i + 1))), (5, .int (-1)), (7, .int 0), (4, .int 1), (2, .long 0), (1, .int k), (0, .ref h0)]) (k := 2) (v := (nI (i + 1))) hx hb dX12_tick_132 hl rfl (nI_1 i) (by decide) rfl (fun ls hl => ?_)
        refine lv_goto (tgt := 40) hx hb dX12_tick_135 rfl ?_
        have hl : lv_has ls 8 [(6, .int (nI (i + 1))), (5, .int (-1)), (4, .int 1), (2, .long 0), (1, .int k), (0, .ref h0)] := lv_sub hl [0, 1, 3, 4, 5, 6] rfl
        exact ih ls H locs hl hP hS
      · have hl : lv_has ls 8 [(6, .int (nI 40)), (5, .int (-1)), (4, .int 1), (2, .long 0), (1, .int k), (0, .ref h0)] := hl
        refine lv_iload hx hb dX12_tick_40 (lv_at hl 0 rfl) ?_
        refine lv_bipush (v := 40) hx hb dX12_tick_42 (by decide) ?_
        refine lv_icmp_ge (tgt := 138) hx hb dX12_tick_44 rfl (fun _ => ?_) (fun h => absurd (nI_le (Nat.le_refl 40) (by decide)) h)
        refine lv_iload hx hb dX12_tick_138 (lv_at hl 1 rfl) ?_
        refine lv_if_lt (tgt := 147) hx hb dX12_tick_140 rfl (fun _ => ?_) (fun h => absurd (by decide) h)
        refine lv_iconst (v := 0) hx hb dX12_tick_147 (by decide) ?_
        refine lv_istore (lv' := [(4, .int 0), (6, .int (nI 40)), (5, .int (-1)), (2, .long 0), (1, .int k), (0, .ref h0)]) hx hb dX12_tick_148 hl (by decide) rfl (fun ls hl => ?_)
        refine lv_iload hx hb dX12_tick_150 (lv_at hl 0 rfl) ?_
        refine lv_if_eq (tgt := 190) hx hb dX12_tick_152 rfl (fun _ => ?_) (fun h => absurd rfl h)
        refine lv_goto (tgt := 29) hx hb dX12_tick_190 rfl ?_
        refine lv_iload hx hb dX12_tick_29 (lv_at hl 0 rfl) ?_
        refine lv_if_eq (tgt := 193) hx hb dX12_tick_31 rfl (fun _ => ?_) (fun h => absurd rfl h)
        refine lv_iconst (v := 1) hx hb dX12_tick_193 (by decide) ?_
        exact r_retA hF hr hlk rfl dX12_tick_194 hS (by unfold tickA; rw [if_neg h1, if_neg (Int32.not_lt.mpr h2)])
    · refine lv_iconst (v := 0) hx hb dX12_tick_11 (by decide) ?_
      exact r_retA hF hr hlk rfl dX12_tick_12 hS (by unfold tickA; rw [if_neg h1, if_pos (Int32.not_le.mp h2)])
set_option maxRecDepth 100000 in
set_option maxHeartbeats 4000000 in
theorem c_X12_come (l : Launch) (D : va_G) (t : Nat → ClassId) (h0 : Nat) (L : Nat → Nat) (sr : Nat → Int32) (sz : Nat) : KV l D t yX12_come cX12_come 4 ({ frames := 0, cells := 0, slots := 0, locals := 0 }) (mW t h0 L sr) sz [.ref h0, .int 0, .int 0] := by
  refine go (by decide) (Nat.le_of_ble_eq_true rfl) ?_
  intro p e s m below meth c ls A hF hr hlk hin hsz hAe hP hD hS hA hl
  rw [hAe]
  clear hAe hsz
  have hF : FX p m c cX12_come 4 s _ RX12 D t := hF
  have hx := hF.1.1
  have hb := hF.1.2.1
  have hls := hl.1
  have hl : lv_has ls 4 [(0, .ref h0), (1, .int 0), (2, .int 0)] := hl
  refine lv_iconst (v := 0) hx hb dX12_come_0 (by decide) ?_
  refine lv_istore_n (lv' := [(3, .int 0), (0, .ref h0), (1, .int 0), (2, .int 0)]) hx hb dX12_come_1 rfl hl (by decide) rfl (fun ls hl => ?_)
  refine lv_iload_n hx hb dX12_come_2 rfl (lv_at hl 0 rfl) ?_
  refine lv_iload_n hx hb dX12_come_3 rfl (lv_at hl 2 rfl) ?_
  refine lv_icmp_ge (tgt := 20) hx hb dX12_come_4 rfl (fun _ => ?_) (fun h => absurd (by decide) h)
  refine lv_aload_n hx hb dX12_come_20 rfl (lv_at hl 1 rfl) ?_
  refine lv_iconst (v := 0) hx hb dX12_come_21 (by decide) ?_
  refine r_put0 hF ci_X12 fl_X12_271 dX12_come_22 hP hD hS (q0 := 0) rfl rfl rfl rfl rfl (fun H locs hP hS => ?_)
  exact r_retV hF hr hlk dX12_come_25 hP hS
set_option maxRecDepth 100000 in
set_option maxHeartbeats 4000000 in
theorem c_X12_copyNode (l : Launch) (D : va_G) (t : Nat → ClassId) (h0 : Nat) (L : Nat → Nat) (sr : Nat → Int32) (f g : Nat) (hf : f < 160) (hg : g < 160) (sz : Nat) : KV l D t yX12_copyNode cX12_copyNode 4 ({ frames := 0, cells := 0, slots := 0, locals := 0 }) (mW t h0 L sr) sz [.ref h0, .int (nI f), .int (nI g)] := by
  refine go (by decide) (Nat.le_of_ble_eq_true rfl) ?_
  intro p e s m below meth c ls A hF hr hlk hin hsz hAe hP hD hS hA hl
  rw [hAe]
  clear hAe hsz
  have hF : FX p m c cX12_copyNode 4 s _ RX12 D t := hF
  have hx := hF.1.1
  have hb := hF.1.2.1
  have hls := hl.1
  have hl : lv_has ls 4 [(0, .ref h0), (1, .int (nI f)), (2, .int (nI g))] := hl
  refine lv_aload_n hx hb dX12_copyNode_0 rfl (lv_at hl 0 rfl) ?_
  refine r_get hF ci_X12 fl_X12_13 dX12_copyNode_1 hP (q0 := 0) rfl rfl ?_
  refine lv_iload_n hx hb dX12_copyNode_4 rfl (lv_at hl 2 rfl) ?_
  refine lv_aload_n hx hb dX12_copyNode_5 rfl (lv_at hl 0 rfl) ?_
  refine r_get hF ci_X12 fl_X12_13 dX12_copyNode_6 hP (q0 := 0) rfl rfl ?_
  refine lv_iload_n hx hb dX12_copyNode_9 rfl (lv_at hl 1 rfl) ?_
  refine r_zald (v := 0) hF dX12_copyNode_10 hP (q0 := 2) rfl (vp_in_nI hf (by decide)) rfl ?_
  refine r_zast0 hF dX12_copyNode_11 hP hD hS (q0 := 2) rfl (vp_in_nI hg (by decide)) rfl (fun H locs hP hS => ?_)
  refine lv_aload_n hx hb dX12_copyNode_12 rfl (lv_at hl 0 rfl) ?_
  refine r_get hF ci_X12 fl_X12_17 dX12_copyNode_13 hP (q0 := 0) rfl rfl ?_
  refine lv_iload_n hx hb dX12_copyNode_16 rfl (lv_at hl 2 rfl) ?_
  refine lv_aload_n hx hb dX12_copyNode_17 rfl (lv_at hl 0 rfl) ?_
  refine r_get hF ci_X12 fl_X12_17 dX12_copyNode_18 hP (q0 := 0) rfl rfl ?_
  refine lv_iload_n hx hb dX12_copyNode_21 rfl (lv_at hl 1 rfl) ?_
  refine r_iald (v := 0) hF dX12_copyNode_22 hP (q0 := 3) rfl (vp_in_nI hf (by decide)) rfl ?_
  refine r_iast0 hF dX12_copyNode_23 hP hD hS (q0 := 3) rfl (vp_in_nI hg (by decide)) rfl (fun H locs hP hS => ?_)
  refine lv_aload_n hx hb dX12_copyNode_24 rfl (lv_at hl 0 rfl) ?_
  refine r_get hF ci_X12 fl_X12_21 dX12_copyNode_25 hP (q0 := 0) rfl rfl ?_
  refine lv_iload_n hx hb dX12_copyNode_28 rfl (lv_at hl 2 rfl) ?_
  refine lv_aload_n hx hb dX12_copyNode_29 rfl (lv_at hl 0 rfl) ?_
  refine r_get hF ci_X12 fl_X12_21 dX12_copyNode_30 hP (q0 := 0) rfl rfl ?_
  refine lv_iload_n hx hb dX12_copyNode_33 rfl (lv_at hl 1 rfl) ?_
  refine r_zald (v := 0) hF dX12_copyNode_34 hP (q0 := 4) rfl (vp_in_nI hf (by decide)) rfl ?_
  refine r_zast0 hF dX12_copyNode_35 hP hD hS (q0 := 4) rfl (vp_in_nI hg (by decide)) rfl (fun H locs hP hS => ?_)
  refine lv_aload_n hx hb dX12_copyNode_36 rfl (lv_at hl 0 rfl) ?_
  refine r_get hF ci_X12 fl_X12_27 dX12_copyNode_37 hP (q0 := 0) rfl rfl ?_
  refine lv_iload_n hx hb dX12_copyNode_40 rfl (lv_at hl 2 rfl) ?_
  refine lv_aload_n hx hb dX12_copyNode_41 rfl (lv_at hl 0 rfl) ?_
  refine r_get hF ci_X12 fl_X12_27 dX12_copyNode_42 hP (q0 := 0) rfl rfl ?_
  refine lv_iload_n hx hb dX12_copyNode_45 rfl (lv_at hl 1 rfl) ?_
  refine r_iald (v := 0) hF dX12_copyNode_46 hP (q0 := 6) rfl (vp_in_nI hf (by decide)) rfl ?_
  refine r_iast0 hF dX12_copyNode_47 hP hD hS (q0 := 6) rfl (vp_in_nI hg (by decide)) rfl (fun H locs hP hS => ?_)
  refine lv_aload_n hx hb dX12_copyNode_48 rfl (lv_at hl 0 rfl) ?_
  refine r_get hF ci_X12 fl_X12_30 dX12_copyNode_49 hP (q0 := 0) rfl rfl ?_
  refine lv_iload_n hx hb dX12_copyNode_52 rfl (lv_at hl 2 rfl) ?_
  refine lv_aload_n hx hb dX12_copyNode_53 rfl (lv_at hl 0 rfl) ?_
  refine r_get hF ci_X12 fl_X12_30 dX12_copyNode_54 hP (q0 := 0) rfl rfl ?_
  refine lv_iload_n hx hb dX12_copyNode_57 rfl (lv_at hl 1 rfl) ?_
  refine r_iald (v := 0) hF dX12_copyNode_58 hP (q0 := 7) rfl (vp_in_nI hf (by decide)) rfl ?_
  refine r_iast0 hF dX12_copyNode_59 hP hD hS (q0 := 7) rfl (vp_in_nI hg (by decide)) rfl (fun H locs hP hS => ?_)
  refine lv_aload_n hx hb dX12_copyNode_60 rfl (lv_at hl 0 rfl) ?_
  refine r_get hF ci_X12 fl_X12_37 dX12_copyNode_61 hP (q0 := 0) rfl rfl ?_
  refine lv_iload_n hx hb dX12_copyNode_64 rfl (lv_at hl 2 rfl) ?_
  refine lv_aload_n hx hb dX12_copyNode_65 rfl (lv_at hl 0 rfl) ?_
  refine r_get hF ci_X12 fl_X12_37 dX12_copyNode_66 hP (q0 := 0) rfl rfl ?_
  refine lv_iload_n hx hb dX12_copyNode_69 rfl (lv_at hl 1 rfl) ?_
  refine r_iald (v := 0) hF dX12_copyNode_70 hP (q0 := 9) rfl (vp_in_nI hf (by decide)) rfl ?_
  refine r_iast0 hF dX12_copyNode_71 hP hD hS (q0 := 9) rfl (vp_in_nI hg (by decide)) rfl (fun H locs hP hS => ?_)
  refine lv_iconst (v := 0) hx hb dX12_copyNode_72 (by decide) ?_
  refine lv_istore_n (lv' := [(3, .int 0), (0, .ref h0), (1, .int (nI f)), (2, .int (nI g))]) hx hb dX12_copyNode_73 rfl hl (by decide) rfl (fun ls hl => ?_)
  have hl : lv_has ls 4 [(3, .int 0), (2, .int (nI g)), (1, .int (nI f)), (0, .ref h0)] := lv_sub hl [0, 3, 2, 1] rfl
  refine r_loop (L0 := fun i => [(3, .int (nI i)), (2, .int (nI g)), (1, .int (nI f)), (0, .ref h0)]) 12 hl hP hS (fun i hi ls H locs hl hP hS ih => ?_) (fun ls H locs hl hP hS => ?_)
  · have hl : lv_has ls 4 [(3, .int (nI i)), (2, .int (nI g)), (1, .int (nI f)), (0, .ref h0)] := hl
    refine lv_iload_n hx hb dX12_copyNode_74 rfl (lv_at hl 0 rfl) ?_
    refine lv_bipush (v := 12) hx hb dX12_copyNode_75 (by decide) ?_
    refine lv_icmp_ge (tgt := 108) hx hb dX12_copyNode_77 rfl (fun h => absurd h (nI_ge hi (by decide))) (fun _ => ?_)
    refine lv_aload_n hx hb dX12_copyNode_80 rfl (lv_at hl 3 rfl) ?_
    refine r_get hF ci_X12 fl_X12_24 dX12_copyNode_81 hP (q0 := 0) rfl rfl ?_
    refine lv_bipush (v := 12) hx hb dX12_copyNode_84 (by decide) ?_
    refine lv_iload_n hx hb dX12_copyNode_86 rfl (lv_at hl 1 rfl) ?_
    refine lv_imul hx hb dX12_copyNode_87 ?_
    refine lv_iload_n hx hb dX12_copyNode_88 rfl (lv_at hl 0 rfl) ?_
    refine lv_iadd hx hb dX12_copyNode_89 ?_
    refine lv_aload_n hx hb dX12_copyNode_90 rfl (lv_at hl 3 rfl) ?_
    refine r_get hF ci_X12 fl_X12_24 dX12_copyNode_91 hP (q0 := 0) rfl rfl ?_
    refine lv_bipush (v := 12) hx hb dX12_copyNode_94 (by decide) ?_
    refine lv_iload_n hx hb dX12_copyNode_96 rfl (lv_at hl 2 rfl) ?_
    refine lv_imul hx hb dX12_copyNode_97 ?_
    refine lv_iload_n hx hb dX12_copyNode_98 rfl (lv_at hl 0 rfl) ?_
    refine lv_iadd hx hb dX12_copyNode_99 ?_
    refine r_bald (v := 0) hF dX12_copyNode_100 hP (q0 := 5) rfl (by rw [show (12 : Int32) = nI 12 from rfl, pk_mul, nI_add]; exact vp_in_nI (by omega) (by decide)) rfl ?_
    refine r_bast0 hF dX12_copyNode_101 hP hD hS (q0 := 5) rfl (by rw [show (12 : Int32) = nI 12 from rfl, pk_mul, nI_add]; exact vp_in_nI (by omega) (by decide)) rfl (fun H locs hP hS => ?_)
    refine lv_iinc (lv' := [(3, .int (nI (i + 1))), (2, .int (nI g)), (1, .int (nI f)), (0, .ref h0)]) (k := 0) (v := (nI (i + 1))) hx hb dX12_copyNode_102 hl rfl (nI_1 i) (by decide) rfl (fun ls hl => ?_)
    refine lv_goto (tgt := 74) hx hb dX12_copyNode_105 rfl ?_
    exact ih ls H locs hl hP hS
  · have hl : lv_has ls 4 [(3, .int (nI 12)), (2, .int (nI g)), (1, .int (nI f)), (0, .ref h0)] := hl
    refine lv_iload_n hx hb dX12_copyNode_74 rfl (lv_at hl 0 rfl) ?_
    refine lv_bipush (v := 12) hx hb dX12_copyNode_75 (by decide) ?_
    refine lv_icmp_ge (tgt := 108) hx hb dX12_copyNode_77 rfl (fun _ => ?_) (fun h => absurd (nI_le (Nat.le_refl 12) (by decide)) h)
    refine lv_iconst (v := 0) hx hb dX12_copyNode_108 (by decide) ?_
    refine lv_istore_n (lv' := [(3, .int 0), (2, .int (nI g)), (1, .int (nI f)), (0, .ref h0)]) hx hb dX12_copyNode_109 rfl hl (by decide) rfl (fun ls hl => ?_)
    have hl : lv_has ls 4 [(3, .int 0), (2, .int (nI g)), (1, .int (nI f)), (0, .ref h0)] := lv_sub hl [0, 1, 2, 3] rfl
    refine r_loop (L0 := fun i => [(3, .int (nI i)), (2, .int (nI g)), (1, .int (nI f)), (0, .ref h0)]) 4 hl hP hS (fun i hi ls H locs hl hP hS ih => ?_) (fun ls H locs hl hP hS => ?_)
    · have hl : lv_has ls 4 [(3, .int (nI i)), (2, .int (nI g)), (1, .int (nI f)), (0, .ref h0)] := hl
      refine lv_iload_n hx hb dX12_copyNode_110 rfl (lv_at hl 0 rfl) ?_
      refine lv_iconst (v := 4) hx hb dX12_copyNode_111 (by decide) ?_
      refine lv_icmp_ge (tgt := 141) hx hb dX12_copyNode_112 rfl (fun h => absurd h (nI_ge hi (by decide))) (fun _ => ?_)
      refine lv_aload_n hx hb dX12_copyNode_115 rfl (lv_at hl 3 rfl) ?_
      refine r_get hF ci_X12 fl_X12_33 dX12_copyNode_116 hP (q0 := 0) rfl rfl ?_
      refine lv_iconst (v := 4) hx hb dX12_copyNode_119 (by decide) ?_
      refine lv_iload_n hx hb dX12_copyNode_120 rfl (lv_at hl 1 rfl) ?_
      refine lv_imul hx hb dX12_copyNode_121 ?_
      refine lv_iload_n hx hb dX12_copyNode_122 rfl (lv_at hl 0 rfl) ?_
      refine lv_iadd hx hb dX12_copyNode_123 ?_
      refine lv_aload_n hx hb dX12_copyNode_124 rfl (lv_at hl 3 rfl) ?_
      refine r_get hF ci_X12 fl_X12_33 dX12_copyNode_125 hP (q0 := 0) rfl rfl ?_
      refine lv_iconst (v := 4) hx hb dX12_copyNode_128 (by decide) ?_
      refine lv_iload_n hx hb dX12_copyNode_129 rfl (lv_at hl 2 rfl) ?_
      refine lv_imul hx hb dX12_copyNode_130 ?_
      refine lv_iload_n hx hb dX12_copyNode_131 rfl (lv_at hl 0 rfl) ?_
      refine lv_iadd hx hb dX12_copyNode_132 ?_
      refine r_lald (v := 0) hF dX12_copyNode_133 hP (q0 := 8) rfl (by rw [show (4 : Int32) = nI 4 from rfl, pk_mul, nI_add]; exact vp_in_nI (by omega) (by decide)) rfl ?_
      refine r_last0 hF dX12_copyNode_134 hP hD hS (q0 := 8) rfl (by rw [show (4 : Int32) = nI 4 from rfl, pk_mul, nI_add]; exact vp_in_nI (by omega) (by decide)) rfl (fun H locs hP hS => ?_)
      refine lv_iinc (lv' := [(3, .int (nI (i + 1))), (2, .int (nI g)), (1, .int (nI f)), (0, .ref h0)]) (k := 0) (v := (nI (i + 1))) hx hb dX12_copyNode_135 hl rfl (nI_1 i) (by decide) rfl (fun ls hl => ?_)
      refine lv_goto (tgt := 110) hx hb dX12_copyNode_138 rfl ?_
      exact ih ls H locs hl hP hS
    · have hl : lv_has ls 4 [(3, .int (nI 4)), (2, .int (nI g)), (1, .int (nI f)), (0, .ref h0)] := hl
      refine lv_iload_n hx hb dX12_copyNode_110 rfl (lv_at hl 0 rfl) ?_
      refine lv_iconst (v := 4) hx hb dX12_copyNode_111 (by decide) ?_
      refine lv_icmp_ge (tgt := 141) hx hb dX12_copyNode_112 rfl (fun _ => ?_) (fun h => absurd (nI_le (Nat.le_refl 4) (by decide)) h)
      refine lv_iconst (v := 0) hx hb dX12_copyNode_141 (by decide) ?_
      refine lv_istore_n (lv' := [(3, .int 0), (2, .int (nI g)), (1, .int (nI f)), (0, .ref h0)]) hx hb dX12_copyNode_142 rfl hl (by decide) rfl (fun ls hl => ?_)
      have hl : lv_has ls 4 [(3, .int 0), (2, .int (nI g)), (1, .int (nI f)), (0, .ref h0)] := lv_sub hl [0, 1, 2, 3] rfl
      refine r_loop (L0 := fun i => [(3, .int (nI i)), (2, .int (nI g)), (1, .int (nI f)), (0, .ref h0)]) 4096 hl hP hS (fun i hi ls H locs hl hP hS ih => ?_) (fun ls H locs hl hP hS => ?_)
      · have hl : lv_has ls 4 [(3, .int (nI i)), (2, .int (nI g)), (1, .int (nI f)), (0, .ref h0)] := hl
        refine lv_iload_n hx hb dX12_copyNode_143 rfl (lv_at hl 0 rfl) ?_
        refine lv_sipush (v := 4096) hx hb dX12_copyNode_144 (by decide) ?_
        refine lv_icmp_ge (tgt := 180) hx hb dX12_copyNode_147 rfl (fun h => absurd h (nI_ge hi (by decide))) (fun _ => ?_)
        refine lv_aload_n hx hb dX12_copyNode_150 rfl (lv_at hl 3 rfl) ?_
        refine r_get hF ci_X12 fl_X12_41 dX12_copyNode_151 hP (q0 := 0) rfl rfl ?_
        refine lv_sipush (v := 4096) hx hb dX12_copyNode_154 (by decide) ?_
        refine lv_iload_n hx hb dX12_copyNode_157 rfl (lv_at hl 1 rfl) ?_
        refine lv_imul hx hb dX12_copyNode_158 ?_
        refine lv_iload_n hx hb dX12_copyNode_159 rfl (lv_at hl 0 rfl) ?_
        refine lv_iadd hx hb dX12_copyNode_160 ?_
        refine lv_aload_n hx hb dX12_copyNode_161 rfl (lv_at hl 3 rfl) ?_
        refine r_get hF ci_X12 fl_X12_41 dX12_copyNode_162 hP (q0 := 0) rfl rfl ?_
        refine lv_sipush (v := 4096) hx hb dX12_copyNode_165 (by decide) ?_
        refine lv_iload_n hx hb dX12_copyNode_168 rfl (lv_at hl 2 rfl) ?_
        refine lv_imul hx hb dX12_copyNode_169 ?_
        refine lv_iload_n hx hb dX12_copyNode_170 rfl (lv_at hl 0 rfl) ?_
        refine lv_iadd hx hb dX12_copyNode_171 ?_
        refine r_bald (v := 0) hF dX12_copyNode_172 hP (q0 := 10) rfl (by rw [show (4096 : Int32) = nI 4096 from rfl, pk_mul, nI_add]; exact vp_in_nI (by omega) (by decide)) rfl ?_
        refine r_bast0 hF dX12_copyNode_173 hP hD hS (q0 := 10) rfl (by rw [show (4096 : Int32) = nI 4096 from rfl, pk_mul, nI_add]; exact vp_in_nI (by omega) (by decide)) rfl (fun H locs hP hS => ?_)
        refine lv_iinc (lv' := [(3, .int (nI (i + 1))), (2, .int (nI g)), (1, .int (nI f)), (0, .ref h0)]) (k := 0) (v := (nI (i + 1))) hx hb dX12_copyNode_174 hl rfl (nI_1 i) (by decide) rfl (fun ls hl => ?_)
        refine lv_goto (tgt := 143) hx hb dX12_copyNode_177 rfl ?_
        exact ih ls H locs hl hP hS
      · have hl : lv_has ls 4 [(3, .int (nI 4096)), (2, .int (nI g)), (1, .int (nI f)), (0, .ref h0)] := hl
        refine lv_iload_n hx hb dX12_copyNode_143 rfl (lv_at hl 0 rfl) ?_
        refine lv_sipush (v := 4096) hx hb dX12_copyNode_144 (by decide) ?_
        refine lv_icmp_ge (tgt := 180) hx hb dX12_copyNode_147 rfl (fun _ => ?_) (fun h => absurd (nI_le (Nat.le_refl 4096) (by decide)) h)
        exact r_retV hF hr hlk dX12_copyNode_180 hP hS
set_option maxRecDepth 100000 in
set_option maxHeartbeats 4000000 in
theorem c_X12_begin (l : Launch) (D : va_G) (t : Nat → ClassId) (h0 : Nat) (L : Nat → Nat) (sr : Nat → Int32) (sz : Nat) : KV l D t yX12_begin cX12_begin 2 ({ frames := 1, cells := 0, slots := 0, locals := 23 }) (mW t h0 L sr) sz [.ref h0] := by
  refine go (by decide) (Nat.le_of_ble_eq_true rfl) ?_
  intro p e s m below meth c ls A hF hr hlk hin hsz hAe hP hD hS hA hl
  rw [hAe]
  clear hAe hsz
  have hF : FX p m c cX12_begin 2 s _ RX12 D t := hF
  have hx := hF.1.1
  have hb := hF.1.2.1
  have hls := hl.1
  have hl : lv_has ls 2 [(0, .ref h0)] := hl
  refine lv_iconst (v := 0) hx hb dX12_begin_0 (by decide) ?_
  refine lv_istore_n (lv' := [(1, .int 0), (0, .ref h0)]) hx hb dX12_begin_1 rfl hl (by decide) rfl (fun ls hl => ?_)
  have hl : lv_has ls 2 [(1, .int 0), (0, .ref h0)] := lv_sub hl [0, 1] rfl
  refine r_loop (L0 := fun i => [(1, .int (nI i)), (0, .ref h0)]) 6 hl hP hS (fun i hi ls H locs hl hP hS ih => ?_) (fun ls H locs hl hP hS => ?_)
  · have hl : lv_has ls 2 [(1, .int (nI i)), (0, .ref h0)] := hl
    refine lv_iload_n hx hb dX12_begin_2 rfl (lv_at hl 0 rfl) ?_
    refine lv_bipush (v := 6) hx hb dX12_begin_3 (by decide) ?_
    refine lv_icmp_ge (tgt := 28) hx hb dX12_begin_5 rfl (fun h => absurd h (nI_ge hi (by decide))) (fun _ => ?_)
    refine lv_aload_n hx hb dX12_begin_8 rfl (lv_at hl 1 rfl) ?_
    refine r_get hF ci_X12 fl_X12_89 dX12_begin_9 hP (q0 := 0) rfl rfl ?_
    refine lv_iload_n hx hb dX12_begin_12 rfl (lv_at hl 0 rfl) ?_
    refine lv_iconst (v := 0) hx hb dX12_begin_13 (by decide) ?_
    refine r_zast0 hF dX12_begin_14 hP hD hS (q0 := 26) rfl (vp_in_nI hi (by decide)) rfl (fun H locs hP hS => ?_)
    refine lv_aload_n hx hb dX12_begin_15 rfl (lv_at hl 1 rfl) ?_
    refine r_get hF ci_X12 fl_X12_99 dX12_begin_16 hP (q0 := 0) rfl rfl ?_
    refine lv_iload_n hx hb dX12_begin_19 rfl (lv_at hl 0 rfl) ?_
    refine lv_iconst (v := 0) hx hb dX12_begin_20 (by decide) ?_
    refine r_iast0 hF dX12_begin_21 hP hD hS (q0 := 29) rfl (vp_in_nI hi (by decide)) rfl (fun H locs hP hS => ?_)
    refine lv_iinc (lv' := [(1, .int (nI (i + 1))), (0, .ref h0)]) (k := 0) (v := (nI (i + 1))) hx hb dX12_begin_22 hl rfl (nI_1 i) (by decide) rfl (fun ls hl => ?_)
    refine lv_goto (tgt := 2) hx hb dX12_begin_25 rfl ?_
    exact ih ls H locs hl hP hS
  · have hl : lv_has ls 2 [(1, .int (nI 6)), (0, .ref h0)] := hl
    refine lv_iload_n hx hb dX12_begin_2 rfl (lv_at hl 0 rfl) ?_
    refine lv_bipush (v := 6) hx hb dX12_begin_3 (by decide) ?_
    refine lv_icmp_ge (tgt := 28) hx hb dX12_begin_5 rfl (fun _ => ?_) (fun h => absurd (nI_le (Nat.le_refl 6) (by decide)) h)
    refine lv_iconst (v := 0) hx hb dX12_begin_28 (by decide) ?_
    refine lv_istore_n (lv' := [(1, .int 0), (0, .ref h0)]) hx hb dX12_begin_29 rfl hl (by decide) rfl (fun ls hl => ?_)
    have hl : lv_has ls 2 [(1, .int 0), (0, .ref h0)] := lv_sub hl [0, 1] rfl
    refine r_loop (L0 := fun i => [(1, .int (nI i)), (0, .ref h0)]) 8 hl hP hS (fun i hi ls H locs hl hP hS ih => ?_) (fun ls H locs hl hP hS => ?_)
    · have hl : lv_has ls 2 [(1, .int (nI i)), (0, .ref h0)] := hl
      refine lv_iload_n hx hb dX12_begin_30 rfl (lv_at hl 0 rfl) ?_
      refine lv_bipush (v := 8) hx hb dX12_begin_31 (by decide) ?_
      refine lv_icmp_ge (tgt := 49) hx hb dX12_begin_33 rfl (fun h => absurd h (nI_ge hi (by decide))) (fun _ => ?_)
      refine lv_aload_n hx hb dX12_begin_36 rfl (lv_at hl 1 rfl) ?_
      refine r_get hF ci_X12 fl_X12_118 dX12_begin_37 hP (q0 := 0) rfl rfl ?_
      refine lv_iload_n hx hb dX12_begin_40 rfl (lv_at hl 0 rfl) ?_
      refine lv_lconst (v := 0) hx hb dX12_begin_41 (by decide) ?_
      refine r_last0 hF dX12_begin_42 hP hD hS (q0 := 35) rfl (vp_in_nI hi (by decide)) rfl (fun H locs hP hS => ?_)
      refine lv_iinc (lv' := [(1, .int (nI (i + 1))), (0, .ref h0)]) (k := 0) (v := (nI (i + 1))) hx hb dX12_begin_43 hl rfl (nI_1 i) (by decide) rfl (fun ls hl => ?_)
      refine lv_goto (tgt := 30) hx hb dX12_begin_46 rfl ?_
      exact ih ls H locs hl hP hS
    · have hl : lv_has ls 2 [(1, .int (nI 8)), (0, .ref h0)] := hl
      refine lv_iload_n hx hb dX12_begin_30 rfl (lv_at hl 0 rfl) ?_
      refine lv_bipush (v := 8) hx hb dX12_begin_31 (by decide) ?_
      refine lv_icmp_ge (tgt := 49) hx hb dX12_begin_33 rfl (fun _ => ?_) (fun h => absurd (nI_le (Nat.le_refl 8) (by decide)) h)
      refine lv_iconst (v := 0) hx hb dX12_begin_49 (by decide) ?_
      refine lv_istore_n (lv' := [(1, .int 0), (0, .ref h0)]) hx hb dX12_begin_50 rfl hl (by decide) rfl (fun ls hl => ?_)
      have hl : lv_has ls 2 [(1, .int 0), (0, .ref h0)] := lv_sub hl [0, 1] rfl
      refine r_loop (L0 := fun i => [(1, .int (nI i)), (0, .ref h0)]) 16 hl hP hS (fun i hi ls H locs hl hP hS ih => ?_) (fun ls H locs hl hP hS => ?_)
      · have hl : lv_has ls 2 [(1, .int (nI i)), (0, .ref h0)] := hl
        refine lv_iload_n hx hb dX12_begin_51 rfl (lv_at hl 0 rfl) ?_
        refine lv_bipush (v := 16) hx hb dX12_begin_52 (by decide) ?_
        refine lv_icmp_ge (tgt := 70) hx hb dX12_begin_54 rfl (fun h => absurd h (nI_ge hi (by decide))) (fun _ => ?_)
        refine lv_aload_n hx hb dX12_begin_57 rfl (lv_at hl 1 rfl) ?_
        refine r_get hF ci_X12 fl_X12_130 dX12_begin_58 hP (q0 := 0) rfl rfl ?_
        refine lv_iload_n hx hb dX12_begin_61 rfl (lv_at hl 0 rfl) ?_
        refine lv_lconst (v := 0) hx hb dX12_begin_62 (by decide) ?_
        refine r_last0 hF dX12_begin_63 hP hD hS (q0 := 39) rfl (vp_in_nI hi (by decide)) rfl (fun H locs hP hS => ?_)
        refine lv_iinc (lv' := [(1, .int (nI (i + 1))), (0, .ref h0)]) (k := 0) (v := (nI (i + 1))) hx hb dX12_begin_64 hl rfl (nI_1 i) (by decide) rfl (fun ls hl => ?_)
        refine lv_goto (tgt := 51) hx hb dX12_begin_67 rfl ?_
        exact ih ls H locs hl hP hS
      · have hl : lv_has ls 2 [(1, .int (nI 16)), (0, .ref h0)] := hl
        refine lv_iload_n hx hb dX12_begin_51 rfl (lv_at hl 0 rfl) ?_
        refine lv_bipush (v := 16) hx hb dX12_begin_52 (by decide) ?_
        refine lv_icmp_ge (tgt := 70) hx hb dX12_begin_54 rfl (fun _ => ?_) (fun h => absurd (nI_le (Nat.le_refl 16) (by decide)) h)
        refine lv_iconst (v := 0) hx hb dX12_begin_70 (by decide) ?_
        refine lv_istore_n (lv' := [(1, .int 0), (0, .ref h0)]) hx hb dX12_begin_71 rfl hl (by decide) rfl (fun ls hl => ?_)
        have hl : lv_has ls 2 [(1, .int 0), (0, .ref h0)] := lv_sub hl [0, 1] rfl
        refine r_loop (L0 := fun i => [(1, .int (nI i)), (0, .ref h0)]) 40 hl hP hS (fun i hi ls H locs hl hP hS ih => ?_) (fun ls H locs hl hP hS => ?_)
        · have hl : lv_has ls 2 [(1, .int (nI i)), (0, .ref h0)] := hl
          refine lv_iload_n hx hb dX12_begin_72 rfl (lv_at hl 0 rfl) ?_
          refine lv_bipush (v := 40) hx hb dX12_begin_73 (by decide) ?_
          refine lv_icmp_ge (tgt := 91) hx hb dX12_begin_75 rfl (fun h => absurd h (nI_ge hi (by decide))) (fun _ => ?_)
          refine lv_aload_n hx hb dX12_begin_78 rfl (lv_at hl 1 rfl) ?_
          refine r_get hF ci_X12 fl_X12_139 dX12_begin_79 hP (q0 := 0) rfl rfl ?_
          refine lv_iload_n hx hb dX12_begin_82 rfl (lv_at hl 0 rfl) ?_
          refine lv_lconst (v := 0) hx hb dX12_begin_83 (by decide) ?_
          refine r_last0 hF dX12_begin_84 hP hD hS (q0 := 42) rfl (vp_in_nI hi (by decide)) rfl (fun H locs hP hS => ?_)
          refine lv_iinc (lv' := [(1, .int (nI (i + 1))), (0, .ref h0)]) (k := 0) (v := (nI (i + 1))) hx hb dX12_begin_85 hl rfl (nI_1 i) (by decide) rfl (fun ls hl => ?_)
          refine lv_goto (tgt := 72) hx hb dX12_begin_88 rfl ?_
          exact ih ls H locs hl hP hS
        · have hl : lv_has ls 2 [(1, .int (nI 40)), (0, .ref h0)] := hl
          refine lv_iload_n hx hb dX12_begin_72 rfl (lv_at hl 0 rfl) ?_
          refine lv_bipush (v := 40) hx hb dX12_begin_73 (by decide) ?_
          refine lv_icmp_ge (tgt := 91) hx hb dX12_begin_75 rfl (fun _ => ?_) (fun h => absurd (nI_le (Nat.le_refl 40) (by decide)) h)
          refine lv_aload_n hx hb dX12_begin_91 rfl (lv_at hl 1 rfl) ?_
          refine lv_iconst (v := 0) hx hb dX12_begin_92 (by decide) ?_
          refine r_put0 hF ci_X12 fl_X12_289 dX12_begin_93 hP hD hS (q0 := 0) rfl rfl rfl rfl rfl (fun H locs hP hS => ?_)
          refine lv_aload_n hx hb dX12_begin_96 rfl (lv_at hl 1 rfl) ?_
          refine lv_iconst (v := 0) hx hb dX12_begin_97 (by decide) ?_
          refine r_put0 hF ci_X12 fl_X12_292 dX12_begin_98 hP hD hS (q0 := 0) rfl rfl rfl rfl rfl (fun H locs hP hS => ?_)
          refine lv_aload_n hx hb dX12_begin_101 rfl (lv_at hl 1 rfl) ?_
          refine lv_iconst (v := 0) hx hb dX12_begin_102 (by decide) ?_
          refine r_put0 hF ci_X12 fl_X12_271 dX12_begin_103 hP hD hS (q0 := 0) rfl rfl rfl rfl rfl (fun H locs hP hS => ?_)
          refine lv_aload_n hx hb dX12_begin_106 rfl (lv_at hl 1 rfl) ?_
          refine lv_lconst (v := 0) hx hb dX12_begin_107 (by decide) ?_
          refine r_put0 hF ci_X12 fl_X12_295 dX12_begin_108 hP hD hS (q0 := 0) rfl rfl rfl rfl rfl (fun H locs hP hS => ?_)
          refine lv_aload_n hx hb dX12_begin_111 rfl (lv_at hl 1 rfl) ?_
          refine lv_lconst (v := 0) hx hb dX12_begin_112 (by decide) ?_
          refine r_put0 hF ci_X12 fl_X12_299 dX12_begin_113 hP hD hS (q0 := 0) rfl rfl rfl rfl rfl (fun H locs hP hS => ?_)
          refine lv_aload_n hx hb dX12_begin_116 rfl (lv_at hl 1 rfl) ?_
          refine lv_lconst (v := 0) hx hb dX12_begin_117 (by decide) ?_
          refine r_put0 hF ci_X12 fl_X12_302 dX12_begin_118 hP hD hS (q0 := 0) rfl rfl rfl rfl rfl (fun H locs hP hS => ?_)
          refine lv_aload_n hx hb dX12_begin_121 rfl (lv_at hl 1 rfl) ?_
          refine lv_lconst (v := 0) hx hb dX12_begin_122 (by decide) ?_
          refine r_put0 hF ci_X12 fl_X12_305 dX12_begin_123 hP hD hS (q0 := 0) rfl rfl rfl rfl rfl (fun H locs hP hS => ?_)
          refine lv_iconst (v := 0) hx hb dX12_begin_126 (by decide) ?_
          refine lv_istore_n (lv' := [(1, .int 0), (0, .ref h0)]) hx hb dX12_begin_127 rfl hl (by decide) rfl (fun ls hl => ?_)
          have hl : lv_has ls 2 [(1, .int 0), (0, .ref h0)] := lv_sub hl [0, 1] rfl
          refine r_loop (L0 := fun i => [(1, .int (nI i)), (0, .ref h0)]) 80 hl hP hS (fun i hi ls H locs hl hP hS ih => ?_) (fun ls H locs hl hP hS => ?_)
          · have hl : lv_has ls 2 [(1, .int (nI i)), (0, .ref h0)] := hl
            refine lv_iload_n hx hb dX12_begin_128 rfl (lv_at hl 0 rfl) ?_
            refine lv_bipush (v := 80) hx hb dX12_begin_129 (by decide) ?_
            refine lv_icmp_ge (tgt := 156) hx hb dX12_begin_131 rfl (fun h => absurd h (nI_ge hi (by decide))) (fun _ => ?_)
            refine lv_aload_n hx hb dX12_begin_134 rfl (lv_at hl 1 rfl) ?_
            refine lv_bipush (v := 80) hx hb dX12_begin_135 (by decide) ?_
            refine lv_iload_n hx hb dX12_begin_137 rfl (lv_at hl 0 rfl) ?_
            refine lv_iadd hx hb dX12_begin_138 ?_
            refine lv_iload_n hx hb dX12_begin_139 rfl (lv_at hl 0 rfl) ?_
            rw [show (80 : Int32) + nI i = nI (80 + i) from nI_add 80 i]
            refine r_cKV (As := [.int (nI (80 + i)), .int (nI i)]) (rest := []) hF mv_X12_308 ci_X12 (fun sz => c_X12_copyNode l D t h0 L sr (80 + i) i (by omega) (by omega) sz) dX12_begin_140 rfl rfl (by decide) rfl hl.1 (by decide) hP hD hS hA (q0 := 0) rfl (by decide) rfl (fun H locs hP hS => ?_)
            refine lv_aload_n hx hb dX12_begin_143 rfl (lv_at hl 1 rfl) ?_
            refine r_get hF ci_X12 fl_X12_44 dX12_begin_144 hP (q0 := 0) rfl rfl ?_
            refine lv_iload_n hx hb dX12_begin_147 rfl (lv_at hl 0 rfl) ?_
            refine lv_iconst (v := 0) hx hb dX12_begin_148 (by decide) ?_
            refine r_zast0 hF dX12_begin_149 hP hD hS (q0 := 11) rfl (vp_in_nI hi (by decide)) rfl (fun H locs hP hS => ?_)
            refine lv_iinc (lv' := [(1, .int (nI (i + 1))), (0, .ref h0)]) (k := 0) (v := (nI (i + 1))) hx hb dX12_begin_150 hl rfl (nI_1 i) (by decide) rfl (fun ls hl => ?_)
            refine lv_goto (tgt := 128) hx hb dX12_begin_153 rfl ?_
            exact ih ls H locs hl hP hS
          · have hl : lv_has ls 2 [(1, .int (nI 80)), (0, .ref h0)] := hl
            refine lv_iload_n hx hb dX12_begin_128 rfl (lv_at hl 0 rfl) ?_
            refine lv_bipush (v := 80) hx hb dX12_begin_129 (by decide) ?_
            refine lv_icmp_ge (tgt := 156) hx hb dX12_begin_131 rfl (fun _ => ?_) (fun h => absurd (nI_le (Nat.le_refl 80) (by decide)) h)
            exact r_retV hF hr hlk dX12_begin_156 hP hS
set_option maxRecDepth 100000 in
set_option maxHeartbeats 4000000 in
theorem c_X12_crash (l : Launch) (D : va_G) (t : Nat → ClassId) (h0 : Nat) (L : Nat → Nat) (sr : Nat → Int32) (k : Int32) (sz : Nat) : AI l D t yX12_crash cX12_crash 3 (some .int) ({ frames := 2, cells := 0, slots := 0, locals := 60 }) (mW t h0 L sr) sz [.ref h0, .int k] (tapeA k) := by
  refine go (by decide) (Nat.le_of_ble_eq_true rfl) ?_
  intro p e s m below meth c ls A hF hr hlk hin hsz hAe hP hD hS hA hl
  rw [hAe]
  clear hAe hsz
  have hF : FX p m c cX12_crash 3 s _ RX12 D t := hF
  have hx := hF.1.1
  have hb := hF.1.2.1
  have hls := hl.1
  have hl : lv_has ls 3 [(0, .ref h0), (1, .int k)] := hl
  refine lv_iload_n hx hb dX12_crash_0 rfl (lv_at hl 1 rfl) ?_
  refine lv_if_lt (tgt := 12) hx hb dX12_crash_1 rfl (fun h1 => ?_) (fun h1 => ?_)
  · refine lv_iconst (v := (-1)) hx hb dX12_crash_12 (by decide) ?_
    exact r_retA hF hr hlk rfl dX12_crash_13 hS (by unfold tapeA; rw [if_neg (fun z => by subst z; exact absurd h1 (by decide))])
  · refine lv_iload_n hx hb dX12_crash_4 rfl (lv_at hl 1 rfl) ?_
    refine lv_aload_n hx hb dX12_crash_5 rfl (lv_at hl 0 rfl) ?_
    refine r_get hF ci_X12 fl_X12_271 dX12_crash_6 hP (q0 := 0) rfl rfl ?_
    refine lv_icmp_le (tgt := 14) hx hb dX12_crash_9 rfl (fun h2 => ?_) (fun h2 => ?_)
    · have hk0 : k = 0 := by rcases pk_ix k (n := 1) (by decide) with h3 | h3 | ⟨j3, hj3, e3⟩; exact absurd h3 h1; exact absurd (Int32.le_trans h3 h2) (by decide); exact (by have z3 : j3 = 0 := (by omega); subst z3; exact e3)
      subst hk0
      refine lv_aload_n hx hb dX12_crash_14 rfl (lv_at hl 0 rfl) ?_
      refine r_get hF ci_X12 fl_X12_271 dX12_crash_15 hP (q0 := 0) rfl rfl ?_
      refine lv_istore_n (lv' := [(2, .int 0), (0, .ref h0), (1, .int 0)]) hx hb dX12_crash_18 rfl hl (by decide) rfl (fun ls hl => ?_)
      refine lv_aload_n hx hb dX12_crash_19 rfl (lv_at hl 1 rfl) ?_
      refine lv_iload_n hx hb dX12_crash_20 rfl (lv_at hl 2 rfl) ?_
      refine lv_iconst (v := 0) hx hb dX12_crash_21 (by decide) ?_
      refine r_cKV (As := [.int 0, .int 0]) (rest := []) hF mv_X12_281 ci_X12 (fun sz => c_X12_come l D t h0 L sr sz) dX12_crash_22 rfl rfl (by decide) rfl hl.1 (by decide) hP hD hS hA (q0 := 0) rfl (by decide) rfl (fun H locs hP hS => ?_)
      refine lv_aload_n hx hb dX12_crash_25 rfl (lv_at hl 1 rfl) ?_
      refine r_cKV (As := []) (rest := []) hF mv_X12_258 ci_X12 (fun sz => c_X12_begin l D t h0 L sr sz) dX12_crash_26 rfl rfl (by decide) rfl hl.1 (by decide) hP hD hS hA (q0 := 0) rfl (by decide) rfl (fun H locs hP hS => ?_)
      refine lv_iload_n hx hb dX12_crash_29 rfl (lv_at hl 0 rfl) ?_
      exact r_retA hF hr hlk rfl dX12_crash_30 hS (by decide)
    · refine lv_iconst (v := (-1)) hx hb dX12_crash_12 (by decide) ?_
      exact r_retA hF hr hlk rfl dX12_crash_13 hS (by unfold tapeA; rw [if_neg (fun z => h2 (by rw [z]; exact Int32.le_refl 0))])
end
section
theorem fs_step {fs : List Value} {a : Nat} (h0 : fs[0]? = some (.ref a)) (hl : fs.length = 120) (x : Value) : (fs.set 1 x)[0]? = some (.ref a) ∧ (fs.set 1 x)[1]? = some x ∧ (fs.set 1 x).length = 120 := by
  refine ⟨by rw [List.getElem?_set_ne (by decide)]; exact h0, List.getElem?_set_self (by rw [hl]; decide), by rw [List.length_set]; exact hl⟩
abbrev layW (t : Nat → ClassId) (h0 a : Nat) (fs : List Value) (f : Nat → Int32) : va_W := [(h0, .inr (0, fs)), (a, .inl (t 0, 8000, .inl f))]
def layI (t : Nat → ClassId) (h0 a n : Nat) (w1 : va_W) : Prop := ∃ (fs : List Value) (f : Nat → Int32), w1 = layW t h0 a fs f ∧ fs[0]? = some (.ref a) ∧ fs[1]? = some (.int (nI n)) ∧ fs.length = 120
set_option maxRecDepth 100000 in
set_option maxHeartbeats 4000000 in
theorem c_X12_lay (l : Launch) (D : va_G) (t : Nat → ClassId) (h0 a n : Nat) (fs : List Value) (f : Nat → Int32) (g1 : fs[0]? = some (.ref a)) (g2 : fs[1]? = some (.int (nI n))) (g3 : fs.length = 120) (hn : n + 4 ≤ 8000) (v : Int32) (sz : Nat) : WV l D t yX12_lay cX12_lay 3 ({ frames := 0, cells := 0, slots := 0, locals := 0 }) (layW t h0 a fs f) sz [.ref h0, .int v] 0 0 (fun _ => True) (layI t h0 a (n + 4)) := by
  refine goE (by decide) (Nat.le_of_ble_eq_true rfl) ?_
  intro p e s m below meth c ls A hF hr hlk hin hsz hAe hP hD hS hA hl hE
  rw [hAe]
  have hF : FX p m c cX12_lay 3 s _ RX12 D t := hF
  have hx := hF.1.1
  have hb := hF.1.2.1
  have hl : lv_has ls 3 [(0, .ref h0), (1, .int v)] := hl
  refine lv_bipush (v := 24) hx hb dX12_lay_0 (by decide) ?_
  refine lv_istore_n (lv' := [(2, .int 24), (0, .ref h0), (1, .int v)]) hx hb dX12_lay_2 rfl hl (by decide) rfl (fun ls hl => ?_)
  refine lv_iload_n hx hb dX12_lay_3 rfl (lv_at hl 0 rfl) ?_
  refine lv_if_lt (tgt := 36) hx hb dX12_lay_4 rfl (fun h => absurd h (by decide)) (fun _ => ?_)
  refine lv_aload_n hx hb dX12_lay_7 rfl (lv_at hl 1 rfl) ?_
  refine r_get hF ci_X12 fl_X12_7 dX12_lay_8 hP (q0 := 0) rfl g1 ?_
  refine lv_aload_n hx hb dX12_lay_11 rfl (lv_at hl 1 rfl) ?_
  refine r_get hF ci_X12 fl_X12_261 dX12_lay_12 hP (q0 := 0) rfl g2 ?_
  refine lv_iload_n hx hb dX12_lay_15 rfl (lv_at hl 2 rfl) ?_
  refine lv_iload_n hx hb dX12_lay_16 rfl (lv_at hl 0 rfl) ?_
  refine lv_ishr hx hb dX12_lay_17 ?_
  refine lv_i2b hx hb dX12_lay_18 rfl ?_
  refine r_bast hF dX12_lay_19 hP hD hS (q0 := 1) rfl (vp_in_nI (by omega) (by decide)) (fun H locs hP hD hS => ?_)
  refine lv_aload_n hx hb dX12_lay_20 rfl (lv_at hl 1 rfl) ?_
  refine lv_dup hx hb dX12_lay_21 rfl ?_
  refine r_get hF ci_X12 fl_X12_261 dX12_lay_22 hP (q0 := 0) rfl g2 ?_
  refine lv_iconst (v := 1) hx hb dX12_lay_25 (by decide) ?_
  refine lv_iadd hx hb dX12_lay_26 ?_
  rw [show nI n + 1 = nI (n + 1) from nI_1 _]
  refine r_put hF ci_X12 fl_X12_261 dX12_lay_27 hP hD hS (q0 := 0) rfl rfl rfl rfl (by rw [g3]; decide) (fun H locs hP hD hS => ?_)
  obtain ⟨g1, g2, g3⟩ := fs_step g1 g3 (.int (nI (n + 1)))
  refine lv_iinc (lv' := [(2, .int 16), (0, .ref h0), (1, .int v)]) (k := 0) (v := 16) hx hb dX12_lay_30 hl rfl (by decide) (by decide) rfl (fun ls hl => ?_)
  refine lv_goto (tgt := 3) hx hb dX12_lay_33 rfl ?_
  have hl : lv_has ls 3 [(2, .int 16), (1, .int v), (0, .ref h0)] := lv_sub hl [0, 2, 1] rfl
  refine lv_iload_n hx hb dX12_lay_3 rfl (lv_at hl 0 rfl) ?_
  refine lv_if_lt (tgt := 36) hx hb dX12_lay_4 rfl (fun h => absurd h (by decide)) (fun _ => ?_)
  refine lv_aload_n hx hb dX12_lay_7 rfl (lv_at hl 2 rfl) ?_
  refine r_get hF ci_X12 fl_X12_7 dX12_lay_8 hP (q0 := 0) rfl g1 ?_
  refine lv_aload_n hx hb dX12_lay_11 rfl (lv_at hl 2 rfl) ?_
  refine r_get hF ci_X12 fl_X12_261 dX12_lay_12 hP (q0 := 0) rfl g2 ?_
  refine lv_iload_n hx hb dX12_lay_15 rfl (lv_at hl 1 rfl) ?_
  refine lv_iload_n hx hb dX12_lay_16 rfl (lv_at hl 0 rfl) ?_
  refine lv_ishr hx hb dX12_lay_17 ?_
  refine lv_i2b hx hb dX12_lay_18 rfl ?_
  refine r_bast hF dX12_lay_19 hP hD hS (q0 := 1) rfl (vp_in_nI (by omega) (by decide)) (fun H locs hP hD hS => ?_)
  refine lv_aload_n hx hb dX12_lay_20 rfl (lv_at hl 2 rfl) ?_
  refine lv_dup hx hb dX12_lay_21 rfl ?_
  refine r_get hF ci_X12 fl_X12_261 dX12_lay_22 hP (q0 := 0) rfl g2 ?_
  refine lv_iconst (v := 1) hx hb dX12_lay_25 (by decide) ?_
  refine lv_iadd hx hb dX12_lay_26 ?_
  rw [show nI (n + 1) + 1 = nI (n + 2) from nI_1 _]
  refine r_put hF ci_X12 fl_X12_261 dX12_lay_27 hP hD hS (q0 := 0) rfl rfl rfl rfl (by rw [g3]; decide) (fun H locs hP hD hS => ?_)
  obtain ⟨g1, g2, g3⟩ := fs_step g1 g3 (.int (nI (n + 2)))
  refine lv_iinc (lv' := [(2, .int 8), (1, .int v), (0, .ref h0)]) (k := 0) (v := 8) hx hb dX12_lay_30 hl rfl (by decide) (by decide) rfl (fun ls hl => ?_)
  refine lv_goto (tgt := 3) hx hb dX12_lay_33 rfl ?_
  have hl : lv_has ls 3 [(2, .int 8), (1, .int v), (0, .ref h0)] := lv_sub hl [0, 1, 2] rfl
  refine lv_iload_n hx hb dX12_lay_3 rfl (lv_at hl 0 rfl) ?_
  refine lv_if_lt (tgt := 36) hx hb dX12_lay_4 rfl (fun h => absurd h (by decide)) (fun _ => ?_)
  refine lv_aload_n hx hb dX12_lay_7 rfl (lv_at hl 2 rfl) ?_
  refine r_get hF ci_X12 fl_X12_7 dX12_lay_8 hP (q0 := 0) rfl g1 ?_
  refine lv_aload_n hx hb dX12_lay_11 rfl (lv_at hl 2 rfl) ?_
  refine r_get hF ci_X12 fl_X12_261 dX12_lay_12 hP (q0 := 0) rfl g2 ?_
  refine lv_iload_n hx hb dX12_lay_15 rfl (lv_at hl 1 rfl) ?_
  refine lv_iload_n hx hb dX12_lay_16 rfl (lv_at hl 0 rfl) ?_
  refine lv_ishr hx hb dX12_lay_17 ?_
  refine lv_i2b hx hb dX12_lay_18 rfl ?_
  refine r_bast hF dX12_lay_19 hP hD hS (q0 := 1) rfl (vp_in_nI (by omega) (by decide)) (fun H locs hP hD hS => ?_)
  refine lv_aload_n hx hb dX12_lay_20 rfl (lv_at hl 2 rfl) ?_
  refine lv_dup hx hb dX12_lay_21 rfl ?_
  refine r_get hF ci_X12 fl_X12_261 dX12_lay_22 hP (q0 := 0) rfl g2 ?_
  refine lv_iconst (v := 1) hx hb dX12_lay_25 (by decide) ?_
  refine lv_iadd hx hb dX12_lay_26 ?_
  rw [show nI (n + 2) + 1 = nI (n + 3) from nI_1 _]
  refine r_put hF ci_X12 fl_X12_261 dX12_lay_27 hP hD hS (q0 := 0) rfl rfl rfl rfl (by rw [g3]; decide) (fun H locs hP hD hS => ?_)
  obtain ⟨g1, g2, g3⟩ := fs_step g1 g3 (.int (nI (n + 3)))
  refine lv_iinc (lv' := [(2, .int 0), (1, .int v), (0, .ref h0)]) (k := 0) (v := 0) hx hb dX12_lay_30 hl rfl (by decide) (by decide) rfl (fun ls hl => ?_)
  refine lv_goto (tgt := 3) hx hb dX12_lay_33 rfl ?_
  have hl : lv_has ls 3 [(2, .int 0), (1, .int v), (0, .ref h0)] := lv_sub hl [0, 1, 2] rfl
  refine lv_iload_n hx hb dX12_lay_3 rfl (lv_at hl 0 rfl) ?_
  refine lv_if_lt (tgt := 36) hx hb dX12_lay_4 rfl (fun h => absurd h (by decide)) (fun _ => ?_)
  refine lv_aload_n hx hb dX12_lay_7 rfl (lv_at hl 2 rfl) ?_
  refine r_get hF ci_X12 fl_X12_7 dX12_lay_8 hP (q0 := 0) rfl g1 ?_
  refine lv_aload_n hx hb dX12_lay_11 rfl (lv_at hl 2 rfl) ?_
  refine r_get hF ci_X12 fl_X12_261 dX12_lay_12 hP (q0 := 0) rfl g2 ?_
  refine lv_iload_n hx hb dX12_lay_15 rfl (lv_at hl 1 rfl) ?_
  refine lv_iload_n hx hb dX12_lay_16 rfl (lv_at hl 0 rfl) ?_
  refine lv_ishr hx hb dX12_lay_17 ?_
  refine lv_i2b hx hb dX12_lay_18 rfl ?_
  refine r_bast hF dX12_lay_19 hP hD hS (q0 := 1) rfl (vp_in_nI (by omega) (by decide)) (fun H locs hP hD hS => ?_)
  refine lv_aload_n hx hb dX12_lay_20 rfl (lv_at hl 2 rfl) ?_
  refine lv_dup hx hb dX12_lay_21 rfl ?_
  refine r_get hF ci_X12 fl_X12_261 dX12_lay_22 hP (q0 := 0) rfl g2 ?_
  refine lv_iconst (v := 1) hx hb dX12_lay_25 (by decide) ?_
  refine lv_iadd hx hb dX12_lay_26 ?_
  rw [show nI (n + 3) + 1 = nI (n + 4) from nI_1 _]
  refine r_put hF ci_X12 fl_X12_261 dX12_lay_27 hP hD hS (q0 := 0) rfl rfl rfl rfl (by rw [g3]; decide) (fun H locs hP hD hS => ?_)
  obtain ⟨g1, g2, g3⟩ := fs_step g1 g3 (.int (nI (n + 4)))
  refine lv_iinc (lv' := [(2, .int (-8)), (1, .int v), (0, .ref h0)]) (k := 0) (v := (-8)) hx hb dX12_lay_30 hl rfl (by decide) (by decide) rfl (fun ls hl => ?_)
  refine lv_goto (tgt := 3) hx hb dX12_lay_33 rfl ?_
  have hl : lv_has ls 3 [(2, .int (-8)), (1, .int v), (0, .ref h0)] := lv_sub hl [0, 1, 2] rfl
  refine lv_iload_n hx hb dX12_lay_3 rfl (lv_at hl 0 rfl) ?_
  refine lv_if_lt (tgt := 36) hx hb dX12_lay_4 rfl (fun _ => ?_) (fun h => absurd (by decide) h)
  exact r_retW hF hr hlk dX12_lay_36 hP hD hS ⟨_, _, rfl, g1, g2, g3⟩
set_option maxRecDepth 100000 in
set_option maxHeartbeats 4000000 in
theorem c_X12_feed (l : Launch) (D : va_G) (t : Nat → ClassId) (h0 : Nat) (L : Nat → Nat) (sr : Nat → Int32) (k1 k2 k3 k4 k5 : Int32) (sz : Nat) : AI l D t yX12_feed cX12_feed 6 (some .int) ({ frames := 1, cells := 0, slots := 0, locals := 22 }) (mW t h0 L sr) sz [.ref h0, .int k1, .int k2, .int k3, .int k4, .int k5] 20 := by
  refine go (by decide) (Nat.le_of_ble_eq_true rfl) ?_
  intro p e s m below meth c ls A hF hr hlk hin hsz hAe hP hD hS hA hl
  rw [hAe]
  clear hAe hsz
  have hF : FX p m c cX12_feed 6 s _ RX12 D t := hF
  have hx := hF.1.1
  have hb := hF.1.2.1
  have hls := hl.1
  have hl : lv_has ls 6 [(0, .ref h0), (1, .int k1), (2, .int k2), (3, .int k3), (4, .int k4), (5, .int k5)] := hl
  have hP : va_P D cl1 [(h0, .inr (0, mF L)), ((L 0), .inl (t 0, 8000, .inl (fun _ => 0)))] s.heap := hP.sub [0, 1] rfl
  have hD : va_D A [(h0, .inr (0, mF L)), ((L 0), .inl (t 0, 8000, .inl (fun _ => 0)))] := hD.sub [0, 1] (by decide) rfl
  refine lv_aload_n hx hb dX12_feed_0 rfl (lv_at hl 0 rfl) ?_
  refine r_get hF ci_X12 fl_X12_261 dX12_feed_1 hP (q0 := 0) rfl rfl ?_
  refine lv_bipush (v := 20) hx hb dX12_feed_4 (by decide) ?_
  refine lv_iadd hx hb dX12_feed_6 ?_
  refine lv_sipush (v := 8000) hx hb dX12_feed_7 (by decide) ?_
  refine lv_icmp_le (tgt := 15) hx hb dX12_feed_10 rfl (fun _ => ?_) (fun h => absurd (by decide) h)
  have g1 : (mF L)[0]? = some (.ref (L 0)) := rfl
  have g2 : (mF L)[1]? = some (.int (nI 0)) := rfl
  have g3 : (mF L).length = 120 := rfl
  generalize mF L = fs at hP hD g1 g2 g3
  have hP : va_P D cl1 (layW t h0 (L 0) fs (fun _ => 0)) _ := hP
  have hD : va_D A (layW t h0 (L 0) fs (fun _ => 0)) := hD
  generalize (fun _ => 0 : Nat → Int32) = f at hP hD
  refine lv_aload_n hx hb dX12_feed_15 rfl (lv_at hl 0 rfl) ?_
  refine lv_iload_n hx hb dX12_feed_16 rfl (lv_at hl 1 rfl) ?_
  refine r_cWV (As := [.int k1]) (rest := []) hF mv_X12_265 ci_X12 (c_X12_lay l D t h0 (L 0) 0 fs f g1 g2 g3 (by decide) k1 _) dX12_feed_17 rfl rfl (by decide) rfl hl.1 (by decide) hP hD hS hA (q0 := 0) rfl (by decide) rfl (fun w1 H locs hI hP hD hS => ?_)
  obtain ⟨fs, f, rfl, g1, g2, g3⟩ := hI
  refine lv_aload_n hx hb dX12_feed_20 rfl (lv_at hl 0 rfl) ?_
  refine lv_iload_n hx hb dX12_feed_21 rfl (lv_at hl 2 rfl) ?_
  refine r_cWV (As := [.int k2]) (rest := []) hF mv_X12_265 ci_X12 (c_X12_lay l D t h0 (L 0) 4 fs f g1 g2 g3 (by decide) k2 _) dX12_feed_22 rfl rfl (by decide) rfl hl.1 (by decide) hP hD hS hA (q0 := 0) rfl (by decide) rfl (fun w1 H locs hI hP hD hS => ?_)
  obtain ⟨fs, f, rfl, g1, g2, g3⟩ := hI
  refine lv_aload_n hx hb dX12_feed_25 rfl (lv_at hl 0 rfl) ?_
  refine lv_iload_n hx hb dX12_feed_26 rfl (lv_at hl 3 rfl) ?_
  refine r_cWV (As := [.int k3]) (rest := []) hF mv_X12_265 ci_X12 (c_X12_lay l D t h0 (L 0) 8 fs f g1 g2 g3 (by decide) k3 _) dX12_feed_27 rfl rfl (by decide) rfl hl.1 (by decide) hP hD hS hA (q0 := 0) rfl (by decide) rfl (fun w1 H locs hI hP hD hS => ?_)
  obtain ⟨fs, f, rfl, g1, g2, g3⟩ := hI
  refine lv_aload_n hx hb dX12_feed_30 rfl (lv_at hl 0 rfl) ?_
  refine lv_iload hx hb dX12_feed_31 (lv_at hl 4 rfl) ?_
  refine r_cWV (As := [.int k4]) (rest := []) hF mv_X12_265 ci_X12 (c_X12_lay l D t h0 (L 0) 12 fs f g1 g2 g3 (by decide) k4 _) dX12_feed_33 rfl rfl (by decide) rfl hl.1 (by decide) hP hD hS hA (q0 := 0) rfl (by decide) rfl (fun w1 H locs hI hP hD hS => ?_)
  obtain ⟨fs, f, rfl, g1, g2, g3⟩ := hI
  refine lv_aload_n hx hb dX12_feed_36 rfl (lv_at hl 0 rfl) ?_
  refine lv_iload hx hb dX12_feed_37 (lv_at hl 5 rfl) ?_
  refine r_cWV (As := [.int k5]) (rest := []) hF mv_X12_265 ci_X12 (c_X12_lay l D t h0 (L 0) 16 fs f g1 g2 g3 (by decide) k5 _) dX12_feed_39 rfl rfl (by decide) rfl hl.1 (by decide) hP hD hS hA (q0 := 0) rfl (by decide) rfl (fun w1 H locs hI hP hD hS => ?_)
  obtain ⟨fs, f, rfl, g1, g2, g3⟩ := hI
  refine lv_aload_n hx hb dX12_feed_42 rfl (lv_at hl 0 rfl) ?_
  refine r_get hF ci_X12 fl_X12_261 dX12_feed_43 hP (q0 := 0) rfl g2 ?_
  exact r_retA hF hr hlk rfl dX12_feed_46 hS rfl
def mD : List Value := [.null, .int 0, .long 0, .null, .null, .null, .null, .null, .null, .null, .null, .null, .null, .null, .null, .null, .int 0, .null, .null, .null, .null, .null, .null, .null, .null, .null, .null, .null, .null, .null, .null, .null, .null, .null, .null, .null, .null, .null, .null, .null, .null, .null, .null, .null, .null, .null, .null, .null, .null, .null, .null, .null, .null, .null, .null, .null, .null, .null, .null, .long 0, .long 0, .long 0, .long 0, .int 0, .null, .null, .null, .null, .null, .int 0, .null, .null, .null, .null, .null, .null, .null, .null, .null, .null, .null, .null, .null, .null, .null, .null, .int 0, .int 0, .int 0, .null, .int 0, .int 0, .int 0, .int 0, .int 0, .int 0, .long 0, .long 0, .int 0, .int 0, .int 0, .long 0, .long 0, .int 0, .long 0, .long 0, .long 0, .long 0, .int 0, .int 0, .int 0, .long 0, .null, .null, .null, .int 0, .int 0, .int 0, .int 0, .int 0]
theorem mD_ok : ∀ j, j < 120 → defaultValue (tyX12 j) = vp_V mD j := by
  intro j hj
  have h : ∀ j : Fin 120, defaultValue (tyX12 j.val) = vp_V mD j.val := by decide +kernel
  exact h ⟨j, hj⟩
def mI (t : Nat → ClassId) (h0 : Nat) (w1 : va_W) : Prop := ∃ (L : Nat → Nat) (sr : Nat → Int32), (∀ i, i < 4 → sr i = -1) ∧ w1 = mW t h0 L sr
section H12
variable {p : Program} {l : Launch} {e : Env} {R : Room} {s : State} {m : MethodId} {args : Array Value} {below : List Frame} {meth : Method} {c : Code} {H : Heap} {locs : List Loc} {cells slots : Nat} {Q : State → Prop} {cc : ByteArray} {pc : Nat} {ls : Array Slot} {rest : List Value} {D : va_G} {t : Nat → ClassId} {A : Nat → Prop} {H0 : Heap} {tl : va_W} {nL : Nat}
theorem r_mk {atype : ArrayType} {tyE : FieldType} {t0 : Nat} {cB : ClassId} {index k h0 : Nat} {fs : List Value} (hF : FX p m c cc nL s args RX12 D t) (hin : meth.name = "<init>") (hdg : decode cc pc = .ok (.newarray atype, 2)) (hdg2 : decode cc (pc + 2) = .ok (.putfield index, 3)) (hL : FL RX12 index TX12 120 k) (hw : Cond.arrayClass (newarray.typeOf atype) ∈ big) (hty : newarray.typeOf atype = tyE) (ht : (tys1 t)[t0]? = some (cB, tyE)) (hprim : va_RA s cB tyE → s.vm.findClass ("[" ++ tyE.toString) = some cB) (hfin : (TX12 k).2.2.2 = true) (hdc : (TX12 k).1 = RX12) (hn2 : ∀ q : Nat, narrow (tyX12 k) (.ref q) = .ref q) (hfit : ∀ q : Nat, fits (tyX12 k) (.ref q) = true) (hlen : fs.length = 120) (hP : va_P D cl1 ((h0, .inr (0, fs)) :: tl) H) (hD : va_D A ((h0, .inr (0, fs)) :: tl)) (hS : va_S A H0 H locs) (hA : ∀ q, H0.size ≤ q → A q)
    {n : Int32} {N' : Nat} {a0 : vp_A} (ha : ∀ cA : ClassId, vp_cell cA a0 = arrV cA N' (fun _ => defaultValue tyE)) (hn : ¬ n < 0) (hN : n.toNatClampNeg = N') (hbytes : N' * componentBytes tyE ≤ 536870912) (hcells : cells + 1 ≤ R.cells) (hslots : slots + N' ≤ R.slots)
    (kk : ∀ (q : Nat) (H1 : Heap) (locs1 : List Loc), (fs.set k (.ref q)).length = 120 → va_P D cl1 ((h0, .inr (0, fs.set k (.ref q))) :: (tl ++ [(q, .inl (cB, a0))])) H1 → va_D A ((h0, .inr (0, fs.set k (.ref q))) :: (tl ++ [(q, .inl (cB, a0))])) → va_S A H0 H1 locs1 → W p l e R s m args below meth c H1 locs1 (cells + 1) (slots + N') Q (F0 m (pc + 5) ls rest)) : W p l e R s m args below meth c H locs cells slots Q (F0 m pc ls (.int n :: .ref h0 :: rest)) := by
  refine r_newa hF hdg hw hty ht hprim hP hD hS hA ha hn hN hbytes hcells hslots (fun q H1 h1 h2 h3 => ?_)
  refine r_putF hF ci_X12 hL hdg2 h1 h2 h3 (q0 := 0) rfl hin hfin hdc (hn2 q) (hfit q) (by rw [hlen]; exact hL.1) (fun H2 l2 h4 h5 h6 => ?_)
  exact kk q H2 l2 (by rw [List.length_set]; exact hlen) h4 h5 h6
end H12
set_option maxRecDepth 100000 in
set_option maxHeartbeats 4000000 in
theorem c_X12_init (l : Launch) (D : va_G) (t : Nat → ClassId) (h0 : Nat) (sz : Nat) : WV l D t yX12_init cX12_init 2 ({ frames := 2, cells := 80, slots := 1002194, locals := 60 }) [(h0, .inr (0, mD))] sz [.ref h0] 80 1002194 (fun _ => True) (mI t h0) := by
  refine goE (by decide) (Nat.le_of_ble_eq_true rfl) ?_
  intro p e s m below meth c ls A hF hr hlk hin hsz hAe hP hD hS hA hl hE
  rw [hAe]
  have hF : FX p m c cX12_init 2 s _ RX12 D t := hF
  have hx := hF.1.1
  have hb := hF.1.2.1
  have hl : lv_has ls 2 [(0, .ref h0)] := hl
  refine lv_aload_n hx hb dX12_init_0 rfl (lv_at hl 0 rfl) ?_
  refine W.objInit hx hb hF.1.2.2.2.1 (hF.1.2.2.2.2 _ (wb 277 rfl)) (hF.1.2.2.2.2 _ (wb 10 rfl)) (hF.1.2.2.2.2 _ (wb 11 rfl)) rfl (hl.1.trans hF.1.2.2.1.symm) rfl dX12_init_1 (Nat.le_of_ble_eq_true rfl) (Nat.le_of_ble_eq_true rfl) ?_
  refine W.eq (g2 := F0 m 4 ls []) rfl ?_
  have hlen : mD.length = 120 := rfl
  refine lv_aload_n hx hb dX12_init_4 rfl (lv_at hl 0 rfl) ?_
  refine lv_sipush (v := 8000) hx hb dX12_init_5 (by decide) ?_
  refine r_mk (t0 := 0) (N' := 8000) (a0 := (8000, .inl (fun _ => 0))) hF hin dX12_init_8 dX12_init_10 fl_X12_7 (wb 12 rfl) rfl rfl id rfl rfl (fun _ => rfl) (fun _ => rfl) hlen hP hD hS hA (fun _ => rfl) (by decide) (by decide) (by decide) (by decide) (by decide) (fun q0 H locs hlen hP hD hS => ?_)
  refine lv_aload_n hx hb dX12_init_13 rfl (lv_at hl 0 rfl) ?_
  refine lv_sipush (v := 160) hx hb dX12_init_14 (by decide) ?_
  refine r_mk (t0 := 3) (N' := 160) (a0 := (160, .inl (fun _ => 0))) hF hin dX12_init_17 dX12_init_19 fl_X12_13 (wb 505 rfl) rfl rfl id rfl rfl (fun _ => rfl) (fun _ => rfl) hlen hP hD hS hA (fun _ => rfl) (by decide) (by decide) (by decide) (by decide) (by decide) (fun q1 H locs hlen hP hD hS => ?_)
  refine lv_aload_n hx hb dX12_init_22 rfl (lv_at hl 0 rfl) ?_
  refine lv_sipush (v := 160) hx hb dX12_init_23 (by decide) ?_
  refine r_mk (t0 := 1) (N' := 160) (a0 := (160, .inl (fun _ => 0))) hF hin dX12_init_26 dX12_init_28 fl_X12_17 (wb 39 rfl) rfl rfl id rfl rfl (fun _ => rfl) (fun _ => rfl) hlen hP hD hS hA (fun _ => rfl) (by decide) (by decide) (by decide) (by decide) (by decide) (fun q2 H locs hlen hP hD hS => ?_)
  refine lv_aload_n hx hb dX12_init_31 rfl (lv_at hl 0 rfl) ?_
  refine lv_sipush (v := 160) hx hb dX12_init_32 (by decide) ?_
  refine r_mk (t0 := 3) (N' := 160) (a0 := (160, .inl (fun _ => 0))) hF hin dX12_init_35 dX12_init_37 fl_X12_21 (wb 505 rfl) rfl rfl id rfl rfl (fun _ => rfl) (fun _ => rfl) hlen hP hD hS hA (fun _ => rfl) (by decide) (by decide) (by decide) (by decide) (by decide) (fun q3 H locs hlen hP hD hS => ?_)
  replace hP : va_P D cl1 [(h0, .inr (0, [.ref q0, .int 0, .long 0, .ref q1, .ref q2, .ref q3, .null, .null, .null, .null, .null, .null, .null, .null, .null, .null, .int 0, .null, .null, .null, .null, .null, .null, .null, .null, .null, .null, .null, .null, .null, .null, .null, .null, .null, .null, .null, .null, .null, .null, .null, .null, .null, .null, .null, .null, .null, .null, .null, .null, .null, .null, .null, .null, .null, .null, .null, .null, .null, .null, .long 0, .long 0, .long 0, .long 0, .int 0, .null, .null, .null, .null, .null, .int 0, .null, .null, .null, .null, .null, .null, .null, .null, .null, .null, .null, .null, .null, .null, .null, .null, .int 0, .int 0, .int 0, .null, .int 0, .int 0, .int 0, .int 0, .int 0, .int 0, .long 0, .long 0, .int 0, .int 0, .int 0, .long 0, .long 0, .int 0, .long 0, .long 0, .long 0, .long 0, .int 0, .int 0, .int 0, .long 0, .null, .null, .null, .int 0, .int 0, .int 0, .int 0, .int 0])), (q0, .inl (t 0, 8000, .inl (fun _ => 0))), (q1, .inl (t 3, 160, .inl (fun _ => 0))), (q2, .inl (t 1, 160, .inl (fun _ => 0))), (q3, .inl (t 3, 160, .inl (fun _ => 0)))] H := hP
  replace hD : va_D A [(h0, .inr (0, [.ref q0, .int 0, .long 0, .ref q1, .ref q2, .ref q3, .null, .null, .null, .null, .null, .null, .null, .null, .null, .null, .int 0, .null, .null, .null, .null, .null, .null, .null, .null, .null, .null, .null, .null, .null, .null, .null, .null, .null, .null, .null, .null, .null, .null, .null, .null, .null, .null, .null, .null, .null, .null, .null, .null, .null, .null, .null, .null, .null, .null, .null, .null, .null, .null, .long 0, .long 0, .long 0, .long 0, .int 0, .null, .null, .null, .null, .null, .int 0, .null, .null, .null, .null, .null, .null, .null, .null, .null, .null, .null, .null, .null, .null, .null, .null, .int 0, .int 0, .int 0, .null, .int 0, .int 0, .int 0, .int 0, .int 0, .int 0, .long 0, .long 0, .int 0, .int 0, .int 0, .long 0, .long 0, .int 0, .long 0, .long 0, .long 0, .long 0, .int 0, .int 0, .int 0, .long 0, .null, .null, .null, .int 0, .int 0, .int 0, .int 0, .int 0])), (q0, .inl (t 0, 8000, .inl (fun _ => 0))), (q1, .inl (t 3, 160, .inl (fun _ => 0))), (q2, .inl (t 1, 160, .inl (fun _ => 0))), (q3, .inl (t 3, 160, .inl (fun _ => 0)))] := hD
  replace hlen : ([.ref q0, .int 0, .long 0, .ref q1, .ref q2, .ref q3, .null, .null, .null, .null, .null, .null, .null, .null, .null, .null, .int 0, .null, .null, .null, .null, .null, .null, .null, .null, .null, .null, .null, .null, .null, .null, .null, .null, .null, .null, .null, .null, .null, .null, .null, .null, .null, .null, .null, .null, .null, .null, .null, .null, .null, .null, .null, .null, .null, .null, .null, .null, .null, .null, .long 0, .long 0, .long 0, .long 0, .int 0, .null, .null, .null, .null, .null, .int 0, .null, .null, .null, .null, .null, .null, .null, .null, .null, .null, .null, .null, .null, .null, .null, .null, .int 0, .int 0, .int 0, .null, .int 0, .int 0, .int 0, .int 0, .int 0, .int 0, .long 0, .long 0, .int 0, .int 0, .int 0, .long 0, .long 0, .int 0, .long 0, .long 0, .long 0, .long 0, .int 0, .int 0, .int 0, .long 0, .null, .null, .null, .int 0, .int 0, .int 0, .int 0, .int 0] : List Value).length = 120 := rfl
  refine lv_aload_n hx hb dX12_init_40 rfl (lv_at hl 0 rfl) ?_
  refine lv_sipush (v := 1920) hx hb dX12_init_41 (by decide) ?_
  refine r_mk (t0 := 0) (N' := 1920) (a0 := (1920, .inl (fun _ => 0))) hF hin dX12_init_44 dX12_init_46 fl_X12_24 (wb 12 rfl) rfl rfl id rfl rfl (fun _ => rfl) (fun _ => rfl) hlen hP hD hS hA (fun _ => rfl) (by decide) (by decide) (by decide) (by decide) (by decide) (fun q4 H locs hlen hP hD hS => ?_)
  refine lv_aload_n hx hb dX12_init_49 rfl (lv_at hl 0 rfl) ?_
  refine lv_sipush (v := 160) hx hb dX12_init_50 (by decide) ?_
  refine r_mk (t0 := 1) (N' := 160) (a0 := (160, .inl (fun _ => 0))) hF hin dX12_init_53 dX12_init_55 fl_X12_27 (wb 39 rfl) rfl rfl id rfl rfl (fun _ => rfl) (fun _ => rfl) hlen hP hD hS hA (fun _ => rfl) (by decide) (by decide) (by decide) (by decide) (by decide) (fun q5 H locs hlen hP hD hS => ?_)
  refine lv_aload_n hx hb dX12_init_58 rfl (lv_at hl 0 rfl) ?_
  refine lv_sipush (v := 160) hx hb dX12_init_59 (by decide) ?_
  refine r_mk (t0 := 1) (N' := 160) (a0 := (160, .inl (fun _ => 0))) hF hin dX12_init_62 dX12_init_64 fl_X12_30 (wb 39 rfl) rfl rfl id rfl rfl (fun _ => rfl) (fun _ => rfl) hlen hP hD hS hA (fun _ => rfl) (by decide) (by decide) (by decide) (by decide) (by decide) (fun q6 H locs hlen hP hD hS => ?_)
  refine lv_aload_n hx hb dX12_init_67 rfl (lv_at hl 0 rfl) ?_
  refine lv_sipush (v := 640) hx hb dX12_init_68 (by decide) ?_
  refine r_mk (t0 := 2) (N' := 640) (a0 := (640, .inr (.inl (fun _ => 0)))) hF hin dX12_init_71 dX12_init_73 fl_X12_33 (wb 138 rfl) rfl rfl id rfl rfl (fun _ => rfl) (fun _ => rfl) hlen hP hD hS hA (fun _ => rfl) (by decide) (by decide) (by decide) (by decide) (by decide) (fun q7 H locs hlen hP hD hS => ?_)
  replace hP : va_P D cl1 [(h0, .inr (0, [.ref q0, .int 0, .long 0, .ref q1, .ref q2, .ref q3, .ref q4, .ref q5, .ref q6, .ref q7, .null, .null, .null, .null, .null, .null, .int 0, .null, .null, .null, .null, .null, .null, .null, .null, .null, .null, .null, .null, .null, .null, .null, .null, .null, .null, .null, .null, .null, .null, .null, .null, .null, .null, .null, .null, .null, .null, .null, .null, .null, .null, .null, .null, .null, .null, .null, .null, .null, .null, .long 0, .long 0, .long 0, .long 0, .int 0, .null, .null, .null, .null, .null, .int 0, .null, .null, .null, .null, .null, .null, .null, .null, .null, .null, .null, .null, .null, .null, .null, .null, .int 0, .int 0, .int 0, .null, .int 0, .int 0, .int 0, .int 0, .int 0, .int 0, .long 0, .long 0, .int 0, .int 0, .int 0, .long 0, .long 0, .int 0, .long 0, .long 0, .long 0, .long 0, .int 0, .int 0, .int 0, .long 0, .null, .null, .null, .int 0, .int 0, .int 0, .int 0, .int 0])), (q0, .inl (t 0, 8000, .inl (fun _ => 0))), (q1, .inl (t 3, 160, .inl (fun _ => 0))), (q2, .inl (t 1, 160, .inl (fun _ => 0))), (q3, .inl (t 3, 160, .inl (fun _ => 0))), (q4, .inl (t 0, 1920, .inl (fun _ => 0))), (q5, .inl (t 1, 160, .inl (fun _ => 0))), (q6, .inl (t 1, 160, .inl (fun _ => 0))), (q7, .inl (t 2, 640, .inr (.inl (fun _ => 0))))] H := hP
  replace hD : va_D A [(h0, .inr (0, [.ref q0, .int 0, .long 0, .ref q1, .ref q2, .ref q3, .ref q4, .ref q5, .ref q6, .ref q7, .null, .null, .null, .null, .null, .null, .int 0, .null, .null, .null, .null, .null, .null, .null, .null, .null, .null, .null, .null, .null, .null, .null, .null, .null, .null, .null, .null, .null, .null, .null, .null, .null, .null, .null, .null, .null, .null, .null, .null, .null, .null, .null, .null, .null, .null, .null, .null, .null, .null, .long 0, .long 0, .long 0, .long 0, .int 0, .null, .null, .null, .null, .null, .int 0, .null, .null, .null, .null, .null, .null, .null, .null, .null, .null, .null, .null, .null, .null, .null, .null, .int 0, .int 0, .int 0, .null, .int 0, .int 0, .int 0, .int 0, .int 0, .int 0, .long 0, .long 0, .int 0, .int 0, .int 0, .long 0, .long 0, .int 0, .long 0, .long 0, .long 0, .long 0, .int 0, .int 0, .int 0, .long 0, .null, .null, .null, .int 0, .int 0, .int 0, .int 0, .int 0])), (q0, .inl (t 0, 8000, .inl (fun _ => 0))), (q1, .inl (t 3, 160, .inl (fun _ => 0))), (q2, .inl (t 1, 160, .inl (fun _ => 0))), (q3, .inl (t 3, 160, .inl (fun _ => 0))), (q4, .inl (t 0, 1920, .inl (fun _ => 0))), (q5, .inl (t 1, 160, .inl (fun _ => 0))), (q6, .inl (t 1, 160, .inl (fun _ => 0))), (q7, .inl (t 2, 640, .inr (.inl (fun _ => 0))))] := hD
  replace hlen : ([.ref q0, .int 0, .long 0, .ref q1, .ref q2, .ref q3, .ref q4, .ref q5, .ref q6, .ref q7, .null, .null, .null, .null, .null, .null, .int 0, .null, .null, .null, .null, .null, .null, .null, .null, .null, .null, .null, .null, .null, .null, .null, .null, .null, .null, .null, .null, .null, .null, .null, .null, .null, .null, .null, .null, .null, .null, .null, .null, .null, .null, .null, .null, .null, .null, .null, .null, .null, .null, .long 0, .long 0, .long 0, .long 0, .int 0, .null, .null, .null, .null, .null, .int 0, .null, .null, .null, .null, .null, .null, .null, .null, .null, .null, .null, .null, .null, .null, .null, .null, .int 0, .int 0, .int 0, .null, .int 0, .int 0, .int 0, .int 0, .int 0, .int 0, .long 0, .long 0, .int 0, .int 0, .int 0, .long 0, .long 0, .int 0, .long 0, .long 0, .long 0, .long 0, .int 0, .int 0, .int 0, .long 0, .null, .null, .null, .int 0, .int 0, .int 0, .int 0, .int 0] : List Value).length = 120 := rfl
  refine lv_aload_n hx hb dX12_init_76 rfl (lv_at hl 0 rfl) ?_
  refine lv_sipush (v := 160) hx hb dX12_init_77 (by decide) ?_
  refine r_mk (t0 := 1) (N' := 160) (a0 := (160, .inl (fun _ => 0))) hF hin dX12_init_80 dX12_init_82 fl_X12_37 (wb 39 rfl) rfl rfl id rfl rfl (fun _ => rfl) (fun _ => rfl) hlen hP hD hS hA (fun _ => rfl) (by decide) (by decide) (by decide) (by decide) (by decide) (fun q8 H locs hlen hP hD hS => ?_)
  refine lv_aload_n hx hb dX12_init_85 rfl (lv_at hl 0 rfl) ?_
  refine lv_ldc (v := 655360) hx hb hF.1.2.2.2.1 (hF.1.2.2.2.2 _ (wb 287 rfl)) dX12_init_86 ?_
  refine r_mk (t0 := 0) (N' := 655360) (a0 := (655360, .inl (fun _ => 0))) hF hin dX12_init_88 dX12_init_90 fl_X12_41 (wb 12 rfl) rfl rfl id rfl rfl (fun _ => rfl) (fun _ => rfl) hlen hP hD hS hA (fun _ => rfl) (by decide) (by decide) (by decide) (by decide) (by decide) (fun q9 H locs hlen hP hD hS => ?_)
  refine lv_aload_n hx hb dX12_init_93 rfl (lv_at hl 0 rfl) ?_
  refine lv_bipush (v := 80) hx hb dX12_init_94 (by decide) ?_
  refine r_mk (t0 := 3) (N' := 80) (a0 := (80, .inl (fun _ => 0))) hF hin dX12_init_96 dX12_init_98 fl_X12_44 (wb 505 rfl) rfl rfl id rfl rfl (fun _ => rfl) (fun _ => rfl) hlen hP hD hS hA (fun _ => rfl) (by decide) (by decide) (by decide) (by decide) (by decide) (fun q10 H locs hlen hP hD hS => ?_)
  refine lv_aload_n hx hb dX12_init_101 rfl (lv_at hl 0 rfl) ?_
  refine lv_iconst (v := 4) hx hb dX12_init_102 (by decide) ?_
  refine r_mk (t0 := 1) (N' := 4) (a0 := (4, .inl (fun _ => 0))) hF hin dX12_init_103 dX12_init_105 fl_X12_47 (wb 39 rfl) rfl rfl id rfl rfl (fun _ => rfl) (fun _ => rfl) hlen hP hD hS hA (fun _ => rfl) (by decide) (by decide) (by decide) (by decide) (by decide) (fun q11 H locs hlen hP hD hS => ?_)
  replace hP : va_P D cl1 [(h0, .inr (0, [.ref q0, .int 0, .long 0, .ref q1, .ref q2, .ref q3, .ref q4, .ref q5, .ref q6, .ref q7, .ref q8, .ref q9, .ref q10, .ref q11, .null, .null, .int 0, .null, .null, .null, .null, .null, .null, .null, .null, .null, .null, .null, .null, .null, .null, .null, .null, .null, .null, .null, .null, .null, .null, .null, .null, .null, .null, .null, .null, .null, .null, .null, .null, .null, .null, .null, .null, .null, .null, .null, .null, .null, .null, .long 0, .long 0, .long 0, .long 0, .int 0, .null, .null, .null, .null, .null, .int 0, .null, .null, .null, .null, .null, .null, .null, .null, .null, .null, .null, .null, .null, .null, .null, .null, .int 0, .int 0, .int 0, .null, .int 0, .int 0, .int 0, .int 0, .int 0, .int 0, .long 0, .long 0, .int 0, .int 0, .int 0, .long 0, .long 0, .int 0, .long 0, .long 0, .long 0, .long 0, .int 0, .int 0, .int 0, .long 0, .null, .null, .null, .int 0, .int 0, .int 0, .int 0, .int 0])), (q0, .inl (t 0, 8000, .inl (fun _ => 0))), (q1, .inl (t 3, 160, .inl (fun _ => 0))), (q2, .inl (t 1, 160, .inl (fun _ => 0))), (q3, .inl (t 3, 160, .inl (fun _ => 0))), (q4, .inl (t 0, 1920, .inl (fun _ => 0))), (q5, .inl (t 1, 160, .inl (fun _ => 0))), (q6, .inl (t 1, 160, .inl (fun _ => 0))), (q7, .inl (t 2, 640, .inr (.inl (fun _ => 0)))), (q8, .inl (t 1, 160, .inl (fun _ => 0))), (q9, .inl (t 0, 655360, .inl (fun _ => 0))), (q10, .inl (t 3, 80, .inl (fun _ => 0))), (q11, .inl (t 1, 4, .inl (fun _ => 0)))] H := hP
  replace hD : va_D A [(h0, .inr (0, [.ref q0, .int 0, .long 0, .ref q1, .ref q2, .ref q3, .ref q4, .ref q5, .ref q6, .ref q7, .ref q8, .ref q9, .ref q10, .ref q11, .null, .null, .int 0, .null, .null, .null, .null, .null, .null, .null, .null, .null, .null, .null, .null, .null, .null, .null, .null, .null, .null, .null, .null, .null, .null, .null, .null, .null, .null, .null, .null, .null, .null, .null, .null, .null, .null, .null, .null, .null, .null, .null, .null, .null, .null, .long 0, .long 0, .long 0, .long 0, .int 0, .null, .null, .null, .null, .null, .int 0, .null, .null, .null, .null, .null, .null, .null, .null, .null, .null, .null, .null, .null, .null, .null, .null, .int 0, .int 0, .int 0, .null, .int 0, .int 0, .int 0, .int 0, .int 0, .int 0, .long 0, .long 0, .int 0, .int 0, .int 0, .long 0, .long 0, .int 0, .long 0, .long 0, .long 0, .long 0, .int 0, .int 0, .int 0, .long 0, .null, .null, .null, .int 0, .int 0, .int 0, .int 0, .int 0])), (q0, .inl (t 0, 8000, .inl (fun _ => 0))), (q1, .inl (t 3, 160, .inl (fun _ => 0))), (q2, .inl (t 1, 160, .inl (fun _ => 0))), (q3, .inl (t 3, 160, .inl (fun _ => 0))), (q4, .inl (t 0, 1920, .inl (fun _ => 0))), (q5, .inl (t 1, 160, .inl (fun _ => 0))), (q6, .inl (t 1, 160, .inl (fun _ => 0))), (q7, .inl (t 2, 640, .inr (.inl (fun _ => 0)))), (q8, .inl (t 1, 160, .inl (fun _ => 0))), (q9, .inl (t 0, 655360, .inl (fun _ => 0))), (q10, .inl (t 3, 80, .inl (fun _ => 0))), (q11, .inl (t 1, 4, .inl (fun _ => 0)))] := hD
  replace hlen : ([.ref q0, .int 0, .long 0, .ref q1, .ref q2, .ref q3, .ref q4, .ref q5, .ref q6, .ref q7, .ref q8, .ref q9, .ref q10, .ref q11, .null, .null, .int 0, .null, .null, .null, .null, .null, .null, .null, .null, .null, .null, .null, .null, .null, .null, .null, .null, .null, .null, .null, .null, .null, .null, .null, .null, .null, .null, .null, .null, .null, .null, .null, .null, .null, .null, .null, .null, .null, .null, .null, .null, .null, .null, .long 0, .long 0, .long 0, .long 0, .int 0, .null, .null, .null, .null, .null, .int 0, .null, .null, .null, .null, .null, .null, .null, .null, .null, .null, .null, .null, .null, .null, .null, .null, .int 0, .int 0, .int 0, .null, .int 0, .int 0, .int 0, .int 0, .int 0, .int 0, .long 0, .long 0, .int 0, .int 0, .int 0, .long 0, .long 0, .int 0, .long 0, .long 0, .long 0, .long 0, .int 0, .int 0, .int 0, .long 0, .null, .null, .null, .int 0, .int 0, .int 0, .int 0, .int 0] : List Value).length = 120 := rfl
  refine lv_aload_n hx hb dX12_init_108 rfl (lv_at hl 0 rfl) ?_
  refine lv_bipush (v := 48) hx hb dX12_init_109 (by decide) ?_
  refine r_mk (t0 := 0) (N' := 48) (a0 := (48, .inl (fun _ => 0))) hF hin dX12_init_111 dX12_init_113 fl_X12_50 (wb 12 rfl) rfl rfl id rfl rfl (fun _ => rfl) (fun _ => rfl) hlen hP hD hS hA (fun _ => rfl) (by decide) (by decide) (by decide) (by decide) (by decide) (fun q12 H locs hlen hP hD hS => ?_)
  refine lv_aload_n hx hb dX12_init_116 rfl (lv_at hl 0 rfl) ?_
  refine lv_iconst (v := 4) hx hb dX12_init_117 (by decide) ?_
  refine r_mk (t0 := 1) (N' := 4) (a0 := (4, .inl (fun _ => 0))) hF hin dX12_init_118 dX12_init_120 fl_X12_53 (wb 39 rfl) rfl rfl id rfl rfl (fun _ => rfl) (fun _ => rfl) hlen hP hD hS hA (fun _ => rfl) (by decide) (by decide) (by decide) (by decide) (by decide) (fun q13 H locs hlen hP hD hS => ?_)
  refine lv_aload_n hx hb dX12_init_123 rfl (lv_at hl 0 rfl) ?_
  refine lv_bipush (v := 9) hx hb dX12_init_124 (by decide) ?_
  refine r_mk (t0 := 1) (N' := 9) (a0 := (9, .inl (fun _ => 0))) hF hin dX12_init_126 dX12_init_128 fl_X12_56 (wb 39 rfl) rfl rfl id rfl rfl (fun _ => rfl) (fun _ => rfl) hlen hP hD hS hA (fun _ => rfl) (by decide) (by decide) (by decide) (by decide) (by decide) (fun q14 H locs hlen hP hD hS => ?_)
  refine lv_aload_n hx hb dX12_init_131 rfl (lv_at hl 0 rfl) ?_
  refine lv_bipush (v := 9) hx hb dX12_init_132 (by decide) ?_
  refine r_mk (t0 := 1) (N' := 9) (a0 := (9, .inl (fun _ => 0))) hF hin dX12_init_134 dX12_init_136 fl_X12_59 (wb 39 rfl) rfl rfl id rfl rfl (fun _ => rfl) (fun _ => rfl) hlen hP hD hS hA (fun _ => rfl) (by decide) (by decide) (by decide) (by decide) (by decide) (fun q15 H locs hlen hP hD hS => ?_)
  replace hP : va_P D cl1 [(h0, .inr (0, [.ref q0, .int 0, .long 0, .ref q1, .ref q2, .ref q3, .ref q4, .ref q5, .ref q6, .ref q7, .ref q8, .ref q9, .ref q10, .ref q11, .ref q12, .ref q13, .int 0, .ref q14, .ref q15, .null, .null, .null, .null, .null, .null, .null, .null, .null, .null, .null, .null, .null, .null, .null, .null, .null, .null, .null, .null, .null, .null, .null, .null, .null, .null, .null, .null, .null, .null, .null, .null, .null, .null, .null, .null, .null, .null, .null, .null, .long 0, .long 0, .long 0, .long 0, .int 0, .null, .null, .null, .null, .null, .int 0, .null, .null, .null, .null, .null, .null, .null, .null, .null, .null, .null, .null, .null, .null, .null, .null, .int 0, .int 0, .int 0, .null, .int 0, .int 0, .int 0, .int 0, .int 0, .int 0, .long 0, .long 0, .int 0, .int 0, .int 0, .long 0, .long 0, .int 0, .long 0, .long 0, .long 0, .long 0, .int 0, .int 0, .int 0, .long 0, .null, .null, .null, .int 0, .int 0, .int 0, .int 0, .int 0])), (q0, .inl (t 0, 8000, .inl (fun _ => 0))), (q1, .inl (t 3, 160, .inl (fun _ => 0))), (q2, .inl (t 1, 160, .inl (fun _ => 0))), (q3, .inl (t 3, 160, .inl (fun _ => 0))), (q4, .inl (t 0, 1920, .inl (fun _ => 0))), (q5, .inl (t 1, 160, .inl (fun _ => 0))), (q6, .inl (t 1, 160, .inl (fun _ => 0))), (q7, .inl (t 2, 640, .inr (.inl (fun _ => 0)))), (q8, .inl (t 1, 160, .inl (fun _ => 0))), (q9, .inl (t 0, 655360, .inl (fun _ => 0))), (q10, .inl (t 3, 80, .inl (fun _ => 0))), (q11, .inl (t 1, 4, .inl (fun _ => 0))), (q12, .inl (t 0, 48, .inl (fun _ => 0))), (q13, .inl (t 1, 4, .inl (fun _ => 0))), (q14, .inl (t 1, 9, .inl (fun _ => 0))), (q15, .inl (t 1, 9, .inl (fun _ => 0)))] H := hP
  replace hD : va_D A [(h0, .inr (0, [.ref q0, .int 0, .long 0, .ref q1, .ref q2, .ref q3, .ref q4, .ref q5, .ref q6, .ref q7, .ref q8, .ref q9, .ref q10, .ref q11, .ref q12, .ref q13, .int 0, .ref q14, .ref q15, .null, .null, .null, .null, .null, .null, .null, .null, .null, .null, .null, .null, .null, .null, .null, .null, .null, .null, .null, .null, .null, .null, .null, .null, .null, .null, .null, .null, .null, .null, .null, .null, .null, .null, .null, .null, .null, .null, .null, .null, .long 0, .long 0, .long 0, .long 0, .int 0, .null, .null, .null, .null, .null, .int 0, .null, .null, .null, .null, .null, .null, .null, .null, .null, .null, .null, .null, .null, .null, .null, .null, .int 0, .int 0, .int 0, .null, .int 0, .int 0, .int 0, .int 0, .int 0, .int 0, .long 0, .long 0, .int 0, .int 0, .int 0, .long 0, .long 0, .int 0, .long 0, .long 0, .long 0, .long 0, .int 0, .int 0, .int 0, .long 0, .null, .null, .null, .int 0, .int 0, .int 0, .int 0, .int 0])), (q0, .inl (t 0, 8000, .inl (fun _ => 0))), (q1, .inl (t 3, 160, .inl (fun _ => 0))), (q2, .inl (t 1, 160, .inl (fun _ => 0))), (q3, .inl (t 3, 160, .inl (fun _ => 0))), (q4, .inl (t 0, 1920, .inl (fun _ => 0))), (q5, .inl (t 1, 160, .inl (fun _ => 0))), (q6, .inl (t 1, 160, .inl (fun _ => 0))), (q7, .inl (t 2, 640, .inr (.inl (fun _ => 0)))), (q8, .inl (t 1, 160, .inl (fun _ => 0))), (q9, .inl (t 0, 655360, .inl (fun _ => 0))), (q10, .inl (t 3, 80, .inl (fun _ => 0))), (q11, .inl (t 1, 4, .inl (fun _ => 0))), (q12, .inl (t 0, 48, .inl (fun _ => 0))), (q13, .inl (t 1, 4, .inl (fun _ => 0))), (q14, .inl (t 1, 9, .inl (fun _ => 0))), (q15, .inl (t 1, 9, .inl (fun _ => 0)))] := hD
  replace hlen : ([.ref q0, .int 0, .long 0, .ref q1, .ref q2, .ref q3, .ref q4, .ref q5, .ref q6, .ref q7, .ref q8, .ref q9, .ref q10, .ref q11, .ref q12, .ref q13, .int 0, .ref q14, .ref q15, .null, .null, .null, .null, .null, .null, .null, .null, .null, .null, .null, .null, .null, .null, .null, .null, .null, .null, .null, .null, .null, .null, .null, .null, .null, .null, .null, .null, .null, .null, .null, .null, .null, .null, .null, .null, .null, .null, .null, .null, .long 0, .long 0, .long 0, .long 0, .int 0, .null, .null, .null, .null, .null, .int 0, .null, .null, .null, .null, .null, .null, .null, .null, .null, .null, .null, .null, .null, .null, .null, .null, .int 0, .int 0, .int 0, .null, .int 0, .int 0, .int 0, .int 0, .int 0, .int 0, .long 0, .long 0, .int 0, .int 0, .int 0, .long 0, .long 0, .int 0, .long 0, .long 0, .long 0, .long 0, .int 0, .int 0, .int 0, .long 0, .null, .null, .null, .int 0, .int 0, .int 0, .int 0, .int 0] : List Value).length = 120 := rfl
  refine lv_aload_n hx hb dX12_init_139 rfl (lv_at hl 0 rfl) ?_
  refine lv_bipush (v := 9) hx hb dX12_init_140 (by decide) ?_
  refine r_mk (t0 := 1) (N' := 9) (a0 := (9, .inl (fun _ => 0))) hF hin dX12_init_142 dX12_init_144 fl_X12_62 (wb 39 rfl) rfl rfl id rfl rfl (fun _ => rfl) (fun _ => rfl) hlen hP hD hS hA (fun _ => rfl) (by decide) (by decide) (by decide) (by decide) (by decide) (fun q16 H locs hlen hP hD hS => ?_)
  refine lv_aload_n hx hb dX12_init_147 rfl (lv_at hl 0 rfl) ?_
  refine lv_bipush (v := 9) hx hb dX12_init_148 (by decide) ?_
  refine r_mk (t0 := 3) (N' := 9) (a0 := (9, .inl (fun _ => 0))) hF hin dX12_init_150 dX12_init_152 fl_X12_65 (wb 505 rfl) rfl rfl id rfl rfl (fun _ => rfl) (fun _ => rfl) hlen hP hD hS hA (fun _ => rfl) (by decide) (by decide) (by decide) (by decide) (by decide) (fun q17 H locs hlen hP hD hS => ?_)
  refine lv_aload_n hx hb dX12_init_155 rfl (lv_at hl 0 rfl) ?_
  refine lv_bipush (v := 108) hx hb dX12_init_156 (by decide) ?_
  refine r_mk (t0 := 0) (N' := 108) (a0 := (108, .inl (fun _ => 0))) hF hin dX12_init_158 dX12_init_160 fl_X12_68 (wb 12 rfl) rfl rfl id rfl rfl (fun _ => rfl) (fun _ => rfl) hlen hP hD hS hA (fun _ => rfl) (by decide) (by decide) (by decide) (by decide) (by decide) (fun q18 H locs hlen hP hD hS => ?_)
  refine lv_aload_n hx hb dX12_init_163 rfl (lv_at hl 0 rfl) ?_
  refine lv_bipush (v := 9) hx hb dX12_init_164 (by decide) ?_
  refine r_mk (t0 := 1) (N' := 9) (a0 := (9, .inl (fun _ => 0))) hF hin dX12_init_166 dX12_init_168 fl_X12_71 (wb 39 rfl) rfl rfl id rfl rfl (fun _ => rfl) (fun _ => rfl) hlen hP hD hS hA (fun _ => rfl) (by decide) (by decide) (by decide) (by decide) (by decide) (fun q19 H locs hlen hP hD hS => ?_)
  replace hP : va_P D cl1 [(h0, .inr (0, [.ref q0, .int 0, .long 0, .ref q1, .ref q2, .ref q3, .ref q4, .ref q5, .ref q6, .ref q7, .ref q8, .ref q9, .ref q10, .ref q11, .ref q12, .ref q13, .int 0, .ref q14, .ref q15, .ref q16, .ref q17, .ref q18, .ref q19, .null, .null, .null, .null, .null, .null, .null, .null, .null, .null, .null, .null, .null, .null, .null, .null, .null, .null, .null, .null, .null, .null, .null, .null, .null, .null, .null, .null, .null, .null, .null, .null, .null, .null, .null, .null, .long 0, .long 0, .long 0, .long 0, .int 0, .null, .null, .null, .null, .null, .int 0, .null, .null, .null, .null, .null, .null, .null, .null, .null, .null, .null, .null, .null, .null, .null, .null, .int 0, .int 0, .int 0, .null, .int 0, .int 0, .int 0, .int 0, .int 0, .int 0, .long 0, .long 0, .int 0, .int 0, .int 0, .long 0, .long 0, .int 0, .long 0, .long 0, .long 0, .long 0, .int 0, .int 0, .int 0, .long 0, .null, .null, .null, .int 0, .int 0, .int 0, .int 0, .int 0])), (q0, .inl (t 0, 8000, .inl (fun _ => 0))), (q1, .inl (t 3, 160, .inl (fun _ => 0))), (q2, .inl (t 1, 160, .inl (fun _ => 0))), (q3, .inl (t 3, 160, .inl (fun _ => 0))), (q4, .inl (t 0, 1920, .inl (fun _ => 0))), (q5, .inl (t 1, 160, .inl (fun _ => 0))), (q6, .inl (t 1, 160, .inl (fun _ => 0))), (q7, .inl (t 2, 640, .inr (.inl (fun _ => 0)))), (q8, .inl (t 1, 160, .inl (fun _ => 0))), (q9, .inl (t 0, 655360, .inl (fun _ => 0))), (q10, .inl (t 3, 80, .inl (fun _ => 0))), (q11, .inl (t 1, 4, .inl (fun _ => 0))), (q12, .inl (t 0, 48, .inl (fun _ => 0))), (q13, .inl (t 1, 4, .inl (fun _ => 0))), (q14, .inl (t 1, 9, .inl (fun _ => 0))), (q15, .inl (t 1, 9, .inl (fun _ => 0))), (q16, .inl (t 1, 9, .inl (fun _ => 0))), (q17, .inl (t 3, 9, .inl (fun _ => 0))), (q18, .inl (t 0, 108, .inl (fun _ => 0))), (q19, .inl (t 1, 9, .inl (fun _ => 0)))] H := hP
  replace hD : va_D A [(h0, .inr (0, [.ref q0, .int 0, .long 0, .ref q1, .ref q2, .ref q3, .ref q4, .ref q5, .ref q6, .ref q7, .ref q8, .ref q9, .ref q10, .ref q11, .ref q12, .ref q13, .int 0, .ref q14, .ref q15, .ref q16, .ref q17, .ref q18, .ref q19, .null, .null, .null, .null, .null, .null, .null, .null, .null, .null, .null, .null, .null, .null, .null, .null, .null, .null, .null, .null, .null, .null, .null, .null, .null, .null, .null, .null, .null, .null, .null, .null, .null, .null, .null, .null, .long 0, .long 0, .long 0, .long 0, .int 0, .null, .null, .null, .null, .null, .int 0, .null, .null, .null, .null, .null, .null, .null, .null, .null, .null, .null, .null, .null, .null, .null, .null, .int 0, .int 0, .int 0, .null, .int 0, .int 0, .int 0, .int 0, .int 0, .int 0, .long 0, .long 0, .int 0, .int 0, .int 0, .long 0, .long 0, .int 0, .long 0, .long 0, .long 0, .long 0, .int 0, .int 0, .int 0, .long 0, .null, .null, .null, .int 0, .int 0, .int 0, .int 0, .int 0])), (q0, .inl (t 0, 8000, .inl (fun _ => 0))), (q1, .inl (t 3, 160, .inl (fun _ => 0))), (q2, .inl (t 1, 160, .inl (fun _ => 0))), (q3, .inl (t 3, 160, .inl (fun _ => 0))), (q4, .inl (t 0, 1920, .inl (fun _ => 0))), (q5, .inl (t 1, 160, .inl (fun _ => 0))), (q6, .inl (t 1, 160, .inl (fun _ => 0))), (q7, .inl (t 2, 640, .inr (.inl (fun _ => 0)))), (q8, .inl (t 1, 160, .inl (fun _ => 0))), (q9, .inl (t 0, 655360, .inl (fun _ => 0))), (q10, .inl (t 3, 80, .inl (fun _ => 0))), (q11, .inl (t 1, 4, .inl (fun _ => 0))), (q12, .inl (t 0, 48, .inl (fun _ => 0))), (q13, .inl (t 1, 4, .inl (fun _ => 0))), (q14, .inl (t 1, 9, .inl (fun _ => 0))), (q15, .inl (t 1, 9, .inl (fun _ => 0))), (q16, .inl (t 1, 9, .inl (fun _ => 0))), (q17, .inl (t 3, 9, .inl (fun _ => 0))), (q18, .inl (t 0, 108, .inl (fun _ => 0))), (q19, .inl (t 1, 9, .inl (fun _ => 0)))] := hD
  replace hlen : ([.ref q0, .int 0, .long 0, .ref q1, .ref q2, .ref q3, .ref q4, .ref q5, .ref q6, .ref q7, .ref q8, .ref q9, .ref q10, .ref q11, .ref q12, .ref q13, .int 0, .ref q14, .ref q15, .ref q16, .ref q17, .ref q18, .ref q19, .null, .null, .null, .null, .null, .null, .null, .null, .null, .null, .null, .null, .null, .null, .null, .null, .null, .null, .null, .null, .null, .null, .null, .null, .null, .null, .null, .null, .null, .null, .null, .null, .null, .null, .null, .null, .long 0, .long 0, .long 0, .long 0, .int 0, .null, .null, .null, .null, .null, .int 0, .null, .null, .null, .null, .null, .null, .null, .null, .null, .null, .null, .null, .null, .null, .null, .null, .int 0, .int 0, .int 0, .null, .int 0, .int 0, .int 0, .int 0, .int 0, .int 0, .long 0, .long 0, .int 0, .int 0, .int 0, .long 0, .long 0, .int 0, .long 0, .long 0, .long 0, .long 0, .int 0, .int 0, .int 0, .long 0, .null, .null, .null, .int 0, .int 0, .int 0, .int 0, .int 0] : List Value).length = 120 := rfl
  refine lv_aload_n hx hb dX12_init_171 rfl (lv_at hl 0 rfl) ?_
  refine lv_bipush (v := 9) hx hb dX12_init_172 (by decide) ?_
  refine r_mk (t0 := 1) (N' := 9) (a0 := (9, .inl (fun _ => 0))) hF hin dX12_init_174 dX12_init_176 fl_X12_74 (wb 39 rfl) rfl rfl id rfl rfl (fun _ => rfl) (fun _ => rfl) hlen hP hD hS hA (fun _ => rfl) (by decide) (by decide) (by decide) (by decide) (by decide) (fun q20 H locs hlen hP hD hS => ?_)
  refine lv_aload_n hx hb dX12_init_179 rfl (lv_at hl 0 rfl) ?_
  refine lv_bipush (v := 36) hx hb dX12_init_180 (by decide) ?_
  refine r_mk (t0 := 2) (N' := 36) (a0 := (36, .inr (.inl (fun _ => 0)))) hF hin dX12_init_182 dX12_init_184 fl_X12_77 (wb 138 rfl) rfl rfl id rfl rfl (fun _ => rfl) (fun _ => rfl) hlen hP hD hS hA (fun _ => rfl) (by decide) (by decide) (by decide) (by decide) (by decide) (fun q21 H locs hlen hP hD hS => ?_)
  refine lv_aload_n hx hb dX12_init_187 rfl (lv_at hl 0 rfl) ?_
  refine lv_bipush (v := 9) hx hb dX12_init_188 (by decide) ?_
  refine r_mk (t0 := 1) (N' := 9) (a0 := (9, .inl (fun _ => 0))) hF hin dX12_init_190 dX12_init_192 fl_X12_80 (wb 39 rfl) rfl rfl id rfl rfl (fun _ => rfl) (fun _ => rfl) hlen hP hD hS hA (fun _ => rfl) (by decide) (by decide) (by decide) (by decide) (by decide) (fun q22 H locs hlen hP hD hS => ?_)
  refine lv_aload_n hx hb dX12_init_195 rfl (lv_at hl 0 rfl) ?_
  refine lv_bipush (v := 9) hx hb dX12_init_196 (by decide) ?_
  refine r_mk (t0 := 1) (N' := 9) (a0 := (9, .inl (fun _ => 0))) hF hin dX12_init_198 dX12_init_200 fl_X12_83 (wb 39 rfl) rfl rfl id rfl rfl (fun _ => rfl) (fun _ => rfl) hlen hP hD hS hA (fun _ => rfl) (by decide) (by decide) (by decide) (by decide) (by decide) (fun q23 H locs hlen hP hD hS => ?_)
  replace hP : va_P D cl1 [(h0, .inr (0, [.ref q0, .int 0, .long 0, .ref q1, .ref q2, .ref q3, .ref q4, .ref q5, .ref q6, .ref q7, .ref q8, .ref q9, .ref q10, .ref q11, .ref q12, .ref q13, .int 0, .ref q14, .ref q15, .ref q16, .ref q17, .ref q18, .ref q19, .ref q20, .ref q21, .ref q22, .ref q23, .null, .null, .null, .null, .null, .null, .null, .null, .null, .null, .null, .null, .null, .null, .null, .null, .null, .null, .null, .null, .null, .null, .null, .null, .null, .null, .null, .null, .null, .null, .null, .null, .long 0, .long 0, .long 0, .long 0, .int 0, .null, .null, .null, .null, .null, .int 0, .null, .null, .null, .null, .null, .null, .null, .null, .null, .null, .null, .null, .null, .null, .null, .null, .int 0, .int 0, .int 0, .null, .int 0, .int 0, .int 0, .int 0, .int 0, .int 0, .long 0, .long 0, .int 0, .int 0, .int 0, .long 0, .long 0, .int 0, .long 0, .long 0, .long 0, .long 0, .int 0, .int 0, .int 0, .long 0, .null, .null, .null, .int 0, .int 0, .int 0, .int 0, .int 0])), (q0, .inl (t 0, 8000, .inl (fun _ => 0))), (q1, .inl (t 3, 160, .inl (fun _ => 0))), (q2, .inl (t 1, 160, .inl (fun _ => 0))), (q3, .inl (t 3, 160, .inl (fun _ => 0))), (q4, .inl (t 0, 1920, .inl (fun _ => 0))), (q5, .inl (t 1, 160, .inl (fun _ => 0))), (q6, .inl (t 1, 160, .inl (fun _ => 0))), (q7, .inl (t 2, 640, .inr (.inl (fun _ => 0)))), (q8, .inl (t 1, 160, .inl (fun _ => 0))), (q9, .inl (t 0, 655360, .inl (fun _ => 0))), (q10, .inl (t 3, 80, .inl (fun _ => 0))), (q11, .inl (t 1, 4, .inl (fun _ => 0))), (q12, .inl (t 0, 48, .inl (fun _ => 0))), (q13, .inl (t 1, 4, .inl (fun _ => 0))), (q14, .inl (t 1, 9, .inl (fun _ => 0))), (q15, .inl (t 1, 9, .inl (fun _ => 0))), (q16, .inl (t 1, 9, .inl (fun _ => 0))), (q17, .inl (t 3, 9, .inl (fun _ => 0))), (q18, .inl (t 0, 108, .inl (fun _ => 0))), (q19, .inl (t 1, 9, .inl (fun _ => 0))), (q20, .inl (t 1, 9, .inl (fun _ => 0))), (q21, .inl (t 2, 36, .inr (.inl (fun _ => 0)))), (q22, .inl (t 1, 9, .inl (fun _ => 0))), (q23, .inl (t 1, 9, .inl (fun _ => 0)))] H := hP
  replace hD : va_D A [(h0, .inr (0, [.ref q0, .int 0, .long 0, .ref q1, .ref q2, .ref q3, .ref q4, .ref q5, .ref q6, .ref q7, .ref q8, .ref q9, .ref q10, .ref q11, .ref q12, .ref q13, .int 0, .ref q14, .ref q15, .ref q16, .ref q17, .ref q18, .ref q19, .ref q20, .ref q21, .ref q22, .ref q23, .null, .null, .null, .null, .null, .null, .null, .null, .null, .null, .null, .null, .null, .null, .null, .null, .null, .null, .null, .null, .null, .null, .null, .null, .null, .null, .null, .null, .null, .null, .null, .null, .long 0, .long 0, .long 0, .long 0, .int 0, .null, .null, .null, .null, .null, .int 0, .null, .null, .null, .null, .null, .null, .null, .null, .null, .null, .null, .null, .null, .null, .null, .null, .int 0, .int 0, .int 0, .null, .int 0, .int 0, .int 0, .int 0, .int 0, .int 0, .long 0, .long 0, .int 0, .int 0, .int 0, .long 0, .long 0, .int 0, .long 0, .long 0, .long 0, .long 0, .int 0, .int 0, .int 0, .long 0, .null, .null, .null, .int 0, .int 0, .int 0, .int 0, .int 0])), (q0, .inl (t 0, 8000, .inl (fun _ => 0))), (q1, .inl (t 3, 160, .inl (fun _ => 0))), (q2, .inl (t 1, 160, .inl (fun _ => 0))), (q3, .inl (t 3, 160, .inl (fun _ => 0))), (q4, .inl (t 0, 1920, .inl (fun _ => 0))), (q5, .inl (t 1, 160, .inl (fun _ => 0))), (q6, .inl (t 1, 160, .inl (fun _ => 0))), (q7, .inl (t 2, 640, .inr (.inl (fun _ => 0)))), (q8, .inl (t 1, 160, .inl (fun _ => 0))), (q9, .inl (t 0, 655360, .inl (fun _ => 0))), (q10, .inl (t 3, 80, .inl (fun _ => 0))), (q11, .inl (t 1, 4, .inl (fun _ => 0))), (q12, .inl (t 0, 48, .inl (fun _ => 0))), (q13, .inl (t 1, 4, .inl (fun _ => 0))), (q14, .inl (t 1, 9, .inl (fun _ => 0))), (q15, .inl (t 1, 9, .inl (fun _ => 0))), (q16, .inl (t 1, 9, .inl (fun _ => 0))), (q17, .inl (t 3, 9, .inl (fun _ => 0))), (q18, .inl (t 0, 108, .inl (fun _ => 0))), (q19, .inl (t 1, 9, .inl (fun _ => 0))), (q20, .inl (t 1, 9, .inl (fun _ => 0))), (q21, .inl (t 2, 36, .inr (.inl (fun _ => 0)))), (q22, .inl (t 1, 9, .inl (fun _ => 0))), (q23, .inl (t 1, 9, .inl (fun _ => 0)))] := hD
  replace hlen : ([.ref q0, .int 0, .long 0, .ref q1, .ref q2, .ref q3, .ref q4, .ref q5, .ref q6, .ref q7, .ref q8, .ref q9, .ref q10, .ref q11, .ref q12, .ref q13, .int 0, .ref q14, .ref q15, .ref q16, .ref q17, .ref q18, .ref q19, .ref q20, .ref q21, .ref q22, .ref q23, .null, .null, .null, .null, .null, .null, .null, .null, .null, .null, .null, .null, .null, .null, .null, .null, .null, .null, .null, .null, .null, .null, .null, .null, .null, .null, .null, .null, .null, .null, .null, .null, .long 0, .long 0, .long 0, .long 0, .int 0, .null, .null, .null, .null, .null, .int 0, .null, .null, .null, .null, .null, .null, .null, .null, .null, .null, .null, .null, .null, .null, .null, .null, .int 0, .int 0, .int 0, .null, .int 0, .int 0, .int 0, .int 0, .int 0, .int 0, .long 0, .long 0, .int 0, .int 0, .int 0, .long 0, .long 0, .int 0, .long 0, .long 0, .long 0, .long 0, .int 0, .int 0, .int 0, .long 0, .null, .null, .null, .int 0, .int 0, .int 0, .int 0, .int 0] : List Value).length = 120 := rfl
  refine lv_aload_n hx hb dX12_init_203 rfl (lv_at hl 0 rfl) ?_
  refine lv_sipush (v := 9216) hx hb dX12_init_204 (by decide) ?_
  refine r_mk (t0 := 0) (N' := 9216) (a0 := (9216, .inl (fun _ => 0))) hF hin dX12_init_207 dX12_init_209 fl_X12_86 (wb 12 rfl) rfl rfl id rfl rfl (fun _ => rfl) (fun _ => rfl) hlen hP hD hS hA (fun _ => rfl) (by decide) (by decide) (by decide) (by decide) (by decide) (fun q24 H locs hlen hP hD hS => ?_)
  refine lv_aload_n hx hb dX12_init_212 rfl (lv_at hl 0 rfl) ?_
  refine lv_bipush (v := 6) hx hb dX12_init_213 (by decide) ?_
  refine r_mk (t0 := 3) (N' := 6) (a0 := (6, .inl (fun _ => 0))) hF hin dX12_init_215 dX12_init_217 fl_X12_89 (wb 505 rfl) rfl rfl id rfl rfl (fun _ => rfl) (fun _ => rfl) hlen hP hD hS hA (fun _ => rfl) (by decide) (by decide) (by decide) (by decide) (by decide) (fun q25 H locs hlen hP hD hS => ?_)
  refine lv_aload_n hx hb dX12_init_220 rfl (lv_at hl 0 rfl) ?_
  refine lv_bipush (v := 6) hx hb dX12_init_221 (by decide) ?_
  refine r_mk (t0 := 3) (N' := 6) (a0 := (6, .inl (fun _ => 0))) hF hin dX12_init_223 dX12_init_225 fl_X12_92 (wb 505 rfl) rfl rfl id rfl rfl (fun _ => rfl) (fun _ => rfl) hlen hP hD hS hA (fun _ => rfl) (by decide) (by decide) (by decide) (by decide) (by decide) (fun q26 H locs hlen hP hD hS => ?_)
  refine lv_aload_n hx hb dX12_init_228 rfl (lv_at hl 0 rfl) ?_
  refine lv_ldc (v := 96000) hx hb hF.1.2.2.2.1 (hF.1.2.2.2.2 _ (wb 306 rfl)) dX12_init_229 ?_
  refine r_mk (t0 := 0) (N' := 96000) (a0 := (96000, .inl (fun _ => 0))) hF hin dX12_init_231 dX12_init_233 fl_X12_96 (wb 12 rfl) rfl rfl id rfl rfl (fun _ => rfl) (fun _ => rfl) hlen hP hD hS hA (fun _ => rfl) (by decide) (by decide) (by decide) (by decide) (by decide) (fun q27 H locs hlen hP hD hS => ?_)
  replace hP : va_P D cl1 [(h0, .inr (0, [.ref q0, .int 0, .long 0, .ref q1, .ref q2, .ref q3, .ref q4, .ref q5, .ref q6, .ref q7, .ref q8, .ref q9, .ref q10, .ref q11, .ref q12, .ref q13, .int 0, .ref q14, .ref q15, .ref q16, .ref q17, .ref q18, .ref q19, .ref q20, .ref q21, .ref q22, .ref q23, .ref q24, .ref q25, .ref q26, .ref q27, .null, .null, .null, .null, .null, .null, .null, .null, .null, .null, .null, .null, .null, .null, .null, .null, .null, .null, .null, .null, .null, .null, .null, .null, .null, .null, .null, .null, .long 0, .long 0, .long 0, .long 0, .int 0, .null, .null, .null, .null, .null, .int 0, .null, .null, .null, .null, .null, .null, .null, .null, .null, .null, .null, .null, .null, .null, .null, .null, .int 0, .int 0, .int 0, .null, .int 0, .int 0, .int 0, .int 0, .int 0, .int 0, .long 0, .long 0, .int 0, .int 0, .int 0, .long 0, .long 0, .int 0, .long 0, .long 0, .long 0, .long 0, .int 0, .int 0, .int 0, .long 0, .null, .null, .null, .int 0, .int 0, .int 0, .int 0, .int 0])), (q0, .inl (t 0, 8000, .inl (fun _ => 0))), (q1, .inl (t 3, 160, .inl (fun _ => 0))), (q2, .inl (t 1, 160, .inl (fun _ => 0))), (q3, .inl (t 3, 160, .inl (fun _ => 0))), (q4, .inl (t 0, 1920, .inl (fun _ => 0))), (q5, .inl (t 1, 160, .inl (fun _ => 0))), (q6, .inl (t 1, 160, .inl (fun _ => 0))), (q7, .inl (t 2, 640, .inr (.inl (fun _ => 0)))), (q8, .inl (t 1, 160, .inl (fun _ => 0))), (q9, .inl (t 0, 655360, .inl (fun _ => 0))), (q10, .inl (t 3, 80, .inl (fun _ => 0))), (q11, .inl (t 1, 4, .inl (fun _ => 0))), (q12, .inl (t 0, 48, .inl (fun _ => 0))), (q13, .inl (t 1, 4, .inl (fun _ => 0))), (q14, .inl (t 1, 9, .inl (fun _ => 0))), (q15, .inl (t 1, 9, .inl (fun _ => 0))), (q16, .inl (t 1, 9, .inl (fun _ => 0))), (q17, .inl (t 3, 9, .inl (fun _ => 0))), (q18, .inl (t 0, 108, .inl (fun _ => 0))), (q19, .inl (t 1, 9, .inl (fun _ => 0))), (q20, .inl (t 1, 9, .inl (fun _ => 0))), (q21, .inl (t 2, 36, .inr (.inl (fun _ => 0)))), (q22, .inl (t 1, 9, .inl (fun _ => 0))), (q23, .inl (t 1, 9, .inl (fun _ => 0))), (q24, .inl (t 0, 9216, .inl (fun _ => 0))), (q25, .inl (t 3, 6, .inl (fun _ => 0))), (q26, .inl (t 3, 6, .inl (fun _ => 0))), (q27, .inl (t 0, 96000, .inl (fun _ => 0)))] H := hP
  replace hD : va_D A [(h0, .inr (0, [.ref q0, .int 0, .long 0, .ref q1, .ref q2, .ref q3, .ref q4, .ref q5, .ref q6, .ref q7, .ref q8, .ref q9, .ref q10, .ref q11, .ref q12, .ref q13, .int 0, .ref q14, .ref q15, .ref q16, .ref q17, .ref q18, .ref q19, .ref q20, .ref q21, .ref q22, .ref q23, .ref q24, .ref q25, .ref q26, .ref q27, .null, .null, .null, .null, .null, .null, .null, .null, .null, .null, .null, .null, .null, .null, .null, .null, .null, .null, .null, .null, .null, .null, .null, .null, .null, .null, .null, .null, .long 0, .long 0, .long 0, .long 0, .int 0, .null, .null, .null, .null, .null, .int 0, .null, .null, .null, .null, .null, .null, .null, .null, .null, .null, .null, .null, .null, .null, .null, .null, .int 0, .int 0, .int 0, .null, .int 0, .int 0, .int 0, .int 0, .int 0, .int 0, .long 0, .long 0, .int 0, .int 0, .int 0, .long 0, .long 0, .int 0, .long 0, .long 0, .long 0, .long 0, .int 0, .int 0, .int 0, .long 0, .null, .null, .null, .int 0, .int 0, .int 0, .int 0, .int 0])), (q0, .inl (t 0, 8000, .inl (fun _ => 0))), (q1, .inl (t 3, 160, .inl (fun _ => 0))), (q2, .inl (t 1, 160, .inl (fun _ => 0))), (q3, .inl (t 3, 160, .inl (fun _ => 0))), (q4, .inl (t 0, 1920, .inl (fun _ => 0))), (q5, .inl (t 1, 160, .inl (fun _ => 0))), (q6, .inl (t 1, 160, .inl (fun _ => 0))), (q7, .inl (t 2, 640, .inr (.inl (fun _ => 0)))), (q8, .inl (t 1, 160, .inl (fun _ => 0))), (q9, .inl (t 0, 655360, .inl (fun _ => 0))), (q10, .inl (t 3, 80, .inl (fun _ => 0))), (q11, .inl (t 1, 4, .inl (fun _ => 0))), (q12, .inl (t 0, 48, .inl (fun _ => 0))), (q13, .inl (t 1, 4, .inl (fun _ => 0))), (q14, .inl (t 1, 9, .inl (fun _ => 0))), (q15, .inl (t 1, 9, .inl (fun _ => 0))), (q16, .inl (t 1, 9, .inl (fun _ => 0))), (q17, .inl (t 3, 9, .inl (fun _ => 0))), (q18, .inl (t 0, 108, .inl (fun _ => 0))), (q19, .inl (t 1, 9, .inl (fun _ => 0))), (q20, .inl (t 1, 9, .inl (fun _ => 0))), (q21, .inl (t 2, 36, .inr (.inl (fun _ => 0)))), (q22, .inl (t 1, 9, .inl (fun _ => 0))), (q23, .inl (t 1, 9, .inl (fun _ => 0))), (q24, .inl (t 0, 9216, .inl (fun _ => 0))), (q25, .inl (t 3, 6, .inl (fun _ => 0))), (q26, .inl (t 3, 6, .inl (fun _ => 0))), (q27, .inl (t 0, 96000, .inl (fun _ => 0)))] := hD
  replace hlen : ([.ref q0, .int 0, .long 0, .ref q1, .ref q2, .ref q3, .ref q4, .ref q5, .ref q6, .ref q7, .ref q8, .ref q9, .ref q10, .ref q11, .ref q12, .ref q13, .int 0, .ref q14, .ref q15, .ref q16, .ref q17, .ref q18, .ref q19, .ref q20, .ref q21, .ref q22, .ref q23, .ref q24, .ref q25, .ref q26, .ref q27, .null, .null, .null, .null, .null, .null, .null, .null, .null, .null, .null, .null, .null, .null, .null, .null, .null, .null, .null, .null, .null, .null, .null, .null, .null, .null, .null, .null, .long 0, .long 0, .long 0, .long 0, .int 0, .null, .null, .null, .null, .null, .int 0, .null, .null, .null, .null, .null, .null, .null, .null, .null, .null, .null, .null, .null, .null, .null, .null, .int 0, .int 0, .int 0, .null, .int 0, .int 0, .int 0, .int 0, .int 0, .int 0, .long 0, .long 0, .int 0, .int 0, .int 0, .long 0, .long 0, .int 0, .long 0, .long 0, .long 0, .long 0, .int 0, .int 0, .int 0, .long 0, .null, .null, .null, .int 0, .int 0, .int 0, .int 0, .int 0] : List Value).length = 120 := rfl
  refine lv_aload_n hx hb dX12_init_236 rfl (lv_at hl 0 rfl) ?_
  refine lv_bipush (v := 6) hx hb dX12_init_237 (by decide) ?_
  refine r_mk (t0 := 1) (N' := 6) (a0 := (6, .inl (fun _ => 0))) hF hin dX12_init_239 dX12_init_241 fl_X12_99 (wb 39 rfl) rfl rfl id rfl rfl (fun _ => rfl) (fun _ => rfl) hlen hP hD hS hA (fun _ => rfl) (by decide) (by decide) (by decide) (by decide) (by decide) (fun q28 H locs hlen hP hD hS => ?_)
  refine lv_aload_n hx hb dX12_init_244 rfl (lv_at hl 0 rfl) ?_
  refine lv_ldc (v := 72600) hx hb hF.1.2.2.2.1 (hF.1.2.2.2.2 _ (wb 309 rfl)) dX12_init_245 ?_
  refine r_mk (t0 := 0) (N' := 72600) (a0 := (72600, .inl (fun _ => 0))) hF hin dX12_init_247 dX12_init_249 fl_X12_103 (wb 12 rfl) rfl rfl id rfl rfl (fun _ => rfl) (fun _ => rfl) hlen hP hD hS hA (fun _ => rfl) (by decide) (by decide) (by decide) (by decide) (by decide) (fun q29 H locs hlen hP hD hS => ?_)
  refine lv_aload_n hx hb dX12_init_252 rfl (lv_at hl 0 rfl) ?_
  refine lv_bipush (v := 6) hx hb dX12_init_253 (by decide) ?_
  refine r_mk (t0 := 1) (N' := 6) (a0 := (6, .inl (fun _ => 0))) hF hin dX12_init_255 dX12_init_257 fl_X12_106 (wb 39 rfl) rfl rfl id rfl rfl (fun _ => rfl) (fun _ => rfl) hlen hP hD hS hA (fun _ => rfl) (by decide) (by decide) (by decide) (by decide) (by decide) (fun q30 H locs hlen hP hD hS => ?_)
  refine lv_aload_n hx hb dX12_init_260 rfl (lv_at hl 0 rfl) ?_
  refine lv_bipush (v := 96) hx hb dX12_init_261 (by decide) ?_
  refine r_mk (t0 := 2) (N' := 96) (a0 := (96, .inr (.inl (fun _ => 0)))) hF hin dX12_init_263 dX12_init_265 fl_X12_109 (wb 138 rfl) rfl rfl id rfl rfl (fun _ => rfl) (fun _ => rfl) hlen hP hD hS hA (fun _ => rfl) (by decide) (by decide) (by decide) (by decide) (by decide) (fun q31 H locs hlen hP hD hS => ?_)
  replace hP : va_P D cl1 [(h0, .inr (0, [.ref q0, .int 0, .long 0, .ref q1, .ref q2, .ref q3, .ref q4, .ref q5, .ref q6, .ref q7, .ref q8, .ref q9, .ref q10, .ref q11, .ref q12, .ref q13, .int 0, .ref q14, .ref q15, .ref q16, .ref q17, .ref q18, .ref q19, .ref q20, .ref q21, .ref q22, .ref q23, .ref q24, .ref q25, .ref q26, .ref q27, .ref q28, .ref q29, .ref q30, .ref q31, .null, .null, .null, .null, .null, .null, .null, .null, .null, .null, .null, .null, .null, .null, .null, .null, .null, .null, .null, .null, .null, .null, .null, .null, .long 0, .long 0, .long 0, .long 0, .int 0, .null, .null, .null, .null, .null, .int 0, .null, .null, .null, .null, .null, .null, .null, .null, .null, .null, .null, .null, .null, .null, .null, .null, .int 0, .int 0, .int 0, .null, .int 0, .int 0, .int 0, .int 0, .int 0, .int 0, .long 0, .long 0, .int 0, .int 0, .int 0, .long 0, .long 0, .int 0, .long 0, .long 0, .long 0, .long 0, .int 0, .int 0, .int 0, .long 0, .null, .null, .null, .int 0, .int 0, .int 0, .int 0, .int 0])), (q0, .inl (t 0, 8000, .inl (fun _ => 0))), (q1, .inl (t 3, 160, .inl (fun _ => 0))), (q2, .inl (t 1, 160, .inl (fun _ => 0))), (q3, .inl (t 3, 160, .inl (fun _ => 0))), (q4, .inl (t 0, 1920, .inl (fun _ => 0))), (q5, .inl (t 1, 160, .inl (fun _ => 0))), (q6, .inl (t 1, 160, .inl (fun _ => 0))), (q7, .inl (t 2, 640, .inr (.inl (fun _ => 0)))), (q8, .inl (t 1, 160, .inl (fun _ => 0))), (q9, .inl (t 0, 655360, .inl (fun _ => 0))), (q10, .inl (t 3, 80, .inl (fun _ => 0))), (q11, .inl (t 1, 4, .inl (fun _ => 0))), (q12, .inl (t 0, 48, .inl (fun _ => 0))), (q13, .inl (t 1, 4, .inl (fun _ => 0))), (q14, .inl (t 1, 9, .inl (fun _ => 0))), (q15, .inl (t 1, 9, .inl (fun _ => 0))), (q16, .inl (t 1, 9, .inl (fun _ => 0))), (q17, .inl (t 3, 9, .inl (fun _ => 0))), (q18, .inl (t 0, 108, .inl (fun _ => 0))), (q19, .inl (t 1, 9, .inl (fun _ => 0))), (q20, .inl (t 1, 9, .inl (fun _ => 0))), (q21, .inl (t 2, 36, .inr (.inl (fun _ => 0)))), (q22, .inl (t 1, 9, .inl (fun _ => 0))), (q23, .inl (t 1, 9, .inl (fun _ => 0))), (q24, .inl (t 0, 9216, .inl (fun _ => 0))), (q25, .inl (t 3, 6, .inl (fun _ => 0))), (q26, .inl (t 3, 6, .inl (fun _ => 0))), (q27, .inl (t 0, 96000, .inl (fun _ => 0))), (q28, .inl (t 1, 6, .inl (fun _ => 0))), (q29, .inl (t 0, 72600, .inl (fun _ => 0))), (q30, .inl (t 1, 6, .inl (fun _ => 0))), (q31, .inl (t 2, 96, .inr (.inl (fun _ => 0))))] H := hP
  replace hD : va_D A [(h0, .inr (0, [.ref q0, .int 0, .long 0, .ref q1, .ref q2, .ref q3, .ref q4, .ref q5, .ref q6, .ref q7, .ref q8, .ref q9, .ref q10, .ref q11, .ref q12, .ref q13, .int 0, .ref q14, .ref q15, .ref q16, .ref q17, .ref q18, .ref q19, .ref q20, .ref q21, .ref q22, .ref q23, .ref q24, .ref q25, .ref q26, .ref q27, .ref q28, .ref q29, .ref q30, .ref q31, .null, .null, .null, .null, .null, .null, .null, .null, .null, .null, .null, .null, .null, .null, .null, .null, .null, .null, .null, .null, .null, .null, .null, .null, .long 0, .long 0, .long 0, .long 0, .int 0, .null, .null, .null, .null, .null, .int 0, .null, .null, .null, .null, .null, .null, .null, .null, .null, .null, .null, .null, .null, .null, .null, .null, .int 0, .int 0, .int 0, .null, .int 0, .int 0, .int 0, .int 0, .int 0, .int 0, .long 0, .long 0, .int 0, .int 0, .int 0, .long 0, .long 0, .int 0, .long 0, .long 0, .long 0, .long 0, .int 0, .int 0, .int 0, .long 0, .null, .null, .null, .int 0, .int 0, .int 0, .int 0, .int 0])), (q0, .inl (t 0, 8000, .inl (fun _ => 0))), (q1, .inl (t 3, 160, .inl (fun _ => 0))), (q2, .inl (t 1, 160, .inl (fun _ => 0))), (q3, .inl (t 3, 160, .inl (fun _ => 0))), (q4, .inl (t 0, 1920, .inl (fun _ => 0))), (q5, .inl (t 1, 160, .inl (fun _ => 0))), (q6, .inl (t 1, 160, .inl (fun _ => 0))), (q7, .inl (t 2, 640, .inr (.inl (fun _ => 0)))), (q8, .inl (t 1, 160, .inl (fun _ => 0))), (q9, .inl (t 0, 655360, .inl (fun _ => 0))), (q10, .inl (t 3, 80, .inl (fun _ => 0))), (q11, .inl (t 1, 4, .inl (fun _ => 0))), (q12, .inl (t 0, 48, .inl (fun _ => 0))), (q13, .inl (t 1, 4, .inl (fun _ => 0))), (q14, .inl (t 1, 9, .inl (fun _ => 0))), (q15, .inl (t 1, 9, .inl (fun _ => 0))), (q16, .inl (t 1, 9, .inl (fun _ => 0))), (q17, .inl (t 3, 9, .inl (fun _ => 0))), (q18, .inl (t 0, 108, .inl (fun _ => 0))), (q19, .inl (t 1, 9, .inl (fun _ => 0))), (q20, .inl (t 1, 9, .inl (fun _ => 0))), (q21, .inl (t 2, 36, .inr (.inl (fun _ => 0)))), (q22, .inl (t 1, 9, .inl (fun _ => 0))), (q23, .inl (t 1, 9, .inl (fun _ => 0))), (q24, .inl (t 0, 9216, .inl (fun _ => 0))), (q25, .inl (t 3, 6, .inl (fun _ => 0))), (q26, .inl (t 3, 6, .inl (fun _ => 0))), (q27, .inl (t 0, 96000, .inl (fun _ => 0))), (q28, .inl (t 1, 6, .inl (fun _ => 0))), (q29, .inl (t 0, 72600, .inl (fun _ => 0))), (q30, .inl (t 1, 6, .inl (fun _ => 0))), (q31, .inl (t 2, 96, .inr (.inl (fun _ => 0))))] := hD
  replace hlen : ([.ref q0, .int 0, .long 0, .ref q1, .ref q2, .ref q3, .ref q4, .ref q5, .ref q6, .ref q7, .ref q8, .ref q9, .ref q10, .ref q11, .ref q12, .ref q13, .int 0, .ref q14, .ref q15, .ref q16, .ref q17, .ref q18, .ref q19, .ref q20, .ref q21, .ref q22, .ref q23, .ref q24, .ref q25, .ref q26, .ref q27, .ref q28, .ref q29, .ref q30, .ref q31, .null, .null, .null, .null, .null, .null, .null, .null, .null, .null, .null, .null, .null, .null, .null, .null, .null, .null, .null, .null, .null, .null, .null, .null, .long 0, .long 0, .long 0, .long 0, .int 0, .null, .null, .null, .null, .null, .int 0, .null, .null, .null, .null, .null, .null, .null, .null, .null, .null, .null, .null, .null, .null, .null, .null, .int 0, .int 0, .int 0, .null, .int 0, .int 0, .int 0, .int 0, .int 0, .int 0, .long 0, .long 0, .int 0, .int 0, .int 0, .long 0, .long 0, .int 0, .long 0, .long 0, .long 0, .long 0, .int 0, .int 0, .int 0, .long 0, .null, .null, .null, .int 0, .int 0, .int 0, .int 0, .int 0] : List Value).length = 120 := rfl
  refine lv_aload_n hx hb dX12_init_268 rfl (lv_at hl 0 rfl) ?_
  refine lv_bipush (v := 6) hx hb dX12_init_269 (by decide) ?_
  refine r_mk (t0 := 1) (N' := 6) (a0 := (6, .inl (fun _ => 0))) hF hin dX12_init_271 dX12_init_273 fl_X12_112 (wb 39 rfl) rfl rfl id rfl rfl (fun _ => rfl) (fun _ => rfl) hlen hP hD hS hA (fun _ => rfl) (by decide) (by decide) (by decide) (by decide) (by decide) (fun q32 H locs hlen hP hD hS => ?_)
  refine lv_aload_n hx hb dX12_init_276 rfl (lv_at hl 0 rfl) ?_
  refine lv_bipush (v := 6) hx hb dX12_init_277 (by decide) ?_
  refine r_mk (t0 := 2) (N' := 6) (a0 := (6, .inr (.inl (fun _ => 0)))) hF hin dX12_init_279 dX12_init_281 fl_X12_115 (wb 138 rfl) rfl rfl id rfl rfl (fun _ => rfl) (fun _ => rfl) hlen hP hD hS hA (fun _ => rfl) (by decide) (by decide) (by decide) (by decide) (by decide) (fun q33 H locs hlen hP hD hS => ?_)
  refine lv_aload_n hx hb dX12_init_284 rfl (lv_at hl 0 rfl) ?_
  refine lv_bipush (v := 8) hx hb dX12_init_285 (by decide) ?_
  refine r_mk (t0 := 2) (N' := 8) (a0 := (8, .inr (.inl (fun _ => 0)))) hF hin dX12_init_287 dX12_init_289 fl_X12_118 (wb 138 rfl) rfl rfl id rfl rfl (fun _ => rfl) (fun _ => rfl) hlen hP hD hS hA (fun _ => rfl) (by decide) (by decide) (by decide) (by decide) (by decide) (fun q34 H locs hlen hP hD hS => ?_)
  refine lv_aload_n hx hb dX12_init_292 rfl (lv_at hl 0 rfl) ?_
  refine lv_bipush (v := 8) hx hb dX12_init_293 (by decide) ?_
  refine r_mk (t0 := 1) (N' := 8) (a0 := (8, .inl (fun _ => 0))) hF hin dX12_init_295 dX12_init_297 fl_X12_121 (wb 39 rfl) rfl rfl id rfl rfl (fun _ => rfl) (fun _ => rfl) hlen hP hD hS hA (fun _ => rfl) (by decide) (by decide) (by decide) (by decide) (by decide) (fun q35 H locs hlen hP hD hS => ?_)
  replace hP : va_P D cl1 [(h0, .inr (0, [.ref q0, .int 0, .long 0, .ref q1, .ref q2, .ref q3, .ref q4, .ref q5, .ref q6, .ref q7, .ref q8, .ref q9, .ref q10, .ref q11, .ref q12, .ref q13, .int 0, .ref q14, .ref q15, .ref q16, .ref q17, .ref q18, .ref q19, .ref q20, .ref q21, .ref q22, .ref q23, .ref q24, .ref q25, .ref q26, .ref q27, .ref q28, .ref q29, .ref q30, .ref q31, .ref q32, .ref q33, .ref q34, .ref q35, .null, .null, .null, .null, .null, .null, .null, .null, .null, .null, .null, .null, .null, .null, .null, .null, .null, .null, .null, .null, .long 0, .long 0, .long 0, .long 0, .int 0, .null, .null, .null, .null, .null, .int 0, .null, .null, .null, .null, .null, .null, .null, .null, .null, .null, .null, .null, .null, .null, .null, .null, .int 0, .int 0, .int 0, .null, .int 0, .int 0, .int 0, .int 0, .int 0, .int 0, .long 0, .long 0, .int 0, .int 0, .int 0, .long 0, .long 0, .int 0, .long 0, .long 0, .long 0, .long 0, .int 0, .int 0, .int 0, .long 0, .null, .null, .null, .int 0, .int 0, .int 0, .int 0, .int 0])), (q0, .inl (t 0, 8000, .inl (fun _ => 0))), (q1, .inl (t 3, 160, .inl (fun _ => 0))), (q2, .inl (t 1, 160, .inl (fun _ => 0))), (q3, .inl (t 3, 160, .inl (fun _ => 0))), (q4, .inl (t 0, 1920, .inl (fun _ => 0))), (q5, .inl (t 1, 160, .inl (fun _ => 0))), (q6, .inl (t 1, 160, .inl (fun _ => 0))), (q7, .inl (t 2, 640, .inr (.inl (fun _ => 0)))), (q8, .inl (t 1, 160, .inl (fun _ => 0))), (q9, .inl (t 0, 655360, .inl (fun _ => 0))), (q10, .inl (t 3, 80, .inl (fun _ => 0))), (q11, .inl (t 1, 4, .inl (fun _ => 0))), (q12, .inl (t 0, 48, .inl (fun _ => 0))), (q13, .inl (t 1, 4, .inl (fun _ => 0))), (q14, .inl (t 1, 9, .inl (fun _ => 0))), (q15, .inl (t 1, 9, .inl (fun _ => 0))), (q16, .inl (t 1, 9, .inl (fun _ => 0))), (q17, .inl (t 3, 9, .inl (fun _ => 0))), (q18, .inl (t 0, 108, .inl (fun _ => 0))), (q19, .inl (t 1, 9, .inl (fun _ => 0))), (q20, .inl (t 1, 9, .inl (fun _ => 0))), (q21, .inl (t 2, 36, .inr (.inl (fun _ => 0)))), (q22, .inl (t 1, 9, .inl (fun _ => 0))), (q23, .inl (t 1, 9, .inl (fun _ => 0))), (q24, .inl (t 0, 9216, .inl (fun _ => 0))), (q25, .inl (t 3, 6, .inl (fun _ => 0))), (q26, .inl (t 3, 6, .inl (fun _ => 0))), (q27, .inl (t 0, 96000, .inl (fun _ => 0))), (q28, .inl (t 1, 6, .inl (fun _ => 0))), (q29, .inl (t 0, 72600, .inl (fun _ => 0))), (q30, .inl (t 1, 6, .inl (fun _ => 0))), (q31, .inl (t 2, 96, .inr (.inl (fun _ => 0)))), (q32, .inl (t 1, 6, .inl (fun _ => 0))), (q33, .inl (t 2, 6, .inr (.inl (fun _ => 0)))), (q34, .inl (t 2, 8, .inr (.inl (fun _ => 0)))), (q35, .inl (t 1, 8, .inl (fun _ => 0)))] H := hP
  replace hD : va_D A [(h0, .inr (0, [.ref q0, .int 0, .long 0, .ref q1, .ref q2, .ref q3, .ref q4, .ref q5, .ref q6, .ref q7, .ref q8, .ref q9, .ref q10, .ref q11, .ref q12, .ref q13, .int 0, .ref q14, .ref q15, .ref q16, .ref q17, .ref q18, .ref q19, .ref q20, .ref q21, .ref q22, .ref q23, .ref q24, .ref q25, .ref q26, .ref q27, .ref q28, .ref q29, .ref q30, .ref q31, .ref q32, .ref q33, .ref q34, .ref q35, .null, .null, .null, .null, .null, .null, .null, .null, .null, .null, .null, .null, .null, .null, .null, .null, .null, .null, .null, .null, .long 0, .long 0, .long 0, .long 0, .int 0, .null, .null, .null, .null, .null, .int 0, .null, .null, .null, .null, .null, .null, .null, .null, .null, .null, .null, .null, .null, .null, .null, .null, .int 0, .int 0, .int 0, .null, .int 0, .int 0, .int 0, .int 0, .int 0, .int 0, .long 0, .long 0, .int 0, .int 0, .int 0, .long 0, .long 0, .int 0, .long 0, .long 0, .long 0, .long 0, .int 0, .int 0, .int 0, .long 0, .null, .null, .null, .int 0, .int 0, .int 0, .int 0, .int 0])), (q0, .inl (t 0, 8000, .inl (fun _ => 0))), (q1, .inl (t 3, 160, .inl (fun _ => 0))), (q2, .inl (t 1, 160, .inl (fun _ => 0))), (q3, .inl (t 3, 160, .inl (fun _ => 0))), (q4, .inl (t 0, 1920, .inl (fun _ => 0))), (q5, .inl (t 1, 160, .inl (fun _ => 0))), (q6, .inl (t 1, 160, .inl (fun _ => 0))), (q7, .inl (t 2, 640, .inr (.inl (fun _ => 0)))), (q8, .inl (t 1, 160, .inl (fun _ => 0))), (q9, .inl (t 0, 655360, .inl (fun _ => 0))), (q10, .inl (t 3, 80, .inl (fun _ => 0))), (q11, .inl (t 1, 4, .inl (fun _ => 0))), (q12, .inl (t 0, 48, .inl (fun _ => 0))), (q13, .inl (t 1, 4, .inl (fun _ => 0))), (q14, .inl (t 1, 9, .inl (fun _ => 0))), (q15, .inl (t 1, 9, .inl (fun _ => 0))), (q16, .inl (t 1, 9, .inl (fun _ => 0))), (q17, .inl (t 3, 9, .inl (fun _ => 0))), (q18, .inl (t 0, 108, .inl (fun _ => 0))), (q19, .inl (t 1, 9, .inl (fun _ => 0))), (q20, .inl (t 1, 9, .inl (fun _ => 0))), (q21, .inl (t 2, 36, .inr (.inl (fun _ => 0)))), (q22, .inl (t 1, 9, .inl (fun _ => 0))), (q23, .inl (t 1, 9, .inl (fun _ => 0))), (q24, .inl (t 0, 9216, .inl (fun _ => 0))), (q25, .inl (t 3, 6, .inl (fun _ => 0))), (q26, .inl (t 3, 6, .inl (fun _ => 0))), (q27, .inl (t 0, 96000, .inl (fun _ => 0))), (q28, .inl (t 1, 6, .inl (fun _ => 0))), (q29, .inl (t 0, 72600, .inl (fun _ => 0))), (q30, .inl (t 1, 6, .inl (fun _ => 0))), (q31, .inl (t 2, 96, .inr (.inl (fun _ => 0)))), (q32, .inl (t 1, 6, .inl (fun _ => 0))), (q33, .inl (t 2, 6, .inr (.inl (fun _ => 0)))), (q34, .inl (t 2, 8, .inr (.inl (fun _ => 0)))), (q35, .inl (t 1, 8, .inl (fun _ => 0)))] := hD
  replace hlen : ([.ref q0, .int 0, .long 0, .ref q1, .ref q2, .ref q3, .ref q4, .ref q5, .ref q6, .ref q7, .ref q8, .ref q9, .ref q10, .ref q11, .ref q12, .ref q13, .int 0, .ref q14, .ref q15, .ref q16, .ref q17, .ref q18, .ref q19, .ref q20, .ref q21, .ref q22, .ref q23, .ref q24, .ref q25, .ref q26, .ref q27, .ref q28, .ref q29, .ref q30, .ref q31, .ref q32, .ref q33, .ref q34, .ref q35, .null, .null, .null, .null, .null, .null, .null, .null, .null, .null, .null, .null, .null, .null, .null, .null, .null, .null, .null, .null, .long 0, .long 0, .long 0, .long 0, .int 0, .null, .null, .null, .null, .null, .int 0, .null, .null, .null, .null, .null, .null, .null, .null, .null, .null, .null, .null, .null, .null, .null, .null, .int 0, .int 0, .int 0, .null, .int 0, .int 0, .int 0, .int 0, .int 0, .int 0, .long 0, .long 0, .int 0, .int 0, .int 0, .long 0, .long 0, .int 0, .long 0, .long 0, .long 0, .long 0, .int 0, .int 0, .int 0, .long 0, .null, .null, .null, .int 0, .int 0, .int 0, .int 0, .int 0] : List Value).length = 120 := rfl
  refine lv_aload_n hx hb dX12_init_300 rfl (lv_at hl 0 rfl) ?_
  refine lv_sipush (v := 128) hx hb dX12_init_301 (by decide) ?_
  refine r_mk (t0 := 0) (N' := 128) (a0 := (128, .inl (fun _ => 0))) hF hin dX12_init_304 dX12_init_306 fl_X12_124 (wb 12 rfl) rfl rfl id rfl rfl (fun _ => rfl) (fun _ => rfl) hlen hP hD hS hA (fun _ => rfl) (by decide) (by decide) (by decide) (by decide) (by decide) (fun q36 H locs hlen hP hD hS => ?_)
  refine lv_aload_n hx hb dX12_init_309 rfl (lv_at hl 0 rfl) ?_
  refine lv_bipush (v := 8) hx hb dX12_init_310 (by decide) ?_
  refine r_mk (t0 := 1) (N' := 8) (a0 := (8, .inl (fun _ => 0))) hF hin dX12_init_312 dX12_init_314 fl_X12_127 (wb 39 rfl) rfl rfl id rfl rfl (fun _ => rfl) (fun _ => rfl) hlen hP hD hS hA (fun _ => rfl) (by decide) (by decide) (by decide) (by decide) (by decide) (fun q37 H locs hlen hP hD hS => ?_)
  refine lv_aload_n hx hb dX12_init_317 rfl (lv_at hl 0 rfl) ?_
  refine lv_bipush (v := 16) hx hb dX12_init_318 (by decide) ?_
  refine r_mk (t0 := 2) (N' := 16) (a0 := (16, .inr (.inl (fun _ => 0)))) hF hin dX12_init_320 dX12_init_322 fl_X12_130 (wb 138 rfl) rfl rfl id rfl rfl (fun _ => rfl) (fun _ => rfl) hlen hP hD hS hA (fun _ => rfl) (by decide) (by decide) (by decide) (by decide) (by decide) (fun q38 H locs hlen hP hD hS => ?_)
  refine lv_aload_n hx hb dX12_init_325 rfl (lv_at hl 0 rfl) ?_
  refine lv_bipush (v := 16) hx hb dX12_init_326 (by decide) ?_
  refine r_mk (t0 := 1) (N' := 16) (a0 := (16, .inl (fun _ => 0))) hF hin dX12_init_328 dX12_init_330 fl_X12_133 (wb 39 rfl) rfl rfl id rfl rfl (fun _ => rfl) (fun _ => rfl) hlen hP hD hS hA (fun _ => rfl) (by decide) (by decide) (by decide) (by decide) (by decide) (fun q39 H locs hlen hP hD hS => ?_)
  replace hP : va_P D cl1 [(h0, .inr (0, [.ref q0, .int 0, .long 0, .ref q1, .ref q2, .ref q3, .ref q4, .ref q5, .ref q6, .ref q7, .ref q8, .ref q9, .ref q10, .ref q11, .ref q12, .ref q13, .int 0, .ref q14, .ref q15, .ref q16, .ref q17, .ref q18, .ref q19, .ref q20, .ref q21, .ref q22, .ref q23, .ref q24, .ref q25, .ref q26, .ref q27, .ref q28, .ref q29, .ref q30, .ref q31, .ref q32, .ref q33, .ref q34, .ref q35, .ref q36, .ref q37, .ref q38, .ref q39, .null, .null, .null, .null, .null, .null, .null, .null, .null, .null, .null, .null, .null, .null, .null, .null, .long 0, .long 0, .long 0, .long 0, .int 0, .null, .null, .null, .null, .null, .int 0, .null, .null, .null, .null, .null, .null, .null, .null, .null, .null, .null, .null, .null, .null, .null, .null, .int 0, .int 0, .int 0, .null, .int 0, .int 0, .int 0, .int 0, .int 0, .int 0, .long 0, .long 0, .int 0, .int 0, .int 0, .long 0, .long 0, .int 0, .long 0, .long 0, .long 0, .long 0, .int 0, .int 0, .int 0, .long 0, .null, .null, .null, .int 0, .int 0, .int 0, .int 0, .int 0])), (q0, .inl (t 0, 8000, .inl (fun _ => 0))), (q1, .inl (t 3, 160, .inl (fun _ => 0))), (q2, .inl (t 1, 160, .inl (fun _ => 0))), (q3, .inl (t 3, 160, .inl (fun _ => 0))), (q4, .inl (t 0, 1920, .inl (fun _ => 0))), (q5, .inl (t 1, 160, .inl (fun _ => 0))), (q6, .inl (t 1, 160, .inl (fun _ => 0))), (q7, .inl (t 2, 640, .inr (.inl (fun _ => 0)))), (q8, .inl (t 1, 160, .inl (fun _ => 0))), (q9, .inl (t 0, 655360, .inl (fun _ => 0))), (q10, .inl (t 3, 80, .inl (fun _ => 0))), (q11, .inl (t 1, 4, .inl (fun _ => 0))), (q12, .inl (t 0, 48, .inl (fun _ => 0))), (q13, .inl (t 1, 4, .inl (fun _ => 0))), (q14, .inl (t 1, 9, .inl (fun _ => 0))), (q15, .inl (t 1, 9, .inl (fun _ => 0))), (q16, .inl (t 1, 9, .inl (fun _ => 0))), (q17, .inl (t 3, 9, .inl (fun _ => 0))), (q18, .inl (t 0, 108, .inl (fun _ => 0))), (q19, .inl (t 1, 9, .inl (fun _ => 0))), (q20, .inl (t 1, 9, .inl (fun _ => 0))), (q21, .inl (t 2, 36, .inr (.inl (fun _ => 0)))), (q22, .inl (t 1, 9, .inl (fun _ => 0))), (q23, .inl (t 1, 9, .inl (fun _ => 0))), (q24, .inl (t 0, 9216, .inl (fun _ => 0))), (q25, .inl (t 3, 6, .inl (fun _ => 0))), (q26, .inl (t 3, 6, .inl (fun _ => 0))), (q27, .inl (t 0, 96000, .inl (fun _ => 0))), (q28, .inl (t 1, 6, .inl (fun _ => 0))), (q29, .inl (t 0, 72600, .inl (fun _ => 0))), (q30, .inl (t 1, 6, .inl (fun _ => 0))), (q31, .inl (t 2, 96, .inr (.inl (fun _ => 0)))), (q32, .inl (t 1, 6, .inl (fun _ => 0))), (q33, .inl (t 2, 6, .inr (.inl (fun _ => 0)))), (q34, .inl (t 2, 8, .inr (.inl (fun _ => 0)))), (q35, .inl (t 1, 8, .inl (fun _ => 0))), (q36, .inl (t 0, 128, .inl (fun _ => 0))), (q37, .inl (t 1, 8, .inl (fun _ => 0))), (q38, .inl (t 2, 16, .inr (.inl (fun _ => 0)))), (q39, .inl (t 1, 16, .inl (fun _ => 0)))] H := hP
  replace hD : va_D A [(h0, .inr (0, [.ref q0, .int 0, .long 0, .ref q1, .ref q2, .ref q3, .ref q4, .ref q5, .ref q6, .ref q7, .ref q8, .ref q9, .ref q10, .ref q11, .ref q12, .ref q13, .int 0, .ref q14, .ref q15, .ref q16, .ref q17, .ref q18, .ref q19, .ref q20, .ref q21, .ref q22, .ref q23, .ref q24, .ref q25, .ref q26, .ref q27, .ref q28, .ref q29, .ref q30, .ref q31, .ref q32, .ref q33, .ref q34, .ref q35, .ref q36, .ref q37, .ref q38, .ref q39, .null, .null, .null, .null, .null, .null, .null, .null, .null, .null, .null, .null, .null, .null, .null, .null, .long 0, .long 0, .long 0, .long 0, .int 0, .null, .null, .null, .null, .null, .int 0, .null, .null, .null, .null, .null, .null, .null, .null, .null, .null, .null, .null, .null, .null, .null, .null, .int 0, .int 0, .int 0, .null, .int 0, .int 0, .int 0, .int 0, .int 0, .int 0, .long 0, .long 0, .int 0, .int 0, .int 0, .long 0, .long 0, .int 0, .long 0, .long 0, .long 0, .long 0, .int 0, .int 0, .int 0, .long 0, .null, .null, .null, .int 0, .int 0, .int 0, .int 0, .int 0])), (q0, .inl (t 0, 8000, .inl (fun _ => 0))), (q1, .inl (t 3, 160, .inl (fun _ => 0))), (q2, .inl (t 1, 160, .inl (fun _ => 0))), (q3, .inl (t 3, 160, .inl (fun _ => 0))), (q4, .inl (t 0, 1920, .inl (fun _ => 0))), (q5, .inl (t 1, 160, .inl (fun _ => 0))), (q6, .inl (t 1, 160, .inl (fun _ => 0))), (q7, .inl (t 2, 640, .inr (.inl (fun _ => 0)))), (q8, .inl (t 1, 160, .inl (fun _ => 0))), (q9, .inl (t 0, 655360, .inl (fun _ => 0))), (q10, .inl (t 3, 80, .inl (fun _ => 0))), (q11, .inl (t 1, 4, .inl (fun _ => 0))), (q12, .inl (t 0, 48, .inl (fun _ => 0))), (q13, .inl (t 1, 4, .inl (fun _ => 0))), (q14, .inl (t 1, 9, .inl (fun _ => 0))), (q15, .inl (t 1, 9, .inl (fun _ => 0))), (q16, .inl (t 1, 9, .inl (fun _ => 0))), (q17, .inl (t 3, 9, .inl (fun _ => 0))), (q18, .inl (t 0, 108, .inl (fun _ => 0))), (q19, .inl (t 1, 9, .inl (fun _ => 0))), (q20, .inl (t 1, 9, .inl (fun _ => 0))), (q21, .inl (t 2, 36, .inr (.inl (fun _ => 0)))), (q22, .inl (t 1, 9, .inl (fun _ => 0))), (q23, .inl (t 1, 9, .inl (fun _ => 0))), (q24, .inl (t 0, 9216, .inl (fun _ => 0))), (q25, .inl (t 3, 6, .inl (fun _ => 0))), (q26, .inl (t 3, 6, .inl (fun _ => 0))), (q27, .inl (t 0, 96000, .inl (fun _ => 0))), (q28, .inl (t 1, 6, .inl (fun _ => 0))), (q29, .inl (t 0, 72600, .inl (fun _ => 0))), (q30, .inl (t 1, 6, .inl (fun _ => 0))), (q31, .inl (t 2, 96, .inr (.inl (fun _ => 0)))), (q32, .inl (t 1, 6, .inl (fun _ => 0))), (q33, .inl (t 2, 6, .inr (.inl (fun _ => 0)))), (q34, .inl (t 2, 8, .inr (.inl (fun _ => 0)))), (q35, .inl (t 1, 8, .inl (fun _ => 0))), (q36, .inl (t 0, 128, .inl (fun _ => 0))), (q37, .inl (t 1, 8, .inl (fun _ => 0))), (q38, .inl (t 2, 16, .inr (.inl (fun _ => 0)))), (q39, .inl (t 1, 16, .inl (fun _ => 0)))] := hD
  replace hlen : ([.ref q0, .int 0, .long 0, .ref q1, .ref q2, .ref q3, .ref q4, .ref q5, .ref q6, .ref q7, .ref q8, .ref q9, .ref q10, .ref q11, .ref q12, .ref q13, .int 0, .ref q14, .ref q15, .ref q16, .ref q17, .ref q18, .ref q19, .ref q20, .ref q21, .ref q22, .ref q23, .ref q24, .ref q25, .ref q26, .ref q27, .ref q28, .ref q29, .ref q30, .ref q31, .ref q32, .ref q33, .ref q34, .ref q35, .ref q36, .ref q37, .ref q38, .ref q39, .null, .null, .null, .null, .null, .null, .null, .null, .null, .null, .null, .null, .null, .null, .null, .null, .long 0, .long 0, .long 0, .long 0, .int 0, .null, .null, .null, .null, .null, .int 0, .null, .null, .null, .null, .null, .null, .null, .null, .null, .null, .null, .null, .null, .null, .null, .null, .int 0, .int 0, .int 0, .null, .int 0, .int 0, .int 0, .int 0, .int 0, .int 0, .long 0, .long 0, .int 0, .int 0, .int 0, .long 0, .long 0, .int 0, .long 0, .long 0, .long 0, .long 0, .int 0, .int 0, .int 0, .long 0, .null, .null, .null, .int 0, .int 0, .int 0, .int 0, .int 0] : List Value).length = 120 := rfl
  refine lv_aload_n hx hb dX12_init_333 rfl (lv_at hl 0 rfl) ?_
  refine lv_bipush (v := 16) hx hb dX12_init_334 (by decide) ?_
  refine r_mk (t0 := 1) (N' := 16) (a0 := (16, .inl (fun _ => 0))) hF hin dX12_init_336 dX12_init_338 fl_X12_136 (wb 39 rfl) rfl rfl id rfl rfl (fun _ => rfl) (fun _ => rfl) hlen hP hD hS hA (fun _ => rfl) (by decide) (by decide) (by decide) (by decide) (by decide) (fun q40 H locs hlen hP hD hS => ?_)
  refine lv_aload_n hx hb dX12_init_341 rfl (lv_at hl 0 rfl) ?_
  refine lv_bipush (v := 40) hx hb dX12_init_342 (by decide) ?_
  refine r_mk (t0 := 2) (N' := 40) (a0 := (40, .inr (.inl (fun _ => 0)))) hF hin dX12_init_344 dX12_init_346 fl_X12_139 (wb 138 rfl) rfl rfl id rfl rfl (fun _ => rfl) (fun _ => rfl) hlen hP hD hS hA (fun _ => rfl) (by decide) (by decide) (by decide) (by decide) (by decide) (fun q41 H locs hlen hP hD hS => ?_)
  refine lv_aload_n hx hb dX12_init_349 rfl (lv_at hl 0 rfl) ?_
  refine lv_bipush (v := 40) hx hb dX12_init_350 (by decide) ?_
  refine r_mk (t0 := 1) (N' := 40) (a0 := (40, .inl (fun _ => 0))) hF hin dX12_init_352 dX12_init_354 fl_X12_142 (wb 39 rfl) rfl rfl id rfl rfl (fun _ => rfl) (fun _ => rfl) hlen hP hD hS hA (fun _ => rfl) (by decide) (by decide) (by decide) (by decide) (by decide) (fun q42 H locs hlen hP hD hS => ?_)
  refine lv_aload_n hx hb dX12_init_357 rfl (lv_at hl 0 rfl) ?_
  refine lv_bipush (v := 40) hx hb dX12_init_358 (by decide) ?_
  refine r_mk (t0 := 1) (N' := 40) (a0 := (40, .inl (fun _ => 0))) hF hin dX12_init_360 dX12_init_362 fl_X12_145 (wb 39 rfl) rfl rfl id rfl rfl (fun _ => rfl) (fun _ => rfl) hlen hP hD hS hA (fun _ => rfl) (by decide) (by decide) (by decide) (by decide) (by decide) (fun q43 H locs hlen hP hD hS => ?_)
  replace hP : va_P D cl1 [(h0, .inr (0, [.ref q0, .int 0, .long 0, .ref q1, .ref q2, .ref q3, .ref q4, .ref q5, .ref q6, .ref q7, .ref q8, .ref q9, .ref q10, .ref q11, .ref q12, .ref q13, .int 0, .ref q14, .ref q15, .ref q16, .ref q17, .ref q18, .ref q19, .ref q20, .ref q21, .ref q22, .ref q23, .ref q24, .ref q25, .ref q26, .ref q27, .ref q28, .ref q29, .ref q30, .ref q31, .ref q32, .ref q33, .ref q34, .ref q35, .ref q36, .ref q37, .ref q38, .ref q39, .ref q40, .ref q41, .ref q42, .ref q43, .null, .null, .null, .null, .null, .null, .null, .null, .null, .null, .null, .null, .long 0, .long 0, .long 0, .long 0, .int 0, .null, .null, .null, .null, .null, .int 0, .null, .null, .null, .null, .null, .null, .null, .null, .null, .null, .null, .null, .null, .null, .null, .null, .int 0, .int 0, .int 0, .null, .int 0, .int 0, .int 0, .int 0, .int 0, .int 0, .long 0, .long 0, .int 0, .int 0, .int 0, .long 0, .long 0, .int 0, .long 0, .long 0, .long 0, .long 0, .int 0, .int 0, .int 0, .long 0, .null, .null, .null, .int 0, .int 0, .int 0, .int 0, .int 0])), (q0, .inl (t 0, 8000, .inl (fun _ => 0))), (q1, .inl (t 3, 160, .inl (fun _ => 0))), (q2, .inl (t 1, 160, .inl (fun _ => 0))), (q3, .inl (t 3, 160, .inl (fun _ => 0))), (q4, .inl (t 0, 1920, .inl (fun _ => 0))), (q5, .inl (t 1, 160, .inl (fun _ => 0))), (q6, .inl (t 1, 160, .inl (fun _ => 0))), (q7, .inl (t 2, 640, .inr (.inl (fun _ => 0)))), (q8, .inl (t 1, 160, .inl (fun _ => 0))), (q9, .inl (t 0, 655360, .inl (fun _ => 0))), (q10, .inl (t 3, 80, .inl (fun _ => 0))), (q11, .inl (t 1, 4, .inl (fun _ => 0))), (q12, .inl (t 0, 48, .inl (fun _ => 0))), (q13, .inl (t 1, 4, .inl (fun _ => 0))), (q14, .inl (t 1, 9, .inl (fun _ => 0))), (q15, .inl (t 1, 9, .inl (fun _ => 0))), (q16, .inl (t 1, 9, .inl (fun _ => 0))), (q17, .inl (t 3, 9, .inl (fun _ => 0))), (q18, .inl (t 0, 108, .inl (fun _ => 0))), (q19, .inl (t 1, 9, .inl (fun _ => 0))), (q20, .inl (t 1, 9, .inl (fun _ => 0))), (q21, .inl (t 2, 36, .inr (.inl (fun _ => 0)))), (q22, .inl (t 1, 9, .inl (fun _ => 0))), (q23, .inl (t 1, 9, .inl (fun _ => 0))), (q24, .inl (t 0, 9216, .inl (fun _ => 0))), (q25, .inl (t 3, 6, .inl (fun _ => 0))), (q26, .inl (t 3, 6, .inl (fun _ => 0))), (q27, .inl (t 0, 96000, .inl (fun _ => 0))), (q28, .inl (t 1, 6, .inl (fun _ => 0))), (q29, .inl (t 0, 72600, .inl (fun _ => 0))), (q30, .inl (t 1, 6, .inl (fun _ => 0))), (q31, .inl (t 2, 96, .inr (.inl (fun _ => 0)))), (q32, .inl (t 1, 6, .inl (fun _ => 0))), (q33, .inl (t 2, 6, .inr (.inl (fun _ => 0)))), (q34, .inl (t 2, 8, .inr (.inl (fun _ => 0)))), (q35, .inl (t 1, 8, .inl (fun _ => 0))), (q36, .inl (t 0, 128, .inl (fun _ => 0))), (q37, .inl (t 1, 8, .inl (fun _ => 0))), (q38, .inl (t 2, 16, .inr (.inl (fun _ => 0)))), (q39, .inl (t 1, 16, .inl (fun _ => 0))), (q40, .inl (t 1, 16, .inl (fun _ => 0))), (q41, .inl (t 2, 40, .inr (.inl (fun _ => 0)))), (q42, .inl (t 1, 40, .inl (fun _ => 0))), (q43, .inl (t 1, 40, .inl (fun _ => 0)))] H := hP
  replace hD : va_D A [(h0, .inr (0, [.ref q0, .int 0, .long 0, .ref q1, .ref q2, .ref q3, .ref q4, .ref q5, .ref q6, .ref q7, .ref q8, .ref q9, .ref q10, .ref q11, .ref q12, .ref q13, .int 0, .ref q14, .ref q15, .ref q16, .ref q17, .ref q18, .ref q19, .ref q20, .ref q21, .ref q22, .ref q23, .ref q24, .ref q25, .ref q26, .ref q27, .ref q28, .ref q29, .ref q30, .ref q31, .ref q32, .ref q33, .ref q34, .ref q35, .ref q36, .ref q37, .ref q38, .ref q39, .ref q40, .ref q41, .ref q42, .ref q43, .null, .null, .null, .null, .null, .null, .null, .null, .null, .null, .null, .null, .long 0, .long 0, .long 0, .long 0, .int 0, .null, .null, .null, .null, .null, .int 0, .null, .null, .null, .null, .null, .null, .null, .null, .null, .null, .null, .null, .null, .null, .null, .null, .int 0, .int 0, .int 0, .null, .int 0, .int 0, .int 0, .int 0, .int 0, .int 0, .long 0, .long 0, .int 0, .int 0, .int 0, .long 0, .long 0, .int 0, .long 0, .long 0, .long 0, .long 0, .int 0, .int 0, .int 0, .long 0, .null, .null, .null, .int 0, .int 0, .int 0, .int 0, .int 0])), (q0, .inl (t 0, 8000, .inl (fun _ => 0))), (q1, .inl (t 3, 160, .inl (fun _ => 0))), (q2, .inl (t 1, 160, .inl (fun _ => 0))), (q3, .inl (t 3, 160, .inl (fun _ => 0))), (q4, .inl (t 0, 1920, .inl (fun _ => 0))), (q5, .inl (t 1, 160, .inl (fun _ => 0))), (q6, .inl (t 1, 160, .inl (fun _ => 0))), (q7, .inl (t 2, 640, .inr (.inl (fun _ => 0)))), (q8, .inl (t 1, 160, .inl (fun _ => 0))), (q9, .inl (t 0, 655360, .inl (fun _ => 0))), (q10, .inl (t 3, 80, .inl (fun _ => 0))), (q11, .inl (t 1, 4, .inl (fun _ => 0))), (q12, .inl (t 0, 48, .inl (fun _ => 0))), (q13, .inl (t 1, 4, .inl (fun _ => 0))), (q14, .inl (t 1, 9, .inl (fun _ => 0))), (q15, .inl (t 1, 9, .inl (fun _ => 0))), (q16, .inl (t 1, 9, .inl (fun _ => 0))), (q17, .inl (t 3, 9, .inl (fun _ => 0))), (q18, .inl (t 0, 108, .inl (fun _ => 0))), (q19, .inl (t 1, 9, .inl (fun _ => 0))), (q20, .inl (t 1, 9, .inl (fun _ => 0))), (q21, .inl (t 2, 36, .inr (.inl (fun _ => 0)))), (q22, .inl (t 1, 9, .inl (fun _ => 0))), (q23, .inl (t 1, 9, .inl (fun _ => 0))), (q24, .inl (t 0, 9216, .inl (fun _ => 0))), (q25, .inl (t 3, 6, .inl (fun _ => 0))), (q26, .inl (t 3, 6, .inl (fun _ => 0))), (q27, .inl (t 0, 96000, .inl (fun _ => 0))), (q28, .inl (t 1, 6, .inl (fun _ => 0))), (q29, .inl (t 0, 72600, .inl (fun _ => 0))), (q30, .inl (t 1, 6, .inl (fun _ => 0))), (q31, .inl (t 2, 96, .inr (.inl (fun _ => 0)))), (q32, .inl (t 1, 6, .inl (fun _ => 0))), (q33, .inl (t 2, 6, .inr (.inl (fun _ => 0)))), (q34, .inl (t 2, 8, .inr (.inl (fun _ => 0)))), (q35, .inl (t 1, 8, .inl (fun _ => 0))), (q36, .inl (t 0, 128, .inl (fun _ => 0))), (q37, .inl (t 1, 8, .inl (fun _ => 0))), (q38, .inl (t 2, 16, .inr (.inl (fun _ => 0)))), (q39, .inl (t 1, 16, .inl (fun _ => 0))), (q40, .inl (t 1, 16, .inl (fun _ => 0))), (q41, .inl (t 2, 40, .inr (.inl (fun _ => 0)))), (q42, .inl (t 1, 40, .inl (fun _ => 0))), (q43, .inl (t 1, 40, .inl (fun _ => 0)))] := hD
  replace hlen : ([.ref q0, .int 0, .long 0, .ref q1, .ref q2, .ref q3, .ref q4, .ref q5, .ref q6, .ref q7, .ref q8, .ref q9, .ref q10, .ref q11, .ref q12, .ref q13, .int 0, .ref q14, .ref q15, .ref q16, .ref q17, .ref q18, .ref q19, .ref q20, .ref q21, .ref q22, .ref q23, .ref q24, .ref q25, .ref q26, .ref q27, .ref q28, .ref q29, .ref q30, .ref q31, .ref q32, .ref q33, .ref q34, .ref q35, .ref q36, .ref q37, .ref q38, .ref q39, .ref q40, .ref q41, .ref q42, .ref q43, .null, .null, .null, .null, .null, .null, .null, .null, .null, .null, .null, .null, .long 0, .long 0, .long 0, .long 0, .int 0, .null, .null, .null, .null, .null, .int 0, .null, .null, .null, .null, .null, .null, .null, .null, .null, .null, .null, .null, .null, .null, .null, .null, .int 0, .int 0, .int 0, .null, .int 0, .int 0, .int 0, .int 0, .int 0, .int 0, .long 0, .long 0, .int 0, .int 0, .int 0, .long 0, .long 0, .int 0, .long 0, .long 0, .long 0, .long 0, .int 0, .int 0, .int 0, .long 0, .null, .null, .null, .int 0, .int 0, .int 0, .int 0, .int 0] : List Value).length = 120 := rfl
  refine lv_aload_n hx hb dX12_init_365 rfl (lv_at hl 0 rfl) ?_
  refine lv_bipush (v := 40) hx hb dX12_init_366 (by decide) ?_
  refine r_mk (t0 := 1) (N' := 40) (a0 := (40, .inl (fun _ => 0))) hF hin dX12_init_368 dX12_init_370 fl_X12_148 (wb 39 rfl) rfl rfl id rfl rfl (fun _ => rfl) (fun _ => rfl) hlen hP hD hS hA (fun _ => rfl) (by decide) (by decide) (by decide) (by decide) (by decide) (fun q44 H locs hlen hP hD hS => ?_)
  refine lv_aload_n hx hb dX12_init_373 rfl (lv_at hl 0 rfl) ?_
  refine lv_bipush (v := 40) hx hb dX12_init_374 (by decide) ?_
  refine r_mk (t0 := 1) (N' := 40) (a0 := (40, .inl (fun _ => 0))) hF hin dX12_init_376 dX12_init_378 fl_X12_151 (wb 39 rfl) rfl rfl id rfl rfl (fun _ => rfl) (fun _ => rfl) hlen hP hD hS hA (fun _ => rfl) (by decide) (by decide) (by decide) (by decide) (by decide) (fun q45 H locs hlen hP hD hS => ?_)
  refine lv_aload_n hx hb dX12_init_381 rfl (lv_at hl 0 rfl) ?_
  refine lv_bipush (v := 40) hx hb dX12_init_382 (by decide) ?_
  refine r_mk (t0 := 1) (N' := 40) (a0 := (40, .inl (fun _ => 0))) hF hin dX12_init_384 dX12_init_386 fl_X12_154 (wb 39 rfl) rfl rfl id rfl rfl (fun _ => rfl) (fun _ => rfl) hlen hP hD hS hA (fun _ => rfl) (by decide) (by decide) (by decide) (by decide) (by decide) (fun q46 H locs hlen hP hD hS => ?_)
  refine lv_aload_n hx hb dX12_init_389 rfl (lv_at hl 0 rfl) ?_
  refine lv_bipush (v := 40) hx hb dX12_init_390 (by decide) ?_
  refine r_mk (t0 := 3) (N' := 40) (a0 := (40, .inl (fun _ => 0))) hF hin dX12_init_392 dX12_init_394 fl_X12_157 (wb 505 rfl) rfl rfl id rfl rfl (fun _ => rfl) (fun _ => rfl) hlen hP hD hS hA (fun _ => rfl) (by decide) (by decide) (by decide) (by decide) (by decide) (fun q47 H locs hlen hP hD hS => ?_)
  replace hP : va_P D cl1 [(h0, .inr (0, [.ref q0, .int 0, .long 0, .ref q1, .ref q2, .ref q3, .ref q4, .ref q5, .ref q6, .ref q7, .ref q8, .ref q9, .ref q10, .ref q11, .ref q12, .ref q13, .int 0, .ref q14, .ref q15, .ref q16, .ref q17, .ref q18, .ref q19, .ref q20, .ref q21, .ref q22, .ref q23, .ref q24, .ref q25, .ref q26, .ref q27, .ref q28, .ref q29, .ref q30, .ref q31, .ref q32, .ref q33, .ref q34, .ref q35, .ref q36, .ref q37, .ref q38, .ref q39, .ref q40, .ref q41, .ref q42, .ref q43, .ref q44, .ref q45, .ref q46, .ref q47, .null, .null, .null, .null, .null, .null, .null, .null, .long 0, .long 0, .long 0, .long 0, .int 0, .null, .null, .null, .null, .null, .int 0, .null, .null, .null, .null, .null, .null, .null, .null, .null, .null, .null, .null, .null, .null, .null, .null, .int 0, .int 0, .int 0, .null, .int 0, .int 0, .int 0, .int 0, .int 0, .int 0, .long 0, .long 0, .int 0, .int 0, .int 0, .long 0, .long 0, .int 0, .long 0, .long 0, .long 0, .long 0, .int 0, .int 0, .int 0, .long 0, .null, .null, .null, .int 0, .int 0, .int 0, .int 0, .int 0])), (q0, .inl (t 0, 8000, .inl (fun _ => 0))), (q1, .inl (t 3, 160, .inl (fun _ => 0))), (q2, .inl (t 1, 160, .inl (fun _ => 0))), (q3, .inl (t 3, 160, .inl (fun _ => 0))), (q4, .inl (t 0, 1920, .inl (fun _ => 0))), (q5, .inl (t 1, 160, .inl (fun _ => 0))), (q6, .inl (t 1, 160, .inl (fun _ => 0))), (q7, .inl (t 2, 640, .inr (.inl (fun _ => 0)))), (q8, .inl (t 1, 160, .inl (fun _ => 0))), (q9, .inl (t 0, 655360, .inl (fun _ => 0))), (q10, .inl (t 3, 80, .inl (fun _ => 0))), (q11, .inl (t 1, 4, .inl (fun _ => 0))), (q12, .inl (t 0, 48, .inl (fun _ => 0))), (q13, .inl (t 1, 4, .inl (fun _ => 0))), (q14, .inl (t 1, 9, .inl (fun _ => 0))), (q15, .inl (t 1, 9, .inl (fun _ => 0))), (q16, .inl (t 1, 9, .inl (fun _ => 0))), (q17, .inl (t 3, 9, .inl (fun _ => 0))), (q18, .inl (t 0, 108, .inl (fun _ => 0))), (q19, .inl (t 1, 9, .inl (fun _ => 0))), (q20, .inl (t 1, 9, .inl (fun _ => 0))), (q21, .inl (t 2, 36, .inr (.inl (fun _ => 0)))), (q22, .inl (t 1, 9, .inl (fun _ => 0))), (q23, .inl (t 1, 9, .inl (fun _ => 0))), (q24, .inl (t 0, 9216, .inl (fun _ => 0))), (q25, .inl (t 3, 6, .inl (fun _ => 0))), (q26, .inl (t 3, 6, .inl (fun _ => 0))), (q27, .inl (t 0, 96000, .inl (fun _ => 0))), (q28, .inl (t 1, 6, .inl (fun _ => 0))), (q29, .inl (t 0, 72600, .inl (fun _ => 0))), (q30, .inl (t 1, 6, .inl (fun _ => 0))), (q31, .inl (t 2, 96, .inr (.inl (fun _ => 0)))), (q32, .inl (t 1, 6, .inl (fun _ => 0))), (q33, .inl (t 2, 6, .inr (.inl (fun _ => 0)))), (q34, .inl (t 2, 8, .inr (.inl (fun _ => 0)))), (q35, .inl (t 1, 8, .inl (fun _ => 0))), (q36, .inl (t 0, 128, .inl (fun _ => 0))), (q37, .inl (t 1, 8, .inl (fun _ => 0))), (q38, .inl (t 2, 16, .inr (.inl (fun _ => 0)))), (q39, .inl (t 1, 16, .inl (fun _ => 0))), (q40, .inl (t 1, 16, .inl (fun _ => 0))), (q41, .inl (t 2, 40, .inr (.inl (fun _ => 0)))), (q42, .inl (t 1, 40, .inl (fun _ => 0))), (q43, .inl (t 1, 40, .inl (fun _ => 0))), (q44, .inl (t 1, 40, .inl (fun _ => 0))), (q45, .inl (t 1, 40, .inl (fun _ => 0))), (q46, .inl (t 1, 40, .inl (fun _ => 0))), (q47, .inl (t 3, 40, .inl (fun _ => 0)))] H := hP
  replace hD : va_D A [(h0, .inr (0, [.ref q0, .int 0, .long 0, .ref q1, .ref q2, .ref q3, .ref q4, .ref q5, .ref q6, .ref q7, .ref q8, .ref q9, .ref q10, .ref q11, .ref q12, .ref q13, .int 0, .ref q14, .ref q15, .ref q16, .ref q17, .ref q18, .ref q19, .ref q20, .ref q21, .ref q22, .ref q23, .ref q24, .ref q25, .ref q26, .ref q27, .ref q28, .ref q29, .ref q30, .ref q31, .ref q32, .ref q33, .ref q34, .ref q35, .ref q36, .ref q37, .ref q38, .ref q39, .ref q40, .ref q41, .ref q42, .ref q43, .ref q44, .ref q45, .ref q46, .ref q47, .null, .null, .null, .null, .null, .null, .null, .null, .long 0, .long 0, .long 0, .long 0, .int 0, .null, .null, .null, .null, .null, .int 0, .null, .null, .null, .null, .null, .null, .null, .null, .null, .null, .null, .null, .null, .null, .null, .null, .int 0, .int 0, .int 0, .null, .int 0, .int 0, .int 0, .int 0, .int 0, .int 0, .long 0, .long 0, .int 0, .int 0, .int 0, .long 0, .long 0, .int 0, .long 0, .long 0, .long 0, .long 0, .int 0, .int 0, .int 0, .long 0, .null, .null, .null, .int 0, .int 0, .int 0, .int 0, .int 0])), (q0, .inl (t 0, 8000, .inl (fun _ => 0))), (q1, .inl (t 3, 160, .inl (fun _ => 0))), (q2, .inl (t 1, 160, .inl (fun _ => 0))), (q3, .inl (t 3, 160, .inl (fun _ => 0))), (q4, .inl (t 0, 1920, .inl (fun _ => 0))), (q5, .inl (t 1, 160, .inl (fun _ => 0))), (q6, .inl (t 1, 160, .inl (fun _ => 0))), (q7, .inl (t 2, 640, .inr (.inl (fun _ => 0)))), (q8, .inl (t 1, 160, .inl (fun _ => 0))), (q9, .inl (t 0, 655360, .inl (fun _ => 0))), (q10, .inl (t 3, 80, .inl (fun _ => 0))), (q11, .inl (t 1, 4, .inl (fun _ => 0))), (q12, .inl (t 0, 48, .inl (fun _ => 0))), (q13, .inl (t 1, 4, .inl (fun _ => 0))), (q14, .inl (t 1, 9, .inl (fun _ => 0))), (q15, .inl (t 1, 9, .inl (fun _ => 0))), (q16, .inl (t 1, 9, .inl (fun _ => 0))), (q17, .inl (t 3, 9, .inl (fun _ => 0))), (q18, .inl (t 0, 108, .inl (fun _ => 0))), (q19, .inl (t 1, 9, .inl (fun _ => 0))), (q20, .inl (t 1, 9, .inl (fun _ => 0))), (q21, .inl (t 2, 36, .inr (.inl (fun _ => 0)))), (q22, .inl (t 1, 9, .inl (fun _ => 0))), (q23, .inl (t 1, 9, .inl (fun _ => 0))), (q24, .inl (t 0, 9216, .inl (fun _ => 0))), (q25, .inl (t 3, 6, .inl (fun _ => 0))), (q26, .inl (t 3, 6, .inl (fun _ => 0))), (q27, .inl (t 0, 96000, .inl (fun _ => 0))), (q28, .inl (t 1, 6, .inl (fun _ => 0))), (q29, .inl (t 0, 72600, .inl (fun _ => 0))), (q30, .inl (t 1, 6, .inl (fun _ => 0))), (q31, .inl (t 2, 96, .inr (.inl (fun _ => 0)))), (q32, .inl (t 1, 6, .inl (fun _ => 0))), (q33, .inl (t 2, 6, .inr (.inl (fun _ => 0)))), (q34, .inl (t 2, 8, .inr (.inl (fun _ => 0)))), (q35, .inl (t 1, 8, .inl (fun _ => 0))), (q36, .inl (t 0, 128, .inl (fun _ => 0))), (q37, .inl (t 1, 8, .inl (fun _ => 0))), (q38, .inl (t 2, 16, .inr (.inl (fun _ => 0)))), (q39, .inl (t 1, 16, .inl (fun _ => 0))), (q40, .inl (t 1, 16, .inl (fun _ => 0))), (q41, .inl (t 2, 40, .inr (.inl (fun _ => 0)))), (q42, .inl (t 1, 40, .inl (fun _ => 0))), (q43, .inl (t 1, 40, .inl (fun _ => 0))), (q44, .inl (t 1, 40, .inl (fun _ => 0))), (q45, .inl (t 1, 40, .inl (fun _ => 0))), (q46, .inl (t 1, 40, .inl (fun _ => 0))), (q47, .inl (t 3, 40, .inl (fun _ => 0)))] := hD
  replace hlen : ([.ref q0, .int 0, .long 0, .ref q1, .ref q2, .ref q3, .ref q4, .ref q5, .ref q6, .ref q7, .ref q8, .ref q9, .ref q10, .ref q11, .ref q12, .ref q13, .int 0, .ref q14, .ref q15, .ref q16, .ref q17, .ref q18, .ref q19, .ref q20, .ref q21, .ref q22, .ref q23, .ref q24, .ref q25, .ref q26, .ref q27, .ref q28, .ref q29, .ref q30, .ref q31, .ref q32, .ref q33, .ref q34, .ref q35, .ref q36, .ref q37, .ref q38, .ref q39, .ref q40, .ref q41, .ref q42, .ref q43, .ref q44, .ref q45, .ref q46, .ref q47, .null, .null, .null, .null, .null, .null, .null, .null, .long 0, .long 0, .long 0, .long 0, .int 0, .null, .null, .null, .null, .null, .int 0, .null, .null, .null, .null, .null, .null, .null, .null, .null, .null, .null, .null, .null, .null, .null, .null, .int 0, .int 0, .int 0, .null, .int 0, .int 0, .int 0, .int 0, .int 0, .int 0, .long 0, .long 0, .int 0, .int 0, .int 0, .long 0, .long 0, .int 0, .long 0, .long 0, .long 0, .long 0, .int 0, .int 0, .int 0, .long 0, .null, .null, .null, .int 0, .int 0, .int 0, .int 0, .int 0] : List Value).length = 120 := rfl
  refine lv_aload_n hx hb dX12_init_397 rfl (lv_at hl 0 rfl) ?_
  refine lv_bipush (v := 40) hx hb dX12_init_398 (by decide) ?_
  refine r_mk (t0 := 1) (N' := 40) (a0 := (40, .inl (fun _ => 0))) hF hin dX12_init_400 dX12_init_402 fl_X12_160 (wb 39 rfl) rfl rfl id rfl rfl (fun _ => rfl) (fun _ => rfl) hlen hP hD hS hA (fun _ => rfl) (by decide) (by decide) (by decide) (by decide) (by decide) (fun q48 H locs hlen hP hD hS => ?_)
  refine lv_aload_n hx hb dX12_init_405 rfl (lv_at hl 0 rfl) ?_
  refine lv_bipush (v := 40) hx hb dX12_init_406 (by decide) ?_
  refine r_mk (t0 := 2) (N' := 40) (a0 := (40, .inr (.inl (fun _ => 0)))) hF hin dX12_init_408 dX12_init_410 fl_X12_163 (wb 138 rfl) rfl rfl id rfl rfl (fun _ => rfl) (fun _ => rfl) hlen hP hD hS hA (fun _ => rfl) (by decide) (by decide) (by decide) (by decide) (by decide) (fun q49 H locs hlen hP hD hS => ?_)
  refine lv_aload_n hx hb dX12_init_413 rfl (lv_at hl 0 rfl) ?_
  refine lv_bipush (v := 40) hx hb dX12_init_414 (by decide) ?_
  refine r_mk (t0 := 3) (N' := 40) (a0 := (40, .inl (fun _ => 0))) hF hin dX12_init_416 dX12_init_418 fl_X12_166 (wb 505 rfl) rfl rfl id rfl rfl (fun _ => rfl) (fun _ => rfl) hlen hP hD hS hA (fun _ => rfl) (by decide) (by decide) (by decide) (by decide) (by decide) (fun q50 H locs hlen hP hD hS => ?_)
  refine lv_aload_n hx hb dX12_init_421 rfl (lv_at hl 0 rfl) ?_
  refine lv_bipush (v := 40) hx hb dX12_init_422 (by decide) ?_
  refine r_mk (t0 := 1) (N' := 40) (a0 := (40, .inl (fun _ => 0))) hF hin dX12_init_424 dX12_init_426 fl_X12_169 (wb 39 rfl) rfl rfl id rfl rfl (fun _ => rfl) (fun _ => rfl) hlen hP hD hS hA (fun _ => rfl) (by decide) (by decide) (by decide) (by decide) (by decide) (fun q51 H locs hlen hP hD hS => ?_)
  replace hP : va_P D cl1 [(h0, .inr (0, [.ref q0, .int 0, .long 0, .ref q1, .ref q2, .ref q3, .ref q4, .ref q5, .ref q6, .ref q7, .ref q8, .ref q9, .ref q10, .ref q11, .ref q12, .ref q13, .int 0, .ref q14, .ref q15, .ref q16, .ref q17, .ref q18, .ref q19, .ref q20, .ref q21, .ref q22, .ref q23, .ref q24, .ref q25, .ref q26, .ref q27, .ref q28, .ref q29, .ref q30, .ref q31, .ref q32, .ref q33, .ref q34, .ref q35, .ref q36, .ref q37, .ref q38, .ref q39, .ref q40, .ref q41, .ref q42, .ref q43, .ref q44, .ref q45, .ref q46, .ref q47, .ref q48, .ref q49, .ref q50, .ref q51, .null, .null, .null, .null, .long 0, .long 0, .long 0, .long 0, .int 0, .null, .null, .null, .null, .null, .int 0, .null, .null, .null, .null, .null, .null, .null, .null, .null, .null, .null, .null, .null, .null, .null, .null, .int 0, .int 0, .int 0, .null, .int 0, .int 0, .int 0, .int 0, .int 0, .int 0, .long 0, .long 0, .int 0, .int 0, .int 0, .long 0, .long 0, .int 0, .long 0, .long 0, .long 0, .long 0, .int 0, .int 0, .int 0, .long 0, .null, .null, .null, .int 0, .int 0, .int 0, .int 0, .int 0])), (q0, .inl (t 0, 8000, .inl (fun _ => 0))), (q1, .inl (t 3, 160, .inl (fun _ => 0))), (q2, .inl (t 1, 160, .inl (fun _ => 0))), (q3, .inl (t 3, 160, .inl (fun _ => 0))), (q4, .inl (t 0, 1920, .inl (fun _ => 0))), (q5, .inl (t 1, 160, .inl (fun _ => 0))), (q6, .inl (t 1, 160, .inl (fun _ => 0))), (q7, .inl (t 2, 640, .inr (.inl (fun _ => 0)))), (q8, .inl (t 1, 160, .inl (fun _ => 0))), (q9, .inl (t 0, 655360, .inl (fun _ => 0))), (q10, .inl (t 3, 80, .inl (fun _ => 0))), (q11, .inl (t 1, 4, .inl (fun _ => 0))), (q12, .inl (t 0, 48, .inl (fun _ => 0))), (q13, .inl (t 1, 4, .inl (fun _ => 0))), (q14, .inl (t 1, 9, .inl (fun _ => 0))), (q15, .inl (t 1, 9, .inl (fun _ => 0))), (q16, .inl (t 1, 9, .inl (fun _ => 0))), (q17, .inl (t 3, 9, .inl (fun _ => 0))), (q18, .inl (t 0, 108, .inl (fun _ => 0))), (q19, .inl (t 1, 9, .inl (fun _ => 0))), (q20, .inl (t 1, 9, .inl (fun _ => 0))), (q21, .inl (t 2, 36, .inr (.inl (fun _ => 0)))), (q22, .inl (t 1, 9, .inl (fun _ => 0))), (q23, .inl (t 1, 9, .inl (fun _ => 0))), (q24, .inl (t 0, 9216, .inl (fun _ => 0))), (q25, .inl (t 3, 6, .inl (fun _ => 0))), (q26, .inl (t 3, 6, .inl (fun _ => 0))), (q27, .inl (t 0, 96000, .inl (fun _ => 0))), (q28, .inl (t 1, 6, .inl (fun _ => 0))), (q29, .inl (t 0, 72600, .inl (fun _ => 0))), (q30, .inl (t 1, 6, .inl (fun _ => 0))), (q31, .inl (t 2, 96, .inr (.inl (fun _ => 0)))), (q32, .inl (t 1, 6, .inl (fun _ => 0))), (q33, .inl (t 2, 6, .inr (.inl (fun _ => 0)))), (q34, .inl (t 2, 8, .inr (.inl (fun _ => 0)))), (q35, .inl (t 1, 8, .inl (fun _ => 0))), (q36, .inl (t 0, 128, .inl (fun _ => 0))), (q37, .inl (t 1, 8, .inl (fun _ => 0))), (q38, .inl (t 2, 16, .inr (.inl (fun _ => 0)))), (q39, .inl (t 1, 16, .inl (fun _ => 0))), (q40, .inl (t 1, 16, .inl (fun _ => 0))), (q41, .inl (t 2, 40, .inr (.inl (fun _ => 0)))), (q42, .inl (t 1, 40, .inl (fun _ => 0))), (q43, .inl (t 1, 40, .inl (fun _ => 0))), (q44, .inl (t 1, 40, .inl (fun _ => 0))), (q45, .inl (t 1, 40, .inl (fun _ => 0))), (q46, .inl (t 1, 40, .inl (fun _ => 0))), (q47, .inl (t 3, 40, .inl (fun _ => 0))), (q48, .inl (t 1, 40, .inl (fun _ => 0))), (q49, .inl (t 2, 40, .inr (.inl (fun _ => 0)))), (q50, .inl (t 3, 40, .inl (fun _ => 0))), (q51, .inl (t 1, 40, .inl (fun _ => 0)))] H := hP
  replace hD : va_D A [(h0, .inr (0, [.ref q0, .int 0, .long 0, .ref q1, .ref q2, .ref q3, .ref q4, .ref q5, .ref q6, .ref q7, .ref q8, .ref q9, .ref q10, .ref q11, .ref q12, .ref q13, .int 0, .ref q14, .ref q15, .ref q16, .ref q17, .ref q18, .ref q19, .ref q20, .ref q21, .ref q22, .ref q23, .ref q24, .ref q25, .ref q26, .ref q27, .ref q28, .ref q29, .ref q30, .ref q31, .ref q32, .ref q33, .ref q34, .ref q35, .ref q36, .ref q37, .ref q38, .ref q39, .ref q40, .ref q41, .ref q42, .ref q43, .ref q44, .ref q45, .ref q46, .ref q47, .ref q48, .ref q49, .ref q50, .ref q51, .null, .null, .null, .null, .long 0, .long 0, .long 0, .long 0, .int 0, .null, .null, .null, .null, .null, .int 0, .null, .null, .null, .null, .null, .null, .null, .null, .null, .null, .null, .null, .null, .null, .null, .null, .int 0, .int 0, .int 0, .null, .int 0, .int 0, .int 0, .int 0, .int 0, .int 0, .long 0, .long 0, .int 0, .int 0, .int 0, .long 0, .long 0, .int 0, .long 0, .long 0, .long 0, .long 0, .int 0, .int 0, .int 0, .long 0, .null, .null, .null, .int 0, .int 0, .int 0, .int 0, .int 0])), (q0, .inl (t 0, 8000, .inl (fun _ => 0))), (q1, .inl (t 3, 160, .inl (fun _ => 0))), (q2, .inl (t 1, 160, .inl (fun _ => 0))), (q3, .inl (t 3, 160, .inl (fun _ => 0))), (q4, .inl (t 0, 1920, .inl (fun _ => 0))), (q5, .inl (t 1, 160, .inl (fun _ => 0))), (q6, .inl (t 1, 160, .inl (fun _ => 0))), (q7, .inl (t 2, 640, .inr (.inl (fun _ => 0)))), (q8, .inl (t 1, 160, .inl (fun _ => 0))), (q9, .inl (t 0, 655360, .inl (fun _ => 0))), (q10, .inl (t 3, 80, .inl (fun _ => 0))), (q11, .inl (t 1, 4, .inl (fun _ => 0))), (q12, .inl (t 0, 48, .inl (fun _ => 0))), (q13, .inl (t 1, 4, .inl (fun _ => 0))), (q14, .inl (t 1, 9, .inl (fun _ => 0))), (q15, .inl (t 1, 9, .inl (fun _ => 0))), (q16, .inl (t 1, 9, .inl (fun _ => 0))), (q17, .inl (t 3, 9, .inl (fun _ => 0))), (q18, .inl (t 0, 108, .inl (fun _ => 0))), (q19, .inl (t 1, 9, .inl (fun _ => 0))), (q20, .inl (t 1, 9, .inl (fun _ => 0))), (q21, .inl (t 2, 36, .inr (.inl (fun _ => 0)))), (q22, .inl (t 1, 9, .inl (fun _ => 0))), (q23, .inl (t 1, 9, .inl (fun _ => 0))), (q24, .inl (t 0, 9216, .inl (fun _ => 0))), (q25, .inl (t 3, 6, .inl (fun _ => 0))), (q26, .inl (t 3, 6, .inl (fun _ => 0))), (q27, .inl (t 0, 96000, .inl (fun _ => 0))), (q28, .inl (t 1, 6, .inl (fun _ => 0))), (q29, .inl (t 0, 72600, .inl (fun _ => 0))), (q30, .inl (t 1, 6, .inl (fun _ => 0))), (q31, .inl (t 2, 96, .inr (.inl (fun _ => 0)))), (q32, .inl (t 1, 6, .inl (fun _ => 0))), (q33, .inl (t 2, 6, .inr (.inl (fun _ => 0)))), (q34, .inl (t 2, 8, .inr (.inl (fun _ => 0)))), (q35, .inl (t 1, 8, .inl (fun _ => 0))), (q36, .inl (t 0, 128, .inl (fun _ => 0))), (q37, .inl (t 1, 8, .inl (fun _ => 0))), (q38, .inl (t 2, 16, .inr (.inl (fun _ => 0)))), (q39, .inl (t 1, 16, .inl (fun _ => 0))), (q40, .inl (t 1, 16, .inl (fun _ => 0))), (q41, .inl (t 2, 40, .inr (.inl (fun _ => 0)))), (q42, .inl (t 1, 40, .inl (fun _ => 0))), (q43, .inl (t 1, 40, .inl (fun _ => 0))), (q44, .inl (t 1, 40, .inl (fun _ => 0))), (q45, .inl (t 1, 40, .inl (fun _ => 0))), (q46, .inl (t 1, 40, .inl (fun _ => 0))), (q47, .inl (t 3, 40, .inl (fun _ => 0))), (q48, .inl (t 1, 40, .inl (fun _ => 0))), (q49, .inl (t 2, 40, .inr (.inl (fun _ => 0)))), (q50, .inl (t 3, 40, .inl (fun _ => 0))), (q51, .inl (t 1, 40, .inl (fun _ => 0)))] := hD
  replace hlen : ([.ref q0, .int 0, .long 0, .ref q1, .ref q2, .ref q3, .ref q4, .ref q5, .ref q6, .ref q7, .ref q8, .ref q9, .ref q10, .ref q11, .ref q12, .ref q13, .int 0, .ref q14, .ref q15, .ref q16, .ref q17, .ref q18, .ref q19, .ref q20, .ref q21, .ref q22, .ref q23, .ref q24, .ref q25, .ref q26, .ref q27, .ref q28, .ref q29, .ref q30, .ref q31, .ref q32, .ref q33, .ref q34, .ref q35, .ref q36, .ref q37, .ref q38, .ref q39, .ref q40, .ref q41, .ref q42, .ref q43, .ref q44, .ref q45, .ref q46, .ref q47, .ref q48, .ref q49, .ref q50, .ref q51, .null, .null, .null, .null, .long 0, .long 0, .long 0, .long 0, .int 0, .null, .null, .null, .null, .null, .int 0, .null, .null, .null, .null, .null, .null, .null, .null, .null, .null, .null, .null, .null, .null, .null, .null, .int 0, .int 0, .int 0, .null, .int 0, .int 0, .int 0, .int 0, .int 0, .int 0, .long 0, .long 0, .int 0, .int 0, .int 0, .long 0, .long 0, .int 0, .long 0, .long 0, .long 0, .long 0, .int 0, .int 0, .int 0, .long 0, .null, .null, .null, .int 0, .int 0, .int 0, .int 0, .int 0] : List Value).length = 120 := rfl
  refine lv_aload_n hx hb dX12_init_429 rfl (lv_at hl 0 rfl) ?_
  refine lv_sipush (v := 800) hx hb dX12_init_430 (by decide) ?_
  refine r_mk (t0 := 1) (N' := 800) (a0 := (800, .inl (fun _ => 0))) hF hin dX12_init_433 dX12_init_435 fl_X12_172 (wb 39 rfl) rfl rfl id rfl rfl (fun _ => rfl) (fun _ => rfl) hlen hP hD hS hA (fun _ => rfl) (by decide) (by decide) (by decide) (by decide) (by decide) (fun q52 H locs hlen hP hD hS => ?_)
  refine lv_aload_n hx hb dX12_init_438 rfl (lv_at hl 0 rfl) ?_
  refine lv_bipush (v := 40) hx hb dX12_init_439 (by decide) ?_
  refine r_mk (t0 := 1) (N' := 40) (a0 := (40, .inl (fun _ => 0))) hF hin dX12_init_441 dX12_init_443 fl_X12_175 (wb 39 rfl) rfl rfl id rfl rfl (fun _ => rfl) (fun _ => rfl) hlen hP hD hS hA (fun _ => rfl) (by decide) (by decide) (by decide) (by decide) (by decide) (fun q53 H locs hlen hP hD hS => ?_)
  refine lv_aload_n hx hb dX12_init_446 rfl (lv_at hl 0 rfl) ?_
  refine lv_sipush (v := 480) hx hb dX12_init_447 (by decide) ?_
  refine r_mk (t0 := 0) (N' := 480) (a0 := (480, .inl (fun _ => 0))) hF hin dX12_init_450 dX12_init_452 fl_X12_178 (wb 12 rfl) rfl rfl id rfl rfl (fun _ => rfl) (fun _ => rfl) hlen hP hD hS hA (fun _ => rfl) (by decide) (by decide) (by decide) (by decide) (by decide) (fun q54 H locs hlen hP hD hS => ?_)
  refine lv_aload_n hx hb dX12_init_455 rfl (lv_at hl 0 rfl) ?_
  refine lv_bipush (v := 40) hx hb dX12_init_456 (by decide) ?_
  refine r_mk (t0 := 1) (N' := 40) (a0 := (40, .inl (fun _ => 0))) hF hin dX12_init_458 dX12_init_460 fl_X12_181 (wb 39 rfl) rfl rfl id rfl rfl (fun _ => rfl) (fun _ => rfl) hlen hP hD hS hA (fun _ => rfl) (by decide) (by decide) (by decide) (by decide) (by decide) (fun q55 H locs hlen hP hD hS => ?_)
  replace hP : va_P D cl1 [(h0, .inr (0, [.ref q0, .int 0, .long 0, .ref q1, .ref q2, .ref q3, .ref q4, .ref q5, .ref q6, .ref q7, .ref q8, .ref q9, .ref q10, .ref q11, .ref q12, .ref q13, .int 0, .ref q14, .ref q15, .ref q16, .ref q17, .ref q18, .ref q19, .ref q20, .ref q21, .ref q22, .ref q23, .ref q24, .ref q25, .ref q26, .ref q27, .ref q28, .ref q29, .ref q30, .ref q31, .ref q32, .ref q33, .ref q34, .ref q35, .ref q36, .ref q37, .ref q38, .ref q39, .ref q40, .ref q41, .ref q42, .ref q43, .ref q44, .ref q45, .ref q46, .ref q47, .ref q48, .ref q49, .ref q50, .ref q51, .ref q52, .ref q53, .ref q54, .ref q55, .long 0, .long 0, .long 0, .long 0, .int 0, .null, .null, .null, .null, .null, .int 0, .null, .null, .null, .null, .null, .null, .null, .null, .null, .null, .null, .null, .null, .null, .null, .null, .int 0, .int 0, .int 0, .null, .int 0, .int 0, .int 0, .int 0, .int 0, .int 0, .long 0, .long 0, .int 0, .int 0, .int 0, .long 0, .long 0, .int 0, .long 0, .long 0, .long 0, .long 0, .int 0, .int 0, .int 0, .long 0, .null, .null, .null, .int 0, .int 0, .int 0, .int 0, .int 0])), (q0, .inl (t 0, 8000, .inl (fun _ => 0))), (q1, .inl (t 3, 160, .inl (fun _ => 0))), (q2, .inl (t 1, 160, .inl (fun _ => 0))), (q3, .inl (t 3, 160, .inl (fun _ => 0))), (q4, .inl (t 0, 1920, .inl (fun _ => 0))), (q5, .inl (t 1, 160, .inl (fun _ => 0))), (q6, .inl (t 1, 160, .inl (fun _ => 0))), (q7, .inl (t 2, 640, .inr (.inl (fun _ => 0)))), (q8, .inl (t 1, 160, .inl (fun _ => 0))), (q9, .inl (t 0, 655360, .inl (fun _ => 0))), (q10, .inl (t 3, 80, .inl (fun _ => 0))), (q11, .inl (t 1, 4, .inl (fun _ => 0))), (q12, .inl (t 0, 48, .inl (fun _ => 0))), (q13, .inl (t 1, 4, .inl (fun _ => 0))), (q14, .inl (t 1, 9, .inl (fun _ => 0))), (q15, .inl (t 1, 9, .inl (fun _ => 0))), (q16, .inl (t 1, 9, .inl (fun _ => 0))), (q17, .inl (t 3, 9, .inl (fun _ => 0))), (q18, .inl (t 0, 108, .inl (fun _ => 0))), (q19, .inl (t 1, 9, .inl (fun _ => 0))), (q20, .inl (t 1, 9, .inl (fun _ => 0))), (q21, .inl (t 2, 36, .inr (.inl (fun _ => 0)))), (q22, .inl (t 1, 9, .inl (fun _ => 0))), (q23, .inl (t 1, 9, .inl (fun _ => 0))), (q24, .inl (t 0, 9216, .inl (fun _ => 0))), (q25, .inl (t 3, 6, .inl (fun _ => 0))), (q26, .inl (t 3, 6, .inl (fun _ => 0))), (q27, .inl (t 0, 96000, .inl (fun _ => 0))), (q28, .inl (t 1, 6, .inl (fun _ => 0))), (q29, .inl (t 0, 72600, .inl (fun _ => 0))), (q30, .inl (t 1, 6, .inl (fun _ => 0))), (q31, .inl (t 2, 96, .inr (.inl (fun _ => 0)))), (q32, .inl (t 1, 6, .inl (fun _ => 0))), (q33, .inl (t 2, 6, .inr (.inl (fun _ => 0)))), (q34, .inl (t 2, 8, .inr (.inl (fun _ => 0)))), (q35, .inl (t 1, 8, .inl (fun _ => 0))), (q36, .inl (t 0, 128, .inl (fun _ => 0))), (q37, .inl (t 1, 8, .inl (fun _ => 0))), (q38, .inl (t 2, 16, .inr (.inl (fun _ => 0)))), (q39, .inl (t 1, 16, .inl (fun _ => 0))), (q40, .inl (t 1, 16, .inl (fun _ => 0))), (q41, .inl (t 2, 40, .inr (.inl (fun _ => 0)))), (q42, .inl (t 1, 40, .inl (fun _ => 0))), (q43, .inl (t 1, 40, .inl (fun _ => 0))), (q44, .inl (t 1, 40, .inl (fun _ => 0))), (q45, .inl (t 1, 40, .inl (fun _ => 0))), (q46, .inl (t 1, 40, .inl (fun _ => 0))), (q47, .inl (t 3, 40, .inl (fun _ => 0))), (q48, .inl (t 1, 40, .inl (fun _ => 0))), (q49, .inl (t 2, 40, .inr (.inl (fun _ => 0)))), (q50, .inl (t 3, 40, .inl (fun _ => 0))), (q51, .inl (t 1, 40, .inl (fun _ => 0))), (q52, .inl (t 1, 800, .inl (fun _ => 0))), (q53, .inl (t 1, 40, .inl (fun _ => 0))), (q54, .inl (t 0, 480, .inl (fun _ => 0))), (q55, .inl (t 1, 40, .inl (fun _ => 0)))] H := hP
  replace hD : va_D A [(h0, .inr (0, [.ref q0, .int 0, .long 0, .ref q1, .ref q2, .ref q3, .ref q4, .ref q5, .ref q6, .ref q7, .ref q8, .ref q9, .ref q10, .ref q11, .ref q12, .ref q13, .int 0, .ref q14, .ref q15, .ref q16, .ref q17, .ref q18, .ref q19, .ref q20, .ref q21, .ref q22, .ref q23, .ref q24, .ref q25, .ref q26, .ref q27, .ref q28, .ref q29, .ref q30, .ref q31, .ref q32, .ref q33, .ref q34, .ref q35, .ref q36, .ref q37, .ref q38, .ref q39, .ref q40, .ref q41, .ref q42, .ref q43, .ref q44, .ref q45, .ref q46, .ref q47, .ref q48, .ref q49, .ref q50, .ref q51, .ref q52, .ref q53, .ref q54, .ref q55, .long 0, .long 0, .long 0, .long 0, .int 0, .null, .null, .null, .null, .null, .int 0, .null, .null, .null, .null, .null, .null, .null, .null, .null, .null, .null, .null, .null, .null, .null, .null, .int 0, .int 0, .int 0, .null, .int 0, .int 0, .int 0, .int 0, .int 0, .int 0, .long 0, .long 0, .int 0, .int 0, .int 0, .long 0, .long 0, .int 0, .long 0, .long 0, .long 0, .long 0, .int 0, .int 0, .int 0, .long 0, .null, .null, .null, .int 0, .int 0, .int 0, .int 0, .int 0])), (q0, .inl (t 0, 8000, .inl (fun _ => 0))), (q1, .inl (t 3, 160, .inl (fun _ => 0))), (q2, .inl (t 1, 160, .inl (fun _ => 0))), (q3, .inl (t 3, 160, .inl (fun _ => 0))), (q4, .inl (t 0, 1920, .inl (fun _ => 0))), (q5, .inl (t 1, 160, .inl (fun _ => 0))), (q6, .inl (t 1, 160, .inl (fun _ => 0))), (q7, .inl (t 2, 640, .inr (.inl (fun _ => 0)))), (q8, .inl (t 1, 160, .inl (fun _ => 0))), (q9, .inl (t 0, 655360, .inl (fun _ => 0))), (q10, .inl (t 3, 80, .inl (fun _ => 0))), (q11, .inl (t 1, 4, .inl (fun _ => 0))), (q12, .inl (t 0, 48, .inl (fun _ => 0))), (q13, .inl (t 1, 4, .inl (fun _ => 0))), (q14, .inl (t 1, 9, .inl (fun _ => 0))), (q15, .inl (t 1, 9, .inl (fun _ => 0))), (q16, .inl (t 1, 9, .inl (fun _ => 0))), (q17, .inl (t 3, 9, .inl (fun _ => 0))), (q18, .inl (t 0, 108, .inl (fun _ => 0))), (q19, .inl (t 1, 9, .inl (fun _ => 0))), (q20, .inl (t 1, 9, .inl (fun _ => 0))), (q21, .inl (t 2, 36, .inr (.inl (fun _ => 0)))), (q22, .inl (t 1, 9, .inl (fun _ => 0))), (q23, .inl (t 1, 9, .inl (fun _ => 0))), (q24, .inl (t 0, 9216, .inl (fun _ => 0))), (q25, .inl (t 3, 6, .inl (fun _ => 0))), (q26, .inl (t 3, 6, .inl (fun _ => 0))), (q27, .inl (t 0, 96000, .inl (fun _ => 0))), (q28, .inl (t 1, 6, .inl (fun _ => 0))), (q29, .inl (t 0, 72600, .inl (fun _ => 0))), (q30, .inl (t 1, 6, .inl (fun _ => 0))), (q31, .inl (t 2, 96, .inr (.inl (fun _ => 0)))), (q32, .inl (t 1, 6, .inl (fun _ => 0))), (q33, .inl (t 2, 6, .inr (.inl (fun _ => 0)))), (q34, .inl (t 2, 8, .inr (.inl (fun _ => 0)))), (q35, .inl (t 1, 8, .inl (fun _ => 0))), (q36, .inl (t 0, 128, .inl (fun _ => 0))), (q37, .inl (t 1, 8, .inl (fun _ => 0))), (q38, .inl (t 2, 16, .inr (.inl (fun _ => 0)))), (q39, .inl (t 1, 16, .inl (fun _ => 0))), (q40, .inl (t 1, 16, .inl (fun _ => 0))), (q41, .inl (t 2, 40, .inr (.inl (fun _ => 0)))), (q42, .inl (t 1, 40, .inl (fun _ => 0))), (q43, .inl (t 1, 40, .inl (fun _ => 0))), (q44, .inl (t 1, 40, .inl (fun _ => 0))), (q45, .inl (t 1, 40, .inl (fun _ => 0))), (q46, .inl (t 1, 40, .inl (fun _ => 0))), (q47, .inl (t 3, 40, .inl (fun _ => 0))), (q48, .inl (t 1, 40, .inl (fun _ => 0))), (q49, .inl (t 2, 40, .inr (.inl (fun _ => 0)))), (q50, .inl (t 3, 40, .inl (fun _ => 0))), (q51, .inl (t 1, 40, .inl (fun _ => 0))), (q52, .inl (t 1, 800, .inl (fun _ => 0))), (q53, .inl (t 1, 40, .inl (fun _ => 0))), (q54, .inl (t 0, 480, .inl (fun _ => 0))), (q55, .inl (t 1, 40, .inl (fun _ => 0)))] := hD
  replace hlen : ([.ref q0, .int 0, .long 0, .ref q1, .ref q2, .ref q3, .ref q4, .ref q5, .ref q6, .ref q7, .ref q8, .ref q9, .ref q10, .ref q11, .ref q12, .ref q13, .int 0, .ref q14, .ref q15, .ref q16, .ref q17, .ref q18, .ref q19, .ref q20, .ref q21, .ref q22, .ref q23, .ref q24, .ref q25, .ref q26, .ref q27, .ref q28, .ref q29, .ref q30, .ref q31, .ref q32, .ref q33, .ref q34, .ref q35, .ref q36, .ref q37, .ref q38, .ref q39, .ref q40, .ref q41, .ref q42, .ref q43, .ref q44, .ref q45, .ref q46, .ref q47, .ref q48, .ref q49, .ref q50, .ref q51, .ref q52, .ref q53, .ref q54, .ref q55, .long 0, .long 0, .long 0, .long 0, .int 0, .null, .null, .null, .null, .null, .int 0, .null, .null, .null, .null, .null, .null, .null, .null, .null, .null, .null, .null, .null, .null, .null, .null, .int 0, .int 0, .int 0, .null, .int 0, .int 0, .int 0, .int 0, .int 0, .int 0, .long 0, .long 0, .int 0, .int 0, .int 0, .long 0, .long 0, .int 0, .long 0, .long 0, .long 0, .long 0, .int 0, .int 0, .int 0, .long 0, .null, .null, .null, .int 0, .int 0, .int 0, .int 0, .int 0] : List Value).length = 120 := rfl
  refine lv_aload_n hx hb dX12_init_463 rfl (lv_at hl 0 rfl) ?_
  refine lv_bipush (v := 80) hx hb dX12_init_464 (by decide) ?_
  refine r_mk (t0 := 2) (N' := 80) (a0 := (80, .inr (.inl (fun _ => 0)))) hF hin dX12_init_466 dX12_init_468 fl_X12_184 (wb 138 rfl) rfl rfl id rfl rfl (fun _ => rfl) (fun _ => rfl) hlen hP hD hS hA (fun _ => rfl) (by decide) (by decide) (by decide) (by decide) (by decide) (fun q56 H locs hlen hP hD hS => ?_)
  refine lv_aload_n hx hb dX12_init_471 rfl (lv_at hl 0 rfl) ?_
  refine lv_bipush (v := 80) hx hb dX12_init_472 (by decide) ?_
  refine r_mk (t0 := 1) (N' := 80) (a0 := (80, .inl (fun _ => 0))) hF hin dX12_init_474 dX12_init_476 fl_X12_187 (wb 39 rfl) rfl rfl id rfl rfl (fun _ => rfl) (fun _ => rfl) hlen hP hD hS hA (fun _ => rfl) (by decide) (by decide) (by decide) (by decide) (by decide) (fun q57 H locs hlen hP hD hS => ?_)
  refine lv_aload_n hx hb dX12_init_479 rfl (lv_at hl 0 rfl) ?_
  refine lv_bipush (v := 80) hx hb dX12_init_480 (by decide) ?_
  refine r_mk (t0 := 2) (N' := 80) (a0 := (80, .inr (.inl (fun _ => 0)))) hF hin dX12_init_482 dX12_init_484 fl_X12_190 (wb 138 rfl) rfl rfl id rfl rfl (fun _ => rfl) (fun _ => rfl) hlen hP hD hS hA (fun _ => rfl) (by decide) (by decide) (by decide) (by decide) (by decide) (fun q58 H locs hlen hP hD hS => ?_)
  refine lv_aload_n hx hb dX12_init_487 rfl (lv_at hl 0 rfl) ?_
  refine lv_bipush (v := 80) hx hb dX12_init_488 (by decide) ?_
  refine r_mk (t0 := 2) (N' := 80) (a0 := (80, .inr (.inl (fun _ => 0)))) hF hin dX12_init_490 dX12_init_492 fl_X12_193 (wb 138 rfl) rfl rfl id rfl rfl (fun _ => rfl) (fun _ => rfl) hlen hP hD hS hA (fun _ => rfl) (by decide) (by decide) (by decide) (by decide) (by decide) (fun q59 H locs hlen hP hD hS => ?_)
  replace hP : va_P D cl1 [(h0, .inr (0, [.ref q0, .int 0, .long 0, .ref q1, .ref q2, .ref q3, .ref q4, .ref q5, .ref q6, .ref q7, .ref q8, .ref q9, .ref q10, .ref q11, .ref q12, .ref q13, .int 0, .ref q14, .ref q15, .ref q16, .ref q17, .ref q18, .ref q19, .ref q20, .ref q21, .ref q22, .ref q23, .ref q24, .ref q25, .ref q26, .ref q27, .ref q28, .ref q29, .ref q30, .ref q31, .ref q32, .ref q33, .ref q34, .ref q35, .ref q36, .ref q37, .ref q38, .ref q39, .ref q40, .ref q41, .ref q42, .ref q43, .ref q44, .ref q45, .ref q46, .ref q47, .ref q48, .ref q49, .ref q50, .ref q51, .ref q52, .ref q53, .ref q54, .ref q55, .long 0, .long 0, .long 0, .long 0, .int 0, .ref q56, .ref q57, .ref q58, .ref q59, .null, .int 0, .null, .null, .null, .null, .null, .null, .null, .null, .null, .null, .null, .null, .null, .null, .null, .null, .int 0, .int 0, .int 0, .null, .int 0, .int 0, .int 0, .int 0, .int 0, .int 0, .long 0, .long 0, .int 0, .int 0, .int 0, .long 0, .long 0, .int 0, .long 0, .long 0, .long 0, .long 0, .int 0, .int 0, .int 0, .long 0, .null, .null, .null, .int 0, .int 0, .int 0, .int 0, .int 0])), (q0, .inl (t 0, 8000, .inl (fun _ => 0))), (q1, .inl (t 3, 160, .inl (fun _ => 0))), (q2, .inl (t 1, 160, .inl (fun _ => 0))), (q3, .inl (t 3, 160, .inl (fun _ => 0))), (q4, .inl (t 0, 1920, .inl (fun _ => 0))), (q5, .inl (t 1, 160, .inl (fun _ => 0))), (q6, .inl (t 1, 160, .inl (fun _ => 0))), (q7, .inl (t 2, 640, .inr (.inl (fun _ => 0)))), (q8, .inl (t 1, 160, .inl (fun _ => 0))), (q9, .inl (t 0, 655360, .inl (fun _ => 0))), (q10, .inl (t 3, 80, .inl (fun _ => 0))), (q11, .inl (t 1, 4, .inl (fun _ => 0))), (q12, .inl (t 0, 48, .inl (fun _ => 0))), (q13, .inl (t 1, 4, .inl (fun _ => 0))), (q14, .inl (t 1, 9, .inl (fun _ => 0))), (q15, .inl (t 1, 9, .inl (fun _ => 0))), (q16, .inl (t 1, 9, .inl (fun _ => 0))), (q17, .inl (t 3, 9, .inl (fun _ => 0))), (q18, .inl (t 0, 108, .inl (fun _ => 0))), (q19, .inl (t 1, 9, .inl (fun _ => 0))), (q20, .inl (t 1, 9, .inl (fun _ => 0))), (q21, .inl (t 2, 36, .inr (.inl (fun _ => 0)))), (q22, .inl (t 1, 9, .inl (fun _ => 0))), (q23, .inl (t 1, 9, .inl (fun _ => 0))), (q24, .inl (t 0, 9216, .inl (fun _ => 0))), (q25, .inl (t 3, 6, .inl (fun _ => 0))), (q26, .inl (t 3, 6, .inl (fun _ => 0))), (q27, .inl (t 0, 96000, .inl (fun _ => 0))), (q28, .inl (t 1, 6, .inl (fun _ => 0))), (q29, .inl (t 0, 72600, .inl (fun _ => 0))), (q30, .inl (t 1, 6, .inl (fun _ => 0))), (q31, .inl (t 2, 96, .inr (.inl (fun _ => 0)))), (q32, .inl (t 1, 6, .inl (fun _ => 0))), (q33, .inl (t 2, 6, .inr (.inl (fun _ => 0)))), (q34, .inl (t 2, 8, .inr (.inl (fun _ => 0)))), (q35, .inl (t 1, 8, .inl (fun _ => 0))), (q36, .inl (t 0, 128, .inl (fun _ => 0))), (q37, .inl (t 1, 8, .inl (fun _ => 0))), (q38, .inl (t 2, 16, .inr (.inl (fun _ => 0)))), (q39, .inl (t 1, 16, .inl (fun _ => 0))), (q40, .inl (t 1, 16, .inl (fun _ => 0))), (q41, .inl (t 2, 40, .inr (.inl (fun _ => 0)))), (q42, .inl (t 1, 40, .inl (fun _ => 0))), (q43, .inl (t 1, 40, .inl (fun _ => 0))), (q44, .inl (t 1, 40, .inl (fun _ => 0))), (q45, .inl (t 1, 40, .inl (fun _ => 0))), (q46, .inl (t 1, 40, .inl (fun _ => 0))), (q47, .inl (t 3, 40, .inl (fun _ => 0))), (q48, .inl (t 1, 40, .inl (fun _ => 0))), (q49, .inl (t 2, 40, .inr (.inl (fun _ => 0)))), (q50, .inl (t 3, 40, .inl (fun _ => 0))), (q51, .inl (t 1, 40, .inl (fun _ => 0))), (q52, .inl (t 1, 800, .inl (fun _ => 0))), (q53, .inl (t 1, 40, .inl (fun _ => 0))), (q54, .inl (t 0, 480, .inl (fun _ => 0))), (q55, .inl (t 1, 40, .inl (fun _ => 0))), (q56, .inl (t 2, 80, .inr (.inl (fun _ => 0)))), (q57, .inl (t 1, 80, .inl (fun _ => 0))), (q58, .inl (t 2, 80, .inr (.inl (fun _ => 0)))), (q59, .inl (t 2, 80, .inr (.inl (fun _ => 0))))] H := hP
  replace hD : va_D A [(h0, .inr (0, [.ref q0, .int 0, .long 0, .ref q1, .ref q2, .ref q3, .ref q4, .ref q5, .ref q6, .ref q7, .ref q8, .ref q9, .ref q10, .ref q11, .ref q12, .ref q13, .int 0, .ref q14, .ref q15, .ref q16, .ref q17, .ref q18, .ref q19, .ref q20, .ref q21, .ref q22, .ref q23, .ref q24, .ref q25, .ref q26, .ref q27, .ref q28, .ref q29, .ref q30, .ref q31, .ref q32, .ref q33, .ref q34, .ref q35, .ref q36, .ref q37, .ref q38, .ref q39, .ref q40, .ref q41, .ref q42, .ref q43, .ref q44, .ref q45, .ref q46, .ref q47, .ref q48, .ref q49, .ref q50, .ref q51, .ref q52, .ref q53, .ref q54, .ref q55, .long 0, .long 0, .long 0, .long 0, .int 0, .ref q56, .ref q57, .ref q58, .ref q59, .null, .int 0, .null, .null, .null, .null, .null, .null, .null, .null, .null, .null, .null, .null, .null, .null, .null, .null, .int 0, .int 0, .int 0, .null, .int 0, .int 0, .int 0, .int 0, .int 0, .int 0, .long 0, .long 0, .int 0, .int 0, .int 0, .long 0, .long 0, .int 0, .long 0, .long 0, .long 0, .long 0, .int 0, .int 0, .int 0, .long 0, .null, .null, .null, .int 0, .int 0, .int 0, .int 0, .int 0])), (q0, .inl (t 0, 8000, .inl (fun _ => 0))), (q1, .inl (t 3, 160, .inl (fun _ => 0))), (q2, .inl (t 1, 160, .inl (fun _ => 0))), (q3, .inl (t 3, 160, .inl (fun _ => 0))), (q4, .inl (t 0, 1920, .inl (fun _ => 0))), (q5, .inl (t 1, 160, .inl (fun _ => 0))), (q6, .inl (t 1, 160, .inl (fun _ => 0))), (q7, .inl (t 2, 640, .inr (.inl (fun _ => 0)))), (q8, .inl (t 1, 160, .inl (fun _ => 0))), (q9, .inl (t 0, 655360, .inl (fun _ => 0))), (q10, .inl (t 3, 80, .inl (fun _ => 0))), (q11, .inl (t 1, 4, .inl (fun _ => 0))), (q12, .inl (t 0, 48, .inl (fun _ => 0))), (q13, .inl (t 1, 4, .inl (fun _ => 0))), (q14, .inl (t 1, 9, .inl (fun _ => 0))), (q15, .inl (t 1, 9, .inl (fun _ => 0))), (q16, .inl (t 1, 9, .inl (fun _ => 0))), (q17, .inl (t 3, 9, .inl (fun _ => 0))), (q18, .inl (t 0, 108, .inl (fun _ => 0))), (q19, .inl (t 1, 9, .inl (fun _ => 0))), (q20, .inl (t 1, 9, .inl (fun _ => 0))), (q21, .inl (t 2, 36, .inr (.inl (fun _ => 0)))), (q22, .inl (t 1, 9, .inl (fun _ => 0))), (q23, .inl (t 1, 9, .inl (fun _ => 0))), (q24, .inl (t 0, 9216, .inl (fun _ => 0))), (q25, .inl (t 3, 6, .inl (fun _ => 0))), (q26, .inl (t 3, 6, .inl (fun _ => 0))), (q27, .inl (t 0, 96000, .inl (fun _ => 0))), (q28, .inl (t 1, 6, .inl (fun _ => 0))), (q29, .inl (t 0, 72600, .inl (fun _ => 0))), (q30, .inl (t 1, 6, .inl (fun _ => 0))), (q31, .inl (t 2, 96, .inr (.inl (fun _ => 0)))), (q32, .inl (t 1, 6, .inl (fun _ => 0))), (q33, .inl (t 2, 6, .inr (.inl (fun _ => 0)))), (q34, .inl (t 2, 8, .inr (.inl (fun _ => 0)))), (q35, .inl (t 1, 8, .inl (fun _ => 0))), (q36, .inl (t 0, 128, .inl (fun _ => 0))), (q37, .inl (t 1, 8, .inl (fun _ => 0))), (q38, .inl (t 2, 16, .inr (.inl (fun _ => 0)))), (q39, .inl (t 1, 16, .inl (fun _ => 0))), (q40, .inl (t 1, 16, .inl (fun _ => 0))), (q41, .inl (t 2, 40, .inr (.inl (fun _ => 0)))), (q42, .inl (t 1, 40, .inl (fun _ => 0))), (q43, .inl (t 1, 40, .inl (fun _ => 0))), (q44, .inl (t 1, 40, .inl (fun _ => 0))), (q45, .inl (t 1, 40, .inl (fun _ => 0))), (q46, .inl (t 1, 40, .inl (fun _ => 0))), (q47, .inl (t 3, 40, .inl (fun _ => 0))), (q48, .inl (t 1, 40, .inl (fun _ => 0))), (q49, .inl (t 2, 40, .inr (.inl (fun _ => 0)))), (q50, .inl (t 3, 40, .inl (fun _ => 0))), (q51, .inl (t 1, 40, .inl (fun _ => 0))), (q52, .inl (t 1, 800, .inl (fun _ => 0))), (q53, .inl (t 1, 40, .inl (fun _ => 0))), (q54, .inl (t 0, 480, .inl (fun _ => 0))), (q55, .inl (t 1, 40, .inl (fun _ => 0))), (q56, .inl (t 2, 80, .inr (.inl (fun _ => 0)))), (q57, .inl (t 1, 80, .inl (fun _ => 0))), (q58, .inl (t 2, 80, .inr (.inl (fun _ => 0)))), (q59, .inl (t 2, 80, .inr (.inl (fun _ => 0))))] := hD
  replace hlen : ([.ref q0, .int 0, .long 0, .ref q1, .ref q2, .ref q3, .ref q4, .ref q5, .ref q6, .ref q7, .ref q8, .ref q9, .ref q10, .ref q11, .ref q12, .ref q13, .int 0, .ref q14, .ref q15, .ref q16, .ref q17, .ref q18, .ref q19, .ref q20, .ref q21, .ref q22, .ref q23, .ref q24, .ref q25, .ref q26, .ref q27, .ref q28, .ref q29, .ref q30, .ref q31, .ref q32, .ref q33, .ref q34, .ref q35, .ref q36, .ref q37, .ref q38, .ref q39, .ref q40, .ref q41, .ref q42, .ref q43, .ref q44, .ref q45, .ref q46, .ref q47, .ref q48, .ref q49, .ref q50, .ref q51, .ref q52, .ref q53, .ref q54, .ref q55, .long 0, .long 0, .long 0, .long 0, .int 0, .ref q56, .ref q57, .ref q58, .ref q59, .null, .int 0, .null, .null, .null, .null, .null, .null, .null, .null, .null, .null, .null, .null, .null, .null, .null, .null, .int 0, .int 0, .int 0, .null, .int 0, .int 0, .int 0, .int 0, .int 0, .int 0, .long 0, .long 0, .int 0, .int 0, .int 0, .long 0, .long 0, .int 0, .long 0, .long 0, .long 0, .long 0, .int 0, .int 0, .int 0, .long 0, .null, .null, .null, .int 0, .int 0, .int 0, .int 0, .int 0] : List Value).length = 120 := rfl
  refine lv_aload_n hx hb dX12_init_495 rfl (lv_at hl 0 rfl) ?_
  refine lv_bipush (v := 80) hx hb dX12_init_496 (by decide) ?_
  refine r_mk (t0 := 3) (N' := 80) (a0 := (80, .inl (fun _ => 0))) hF hin dX12_init_498 dX12_init_500 fl_X12_196 (wb 505 rfl) rfl rfl id rfl rfl (fun _ => rfl) (fun _ => rfl) hlen hP hD hS hA (fun _ => rfl) (by decide) (by decide) (by decide) (by decide) (by decide) (fun q60 H locs hlen hP hD hS => ?_)
  refine lv_aload_n hx hb dX12_init_503 rfl (lv_at hl 0 rfl) ?_
  refine lv_bipush (v := 16) hx hb dX12_init_504 (by decide) ?_
  refine r_mk (t0 := 1) (N' := 16) (a0 := (16, .inl (fun _ => 0))) hF hin dX12_init_506 dX12_init_508 fl_X12_199 (wb 39 rfl) rfl rfl id rfl rfl (fun _ => rfl) (fun _ => rfl) hlen hP hD hS hA (fun _ => rfl) (by decide) (by decide) (by decide) (by decide) (by decide) (fun q61 H locs hlen hP hD hS => ?_)
  refine lv_aload_n hx hb dX12_init_511 rfl (lv_at hl 0 rfl) ?_
  refine lv_bipush (v := 16) hx hb dX12_init_512 (by decide) ?_
  refine r_mk (t0 := 1) (N' := 16) (a0 := (16, .inl (fun _ => 0))) hF hin dX12_init_514 dX12_init_516 fl_X12_202 (wb 39 rfl) rfl rfl id rfl rfl (fun _ => rfl) (fun _ => rfl) hlen hP hD hS hA (fun _ => rfl) (by decide) (by decide) (by decide) (by decide) (by decide) (fun q62 H locs hlen hP hD hS => ?_)
  refine lv_aload_n hx hb dX12_init_519 rfl (lv_at hl 0 rfl) ?_
  refine lv_bipush (v := 16) hx hb dX12_init_520 (by decide) ?_
  refine r_mk (t0 := 1) (N' := 16) (a0 := (16, .inl (fun _ => 0))) hF hin dX12_init_522 dX12_init_524 fl_X12_205 (wb 39 rfl) rfl rfl id rfl rfl (fun _ => rfl) (fun _ => rfl) hlen hP hD hS hA (fun _ => rfl) (by decide) (by decide) (by decide) (by decide) (by decide) (fun q63 H locs hlen hP hD hS => ?_)
  replace hP : va_P D cl1 [(h0, .inr (0, [.ref q0, .int 0, .long 0, .ref q1, .ref q2, .ref q3, .ref q4, .ref q5, .ref q6, .ref q7, .ref q8, .ref q9, .ref q10, .ref q11, .ref q12, .ref q13, .int 0, .ref q14, .ref q15, .ref q16, .ref q17, .ref q18, .ref q19, .ref q20, .ref q21, .ref q22, .ref q23, .ref q24, .ref q25, .ref q26, .ref q27, .ref q28, .ref q29, .ref q30, .ref q31, .ref q32, .ref q33, .ref q34, .ref q35, .ref q36, .ref q37, .ref q38, .ref q39, .ref q40, .ref q41, .ref q42, .ref q43, .ref q44, .ref q45, .ref q46, .ref q47, .ref q48, .ref q49, .ref q50, .ref q51, .ref q52, .ref q53, .ref q54, .ref q55, .long 0, .long 0, .long 0, .long 0, .int 0, .ref q56, .ref q57, .ref q58, .ref q59, .ref q60, .int 0, .ref q61, .ref q62, .ref q63, .null, .null, .null, .null, .null, .null, .null, .null, .null, .null, .null, .null, .null, .int 0, .int 0, .int 0, .null, .int 0, .int 0, .int 0, .int 0, .int 0, .int 0, .long 0, .long 0, .int 0, .int 0, .int 0, .long 0, .long 0, .int 0, .long 0, .long 0, .long 0, .long 0, .int 0, .int 0, .int 0, .long 0, .null, .null, .null, .int 0, .int 0, .int 0, .int 0, .int 0])), (q0, .inl (t 0, 8000, .inl (fun _ => 0))), (q1, .inl (t 3, 160, .inl (fun _ => 0))), (q2, .inl (t 1, 160, .inl (fun _ => 0))), (q3, .inl (t 3, 160, .inl (fun _ => 0))), (q4, .inl (t 0, 1920, .inl (fun _ => 0))), (q5, .inl (t 1, 160, .inl (fun _ => 0))), (q6, .inl (t 1, 160, .inl (fun _ => 0))), (q7, .inl (t 2, 640, .inr (.inl (fun _ => 0)))), (q8, .inl (t 1, 160, .inl (fun _ => 0))), (q9, .inl (t 0, 655360, .inl (fun _ => 0))), (q10, .inl (t 3, 80, .inl (fun _ => 0))), (q11, .inl (t 1, 4, .inl (fun _ => 0))), (q12, .inl (t 0, 48, .inl (fun _ => 0))), (q13, .inl (t 1, 4, .inl (fun _ => 0))), (q14, .inl (t 1, 9, .inl (fun _ => 0))), (q15, .inl (t 1, 9, .inl (fun _ => 0))), (q16, .inl (t 1, 9, .inl (fun _ => 0))), (q17, .inl (t 3, 9, .inl (fun _ => 0))), (q18, .inl (t 0, 108, .inl (fun _ => 0))), (q19, .inl (t 1, 9, .inl (fun _ => 0))), (q20, .inl (t 1, 9, .inl (fun _ => 0))), (q21, .inl (t 2, 36, .inr (.inl (fun _ => 0)))), (q22, .inl (t 1, 9, .inl (fun _ => 0))), (q23, .inl (t 1, 9, .inl (fun _ => 0))), (q24, .inl (t 0, 9216, .inl (fun _ => 0))), (q25, .inl (t 3, 6, .inl (fun _ => 0))), (q26, .inl (t 3, 6, .inl (fun _ => 0))), (q27, .inl (t 0, 96000, .inl (fun _ => 0))), (q28, .inl (t 1, 6, .inl (fun _ => 0))), (q29, .inl (t 0, 72600, .inl (fun _ => 0))), (q30, .inl (t 1, 6, .inl (fun _ => 0))), (q31, .inl (t 2, 96, .inr (.inl (fun _ => 0)))), (q32, .inl (t 1, 6, .inl (fun _ => 0))), (q33, .inl (t 2, 6, .inr (.inl (fun _ => 0)))), (q34, .inl (t 2, 8, .inr (.inl (fun _ => 0)))), (q35, .inl (t 1, 8, .inl (fun _ => 0))), (q36, .inl (t 0, 128, .inl (fun _ => 0))), (q37, .inl (t 1, 8, .inl (fun _ => 0))), (q38, .inl (t 2, 16, .inr (.inl (fun _ => 0)))), (q39, .inl (t 1, 16, .inl (fun _ => 0))), (q40, .inl (t 1, 16, .inl (fun _ => 0))), (q41, .inl (t 2, 40, .inr (.inl (fun _ => 0)))), (q42, .inl (t 1, 40, .inl (fun _ => 0))), (q43, .inl (t 1, 40, .inl (fun _ => 0))), (q44, .inl (t 1, 40, .inl (fun _ => 0))), (q45, .inl (t 1, 40, .inl (fun _ => 0))), (q46, .inl (t 1, 40, .inl (fun _ => 0))), (q47, .inl (t 3, 40, .inl (fun _ => 0))), (q48, .inl (t 1, 40, .inl (fun _ => 0))), (q49, .inl (t 2, 40, .inr (.inl (fun _ => 0)))), (q50, .inl (t 3, 40, .inl (fun _ => 0))), (q51, .inl (t 1, 40, .inl (fun _ => 0))), (q52, .inl (t 1, 800, .inl (fun _ => 0))), (q53, .inl (t 1, 40, .inl (fun _ => 0))), (q54, .inl (t 0, 480, .inl (fun _ => 0))), (q55, .inl (t 1, 40, .inl (fun _ => 0))), (q56, .inl (t 2, 80, .inr (.inl (fun _ => 0)))), (q57, .inl (t 1, 80, .inl (fun _ => 0))), (q58, .inl (t 2, 80, .inr (.inl (fun _ => 0)))), (q59, .inl (t 2, 80, .inr (.inl (fun _ => 0)))), (q60, .inl (t 3, 80, .inl (fun _ => 0))), (q61, .inl (t 1, 16, .inl (fun _ => 0))), (q62, .inl (t 1, 16, .inl (fun _ => 0))), (q63, .inl (t 1, 16, .inl (fun _ => 0)))] H := hP
  replace hD : va_D A [(h0, .inr (0, [.ref q0, .int 0, .long 0, .ref q1, .ref q2, .ref q3, .ref q4, .ref q5, .ref q6, .ref q7, .ref q8, .ref q9, .ref q10, .ref q11, .ref q12, .ref q13, .int 0, .ref q14, .ref q15, .ref q16, .ref q17, .ref q18, .ref q19, .ref q20, .ref q21, .ref q22, .ref q23, .ref q24, .ref q25, .ref q26, .ref q27, .ref q28, .ref q29, .ref q30, .ref q31, .ref q32, .ref q33, .ref q34, .ref q35, .ref q36, .ref q37, .ref q38, .ref q39, .ref q40, .ref q41, .ref q42, .ref q43, .ref q44, .ref q45, .ref q46, .ref q47, .ref q48, .ref q49, .ref q50, .ref q51, .ref q52, .ref q53, .ref q54, .ref q55, .long 0, .long 0, .long 0, .long 0, .int 0, .ref q56, .ref q57, .ref q58, .ref q59, .ref q60, .int 0, .ref q61, .ref q62, .ref q63, .null, .null, .null, .null, .null, .null, .null, .null, .null, .null, .null, .null, .null, .int 0, .int 0, .int 0, .null, .int 0, .int 0, .int 0, .int 0, .int 0, .int 0, .long 0, .long 0, .int 0, .int 0, .int 0, .long 0, .long 0, .int 0, .long 0, .long 0, .long 0, .long 0, .int 0, .int 0, .int 0, .long 0, .null, .null, .null, .int 0, .int 0, .int 0, .int 0, .int 0])), (q0, .inl (t 0, 8000, .inl (fun _ => 0))), (q1, .inl (t 3, 160, .inl (fun _ => 0))), (q2, .inl (t 1, 160, .inl (fun _ => 0))), (q3, .inl (t 3, 160, .inl (fun _ => 0))), (q4, .inl (t 0, 1920, .inl (fun _ => 0))), (q5, .inl (t 1, 160, .inl (fun _ => 0))), (q6, .inl (t 1, 160, .inl (fun _ => 0))), (q7, .inl (t 2, 640, .inr (.inl (fun _ => 0)))), (q8, .inl (t 1, 160, .inl (fun _ => 0))), (q9, .inl (t 0, 655360, .inl (fun _ => 0))), (q10, .inl (t 3, 80, .inl (fun _ => 0))), (q11, .inl (t 1, 4, .inl (fun _ => 0))), (q12, .inl (t 0, 48, .inl (fun _ => 0))), (q13, .inl (t 1, 4, .inl (fun _ => 0))), (q14, .inl (t 1, 9, .inl (fun _ => 0))), (q15, .inl (t 1, 9, .inl (fun _ => 0))), (q16, .inl (t 1, 9, .inl (fun _ => 0))), (q17, .inl (t 3, 9, .inl (fun _ => 0))), (q18, .inl (t 0, 108, .inl (fun _ => 0))), (q19, .inl (t 1, 9, .inl (fun _ => 0))), (q20, .inl (t 1, 9, .inl (fun _ => 0))), (q21, .inl (t 2, 36, .inr (.inl (fun _ => 0)))), (q22, .inl (t 1, 9, .inl (fun _ => 0))), (q23, .inl (t 1, 9, .inl (fun _ => 0))), (q24, .inl (t 0, 9216, .inl (fun _ => 0))), (q25, .inl (t 3, 6, .inl (fun _ => 0))), (q26, .inl (t 3, 6, .inl (fun _ => 0))), (q27, .inl (t 0, 96000, .inl (fun _ => 0))), (q28, .inl (t 1, 6, .inl (fun _ => 0))), (q29, .inl (t 0, 72600, .inl (fun _ => 0))), (q30, .inl (t 1, 6, .inl (fun _ => 0))), (q31, .inl (t 2, 96, .inr (.inl (fun _ => 0)))), (q32, .inl (t 1, 6, .inl (fun _ => 0))), (q33, .inl (t 2, 6, .inr (.inl (fun _ => 0)))), (q34, .inl (t 2, 8, .inr (.inl (fun _ => 0)))), (q35, .inl (t 1, 8, .inl (fun _ => 0))), (q36, .inl (t 0, 128, .inl (fun _ => 0))), (q37, .inl (t 1, 8, .inl (fun _ => 0))), (q38, .inl (t 2, 16, .inr (.inl (fun _ => 0)))), (q39, .inl (t 1, 16, .inl (fun _ => 0))), (q40, .inl (t 1, 16, .inl (fun _ => 0))), (q41, .inl (t 2, 40, .inr (.inl (fun _ => 0)))), (q42, .inl (t 1, 40, .inl (fun _ => 0))), (q43, .inl (t 1, 40, .inl (fun _ => 0))), (q44, .inl (t 1, 40, .inl (fun _ => 0))), (q45, .inl (t 1, 40, .inl (fun _ => 0))), (q46, .inl (t 1, 40, .inl (fun _ => 0))), (q47, .inl (t 3, 40, .inl (fun _ => 0))), (q48, .inl (t 1, 40, .inl (fun _ => 0))), (q49, .inl (t 2, 40, .inr (.inl (fun _ => 0)))), (q50, .inl (t 3, 40, .inl (fun _ => 0))), (q51, .inl (t 1, 40, .inl (fun _ => 0))), (q52, .inl (t 1, 800, .inl (fun _ => 0))), (q53, .inl (t 1, 40, .inl (fun _ => 0))), (q54, .inl (t 0, 480, .inl (fun _ => 0))), (q55, .inl (t 1, 40, .inl (fun _ => 0))), (q56, .inl (t 2, 80, .inr (.inl (fun _ => 0)))), (q57, .inl (t 1, 80, .inl (fun _ => 0))), (q58, .inl (t 2, 80, .inr (.inl (fun _ => 0)))), (q59, .inl (t 2, 80, .inr (.inl (fun _ => 0)))), (q60, .inl (t 3, 80, .inl (fun _ => 0))), (q61, .inl (t 1, 16, .inl (fun _ => 0))), (q62, .inl (t 1, 16, .inl (fun _ => 0))), (q63, .inl (t 1, 16, .inl (fun _ => 0)))] := hD
  replace hlen : ([.ref q0, .int 0, .long 0, .ref q1, .ref q2, .ref q3, .ref q4, .ref q5, .ref q6, .ref q7, .ref q8, .ref q9, .ref q10, .ref q11, .ref q12, .ref q13, .int 0, .ref q14, .ref q15, .ref q16, .ref q17, .ref q18, .ref q19, .ref q20, .ref q21, .ref q22, .ref q23, .ref q24, .ref q25, .ref q26, .ref q27, .ref q28, .ref q29, .ref q30, .ref q31, .ref q32, .ref q33, .ref q34, .ref q35, .ref q36, .ref q37, .ref q38, .ref q39, .ref q40, .ref q41, .ref q42, .ref q43, .ref q44, .ref q45, .ref q46, .ref q47, .ref q48, .ref q49, .ref q50, .ref q51, .ref q52, .ref q53, .ref q54, .ref q55, .long 0, .long 0, .long 0, .long 0, .int 0, .ref q56, .ref q57, .ref q58, .ref q59, .ref q60, .int 0, .ref q61, .ref q62, .ref q63, .null, .null, .null, .null, .null, .null, .null, .null, .null, .null, .null, .null, .null, .int 0, .int 0, .int 0, .null, .int 0, .int 0, .int 0, .int 0, .int 0, .int 0, .long 0, .long 0, .int 0, .int 0, .int 0, .long 0, .long 0, .int 0, .long 0, .long 0, .long 0, .long 0, .int 0, .int 0, .int 0, .long 0, .null, .null, .null, .int 0, .int 0, .int 0, .int 0, .int 0] : List Value).length = 120 := rfl
  refine lv_aload_n hx hb dX12_init_527 rfl (lv_at hl 0 rfl) ?_
  refine lv_bipush (v := 16) hx hb dX12_init_528 (by decide) ?_
  refine r_mk (t0 := 3) (N' := 16) (a0 := (16, .inl (fun _ => 0))) hF hin dX12_init_530 dX12_init_532 fl_X12_208 (wb 505 rfl) rfl rfl id rfl rfl (fun _ => rfl) (fun _ => rfl) hlen hP hD hS hA (fun _ => rfl) (by decide) (by decide) (by decide) (by decide) (by decide) (fun q64 H locs hlen hP hD hS => ?_)
  refine lv_aload_n hx hb dX12_init_535 rfl (lv_at hl 0 rfl) ?_
  refine lv_bipush (v := 16) hx hb dX12_init_536 (by decide) ?_
  refine r_mk (t0 := 2) (N' := 16) (a0 := (16, .inr (.inl (fun _ => 0)))) hF hin dX12_init_538 dX12_init_540 fl_X12_211 (wb 138 rfl) rfl rfl id rfl rfl (fun _ => rfl) (fun _ => rfl) hlen hP hD hS hA (fun _ => rfl) (by decide) (by decide) (by decide) (by decide) (by decide) (fun q65 H locs hlen hP hD hS => ?_)
  refine lv_aload_n hx hb dX12_init_543 rfl (lv_at hl 0 rfl) ?_
  refine lv_bipush (v := 16) hx hb dX12_init_544 (by decide) ?_
  refine r_mk (t0 := 2) (N' := 16) (a0 := (16, .inr (.inl (fun _ => 0)))) hF hin dX12_init_546 dX12_init_548 fl_X12_214 (wb 138 rfl) rfl rfl id rfl rfl (fun _ => rfl) (fun _ => rfl) hlen hP hD hS hA (fun _ => rfl) (by decide) (by decide) (by decide) (by decide) (by decide) (fun q66 H locs hlen hP hD hS => ?_)
  refine lv_aload_n hx hb dX12_init_551 rfl (lv_at hl 0 rfl) ?_
  refine lv_bipush (v := 16) hx hb dX12_init_552 (by decide) ?_
  refine r_mk (t0 := 1) (N' := 16) (a0 := (16, .inl (fun _ => 0))) hF hin dX12_init_554 dX12_init_556 fl_X12_217 (wb 39 rfl) rfl rfl id rfl rfl (fun _ => rfl) (fun _ => rfl) hlen hP hD hS hA (fun _ => rfl) (by decide) (by decide) (by decide) (by decide) (by decide) (fun q67 H locs hlen hP hD hS => ?_)
  replace hP : va_P D cl1 [(h0, .inr (0, [.ref q0, .int 0, .long 0, .ref q1, .ref q2, .ref q3, .ref q4, .ref q5, .ref q6, .ref q7, .ref q8, .ref q9, .ref q10, .ref q11, .ref q12, .ref q13, .int 0, .ref q14, .ref q15, .ref q16, .ref q17, .ref q18, .ref q19, .ref q20, .ref q21, .ref q22, .ref q23, .ref q24, .ref q25, .ref q26, .ref q27, .ref q28, .ref q29, .ref q30, .ref q31, .ref q32, .ref q33, .ref q34, .ref q35, .ref q36, .ref q37, .ref q38, .ref q39, .ref q40, .ref q41, .ref q42, .ref q43, .ref q44, .ref q45, .ref q46, .ref q47, .ref q48, .ref q49, .ref q50, .ref q51, .ref q52, .ref q53, .ref q54, .ref q55, .long 0, .long 0, .long 0, .long 0, .int 0, .ref q56, .ref q57, .ref q58, .ref q59, .ref q60, .int 0, .ref q61, .ref q62, .ref q63, .ref q64, .ref q65, .ref q66, .ref q67, .null, .null, .null, .null, .null, .null, .null, .null, .null, .int 0, .int 0, .int 0, .null, .int 0, .int 0, .int 0, .int 0, .int 0, .int 0, .long 0, .long 0, .int 0, .int 0, .int 0, .long 0, .long 0, .int 0, .long 0, .long 0, .long 0, .long 0, .int 0, .int 0, .int 0, .long 0, .null, .null, .null, .int 0, .int 0, .int 0, .int 0, .int 0])), (q0, .inl (t 0, 8000, .inl (fun _ => 0))), (q1, .inl (t 3, 160, .inl (fun _ => 0))), (q2, .inl (t 1, 160, .inl (fun _ => 0))), (q3, .inl (t 3, 160, .inl (fun _ => 0))), (q4, .inl (t 0, 1920, .inl (fun _ => 0))), (q5, .inl (t 1, 160, .inl (fun _ => 0))), (q6, .inl (t 1, 160, .inl (fun _ => 0))), (q7, .inl (t 2, 640, .inr (.inl (fun _ => 0)))), (q8, .inl (t 1, 160, .inl (fun _ => 0))), (q9, .inl (t 0, 655360, .inl (fun _ => 0))), (q10, .inl (t 3, 80, .inl (fun _ => 0))), (q11, .inl (t 1, 4, .inl (fun _ => 0))), (q12, .inl (t 0, 48, .inl (fun _ => 0))), (q13, .inl (t 1, 4, .inl (fun _ => 0))), (q14, .inl (t 1, 9, .inl (fun _ => 0))), (q15, .inl (t 1, 9, .inl (fun _ => 0))), (q16, .inl (t 1, 9, .inl (fun _ => 0))), (q17, .inl (t 3, 9, .inl (fun _ => 0))), (q18, .inl (t 0, 108, .inl (fun _ => 0))), (q19, .inl (t 1, 9, .inl (fun _ => 0))), (q20, .inl (t 1, 9, .inl (fun _ => 0))), (q21, .inl (t 2, 36, .inr (.inl (fun _ => 0)))), (q22, .inl (t 1, 9, .inl (fun _ => 0))), (q23, .inl (t 1, 9, .inl (fun _ => 0))), (q24, .inl (t 0, 9216, .inl (fun _ => 0))), (q25, .inl (t 3, 6, .inl (fun _ => 0))), (q26, .inl (t 3, 6, .inl (fun _ => 0))), (q27, .inl (t 0, 96000, .inl (fun _ => 0))), (q28, .inl (t 1, 6, .inl (fun _ => 0))), (q29, .inl (t 0, 72600, .inl (fun _ => 0))), (q30, .inl (t 1, 6, .inl (fun _ => 0))), (q31, .inl (t 2, 96, .inr (.inl (fun _ => 0)))), (q32, .inl (t 1, 6, .inl (fun _ => 0))), (q33, .inl (t 2, 6, .inr (.inl (fun _ => 0)))), (q34, .inl (t 2, 8, .inr (.inl (fun _ => 0)))), (q35, .inl (t 1, 8, .inl (fun _ => 0))), (q36, .inl (t 0, 128, .inl (fun _ => 0))), (q37, .inl (t 1, 8, .inl (fun _ => 0))), (q38, .inl (t 2, 16, .inr (.inl (fun _ => 0)))), (q39, .inl (t 1, 16, .inl (fun _ => 0))), (q40, .inl (t 1, 16, .inl (fun _ => 0))), (q41, .inl (t 2, 40, .inr (.inl (fun _ => 0)))), (q42, .inl (t 1, 40, .inl (fun _ => 0))), (q43, .inl (t 1, 40, .inl (fun _ => 0))), (q44, .inl (t 1, 40, .inl (fun _ => 0))), (q45, .inl (t 1, 40, .inl (fun _ => 0))), (q46, .inl (t 1, 40, .inl (fun _ => 0))), (q47, .inl (t 3, 40, .inl (fun _ => 0))), (q48, .inl (t 1, 40, .inl (fun _ => 0))), (q49, .inl (t 2, 40, .inr (.inl (fun _ => 0)))), (q50, .inl (t 3, 40, .inl (fun _ => 0))), (q51, .inl (t 1, 40, .inl (fun _ => 0))), (q52, .inl (t 1, 800, .inl (fun _ => 0))), (q53, .inl (t 1, 40, .inl (fun _ => 0))), (q54, .inl (t 0, 480, .inl (fun _ => 0))), (q55, .inl (t 1, 40, .inl (fun _ => 0))), (q56, .inl (t 2, 80, .inr (.inl (fun _ => 0)))), (q57, .inl (t 1, 80, .inl (fun _ => 0))), (q58, .inl (t 2, 80, .inr (.inl (fun _ => 0)))), (q59, .inl (t 2, 80, .inr (.inl (fun _ => 0)))), (q60, .inl (t 3, 80, .inl (fun _ => 0))), (q61, .inl (t 1, 16, .inl (fun _ => 0))), (q62, .inl (t 1, 16, .inl (fun _ => 0))), (q63, .inl (t 1, 16, .inl (fun _ => 0))), (q64, .inl (t 3, 16, .inl (fun _ => 0))), (q65, .inl (t 2, 16, .inr (.inl (fun _ => 0)))), (q66, .inl (t 2, 16, .inr (.inl (fun _ => 0)))), (q67, .inl (t 1, 16, .inl (fun _ => 0)))] H := hP
  replace hD : va_D A [(h0, .inr (0, [.ref q0, .int 0, .long 0, .ref q1, .ref q2, .ref q3, .ref q4, .ref q5, .ref q6, .ref q7, .ref q8, .ref q9, .ref q10, .ref q11, .ref q12, .ref q13, .int 0, .ref q14, .ref q15, .ref q16, .ref q17, .ref q18, .ref q19, .ref q20, .ref q21, .ref q22, .ref q23, .ref q24, .ref q25, .ref q26, .ref q27, .ref q28, .ref q29, .ref q30, .ref q31, .ref q32, .ref q33, .ref q34, .ref q35, .ref q36, .ref q37, .ref q38, .ref q39, .ref q40, .ref q41, .ref q42, .ref q43, .ref q44, .ref q45, .ref q46, .ref q47, .ref q48, .ref q49, .ref q50, .ref q51, .ref q52, .ref q53, .ref q54, .ref q55, .long 0, .long 0, .long 0, .long 0, .int 0, .ref q56, .ref q57, .ref q58, .ref q59, .ref q60, .int 0, .ref q61, .ref q62, .ref q63, .ref q64, .ref q65, .ref q66, .ref q67, .null, .null, .null, .null, .null, .null, .null, .null, .null, .int 0, .int 0, .int 0, .null, .int 0, .int 0, .int 0, .int 0, .int 0, .int 0, .long 0, .long 0, .int 0, .int 0, .int 0, .long 0, .long 0, .int 0, .long 0, .long 0, .long 0, .long 0, .int 0, .int 0, .int 0, .long 0, .null, .null, .null, .int 0, .int 0, .int 0, .int 0, .int 0])), (q0, .inl (t 0, 8000, .inl (fun _ => 0))), (q1, .inl (t 3, 160, .inl (fun _ => 0))), (q2, .inl (t 1, 160, .inl (fun _ => 0))), (q3, .inl (t 3, 160, .inl (fun _ => 0))), (q4, .inl (t 0, 1920, .inl (fun _ => 0))), (q5, .inl (t 1, 160, .inl (fun _ => 0))), (q6, .inl (t 1, 160, .inl (fun _ => 0))), (q7, .inl (t 2, 640, .inr (.inl (fun _ => 0)))), (q8, .inl (t 1, 160, .inl (fun _ => 0))), (q9, .inl (t 0, 655360, .inl (fun _ => 0))), (q10, .inl (t 3, 80, .inl (fun _ => 0))), (q11, .inl (t 1, 4, .inl (fun _ => 0))), (q12, .inl (t 0, 48, .inl (fun _ => 0))), (q13, .inl (t 1, 4, .inl (fun _ => 0))), (q14, .inl (t 1, 9, .inl (fun _ => 0))), (q15, .inl (t 1, 9, .inl (fun _ => 0))), (q16, .inl (t 1, 9, .inl (fun _ => 0))), (q17, .inl (t 3, 9, .inl (fun _ => 0))), (q18, .inl (t 0, 108, .inl (fun _ => 0))), (q19, .inl (t 1, 9, .inl (fun _ => 0))), (q20, .inl (t 1, 9, .inl (fun _ => 0))), (q21, .inl (t 2, 36, .inr (.inl (fun _ => 0)))), (q22, .inl (t 1, 9, .inl (fun _ => 0))), (q23, .inl (t 1, 9, .inl (fun _ => 0))), (q24, .inl (t 0, 9216, .inl (fun _ => 0))), (q25, .inl (t 3, 6, .inl (fun _ => 0))), (q26, .inl (t 3, 6, .inl (fun _ => 0))), (q27, .inl (t 0, 96000, .inl (fun _ => 0))), (q28, .inl (t 1, 6, .inl (fun _ => 0))), (q29, .inl (t 0, 72600, .inl (fun _ => 0))), (q30, .inl (t 1, 6, .inl (fun _ => 0))), (q31, .inl (t 2, 96, .inr (.inl (fun _ => 0)))), (q32, .inl (t 1, 6, .inl (fun _ => 0))), (q33, .inl (t 2, 6, .inr (.inl (fun _ => 0)))), (q34, .inl (t 2, 8, .inr (.inl (fun _ => 0)))), (q35, .inl (t 1, 8, .inl (fun _ => 0))), (q36, .inl (t 0, 128, .inl (fun _ => 0))), (q37, .inl (t 1, 8, .inl (fun _ => 0))), (q38, .inl (t 2, 16, .inr (.inl (fun _ => 0)))), (q39, .inl (t 1, 16, .inl (fun _ => 0))), (q40, .inl (t 1, 16, .inl (fun _ => 0))), (q41, .inl (t 2, 40, .inr (.inl (fun _ => 0)))), (q42, .inl (t 1, 40, .inl (fun _ => 0))), (q43, .inl (t 1, 40, .inl (fun _ => 0))), (q44, .inl (t 1, 40, .inl (fun _ => 0))), (q45, .inl (t 1, 40, .inl (fun _ => 0))), (q46, .inl (t 1, 40, .inl (fun _ => 0))), (q47, .inl (t 3, 40, .inl (fun _ => 0))), (q48, .inl (t 1, 40, .inl (fun _ => 0))), (q49, .inl (t 2, 40, .inr (.inl (fun _ => 0)))), (q50, .inl (t 3, 40, .inl (fun _ => 0))), (q51, .inl (t 1, 40, .inl (fun _ => 0))), (q52, .inl (t 1, 800, .inl (fun _ => 0))), (q53, .inl (t 1, 40, .inl (fun _ => 0))), (q54, .inl (t 0, 480, .inl (fun _ => 0))), (q55, .inl (t 1, 40, .inl (fun _ => 0))), (q56, .inl (t 2, 80, .inr (.inl (fun _ => 0)))), (q57, .inl (t 1, 80, .inl (fun _ => 0))), (q58, .inl (t 2, 80, .inr (.inl (fun _ => 0)))), (q59, .inl (t 2, 80, .inr (.inl (fun _ => 0)))), (q60, .inl (t 3, 80, .inl (fun _ => 0))), (q61, .inl (t 1, 16, .inl (fun _ => 0))), (q62, .inl (t 1, 16, .inl (fun _ => 0))), (q63, .inl (t 1, 16, .inl (fun _ => 0))), (q64, .inl (t 3, 16, .inl (fun _ => 0))), (q65, .inl (t 2, 16, .inr (.inl (fun _ => 0)))), (q66, .inl (t 2, 16, .inr (.inl (fun _ => 0)))), (q67, .inl (t 1, 16, .inl (fun _ => 0)))] := hD
  replace hlen : ([.ref q0, .int 0, .long 0, .ref q1, .ref q2, .ref q3, .ref q4, .ref q5, .ref q6, .ref q7, .ref q8, .ref q9, .ref q10, .ref q11, .ref q12, .ref q13, .int 0, .ref q14, .ref q15, .ref q16, .ref q17, .ref q18, .ref q19, .ref q20, .ref q21, .ref q22, .ref q23, .ref q24, .ref q25, .ref q26, .ref q27, .ref q28, .ref q29, .ref q30, .ref q31, .ref q32, .ref q33, .ref q34, .ref q35, .ref q36, .ref q37, .ref q38, .ref q39, .ref q40, .ref q41, .ref q42, .ref q43, .ref q44, .ref q45, .ref q46, .ref q47, .ref q48, .ref q49, .ref q50, .ref q51, .ref q52, .ref q53, .ref q54, .ref q55, .long 0, .long 0, .long 0, .long 0, .int 0, .ref q56, .ref q57, .ref q58, .ref q59, .ref q60, .int 0, .ref q61, .ref q62, .ref q63, .ref q64, .ref q65, .ref q66, .ref q67, .null, .null, .null, .null, .null, .null, .null, .null, .null, .int 0, .int 0, .int 0, .null, .int 0, .int 0, .int 0, .int 0, .int 0, .int 0, .long 0, .long 0, .int 0, .int 0, .int 0, .long 0, .long 0, .int 0, .long 0, .long 0, .long 0, .long 0, .int 0, .int 0, .int 0, .long 0, .null, .null, .null, .int 0, .int 0, .int 0, .int 0, .int 0] : List Value).length = 120 := rfl
  refine lv_aload_n hx hb dX12_init_559 rfl (lv_at hl 0 rfl) ?_
  refine lv_bipush (v := 16) hx hb dX12_init_560 (by decide) ?_
  refine r_mk (t0 := 1) (N' := 16) (a0 := (16, .inl (fun _ => 0))) hF hin dX12_init_562 dX12_init_564 fl_X12_220 (wb 39 rfl) rfl rfl id rfl rfl (fun _ => rfl) (fun _ => rfl) hlen hP hD hS hA (fun _ => rfl) (by decide) (by decide) (by decide) (by decide) (by decide) (fun q68 H locs hlen hP hD hS => ?_)
  refine lv_aload_n hx hb dX12_init_567 rfl (lv_at hl 0 rfl) ?_
  refine lv_bipush (v := 16) hx hb dX12_init_568 (by decide) ?_
  refine r_mk (t0 := 2) (N' := 16) (a0 := (16, .inr (.inl (fun _ => 0)))) hF hin dX12_init_570 dX12_init_572 fl_X12_223 (wb 138 rfl) rfl rfl id rfl rfl (fun _ => rfl) (fun _ => rfl) hlen hP hD hS hA (fun _ => rfl) (by decide) (by decide) (by decide) (by decide) (by decide) (fun q69 H locs hlen hP hD hS => ?_)
  refine lv_aload_n hx hb dX12_init_575 rfl (lv_at hl 0 rfl) ?_
  refine lv_bipush (v := 16) hx hb dX12_init_576 (by decide) ?_
  refine r_mk (t0 := 1) (N' := 16) (a0 := (16, .inl (fun _ => 0))) hF hin dX12_init_578 dX12_init_580 fl_X12_226 (wb 39 rfl) rfl rfl id rfl rfl (fun _ => rfl) (fun _ => rfl) hlen hP hD hS hA (fun _ => rfl) (by decide) (by decide) (by decide) (by decide) (by decide) (fun q70 H locs hlen hP hD hS => ?_)
  refine lv_aload_n hx hb dX12_init_583 rfl (lv_at hl 0 rfl) ?_
  refine lv_bipush (v := 16) hx hb dX12_init_584 (by decide) ?_
  refine r_mk (t0 := 2) (N' := 16) (a0 := (16, .inr (.inl (fun _ => 0)))) hF hin dX12_init_586 dX12_init_588 fl_X12_229 (wb 138 rfl) rfl rfl id rfl rfl (fun _ => rfl) (fun _ => rfl) hlen hP hD hS hA (fun _ => rfl) (by decide) (by decide) (by decide) (by decide) (by decide) (fun q71 H locs hlen hP hD hS => ?_)
  replace hP : va_P D cl1 [(h0, .inr (0, [.ref q0, .int 0, .long 0, .ref q1, .ref q2, .ref q3, .ref q4, .ref q5, .ref q6, .ref q7, .ref q8, .ref q9, .ref q10, .ref q11, .ref q12, .ref q13, .int 0, .ref q14, .ref q15, .ref q16, .ref q17, .ref q18, .ref q19, .ref q20, .ref q21, .ref q22, .ref q23, .ref q24, .ref q25, .ref q26, .ref q27, .ref q28, .ref q29, .ref q30, .ref q31, .ref q32, .ref q33, .ref q34, .ref q35, .ref q36, .ref q37, .ref q38, .ref q39, .ref q40, .ref q41, .ref q42, .ref q43, .ref q44, .ref q45, .ref q46, .ref q47, .ref q48, .ref q49, .ref q50, .ref q51, .ref q52, .ref q53, .ref q54, .ref q55, .long 0, .long 0, .long 0, .long 0, .int 0, .ref q56, .ref q57, .ref q58, .ref q59, .ref q60, .int 0, .ref q61, .ref q62, .ref q63, .ref q64, .ref q65, .ref q66, .ref q67, .ref q68, .ref q69, .ref q70, .ref q71, .null, .null, .null, .null, .null, .int 0, .int 0, .int 0, .null, .int 0, .int 0, .int 0, .int 0, .int 0, .int 0, .long 0, .long 0, .int 0, .int 0, .int 0, .long 0, .long 0, .int 0, .long 0, .long 0, .long 0, .long 0, .int 0, .int 0, .int 0, .long 0, .null, .null, .null, .int 0, .int 0, .int 0, .int 0, .int 0])), (q0, .inl (t 0, 8000, .inl (fun _ => 0))), (q1, .inl (t 3, 160, .inl (fun _ => 0))), (q2, .inl (t 1, 160, .inl (fun _ => 0))), (q3, .inl (t 3, 160, .inl (fun _ => 0))), (q4, .inl (t 0, 1920, .inl (fun _ => 0))), (q5, .inl (t 1, 160, .inl (fun _ => 0))), (q6, .inl (t 1, 160, .inl (fun _ => 0))), (q7, .inl (t 2, 640, .inr (.inl (fun _ => 0)))), (q8, .inl (t 1, 160, .inl (fun _ => 0))), (q9, .inl (t 0, 655360, .inl (fun _ => 0))), (q10, .inl (t 3, 80, .inl (fun _ => 0))), (q11, .inl (t 1, 4, .inl (fun _ => 0))), (q12, .inl (t 0, 48, .inl (fun _ => 0))), (q13, .inl (t 1, 4, .inl (fun _ => 0))), (q14, .inl (t 1, 9, .inl (fun _ => 0))), (q15, .inl (t 1, 9, .inl (fun _ => 0))), (q16, .inl (t 1, 9, .inl (fun _ => 0))), (q17, .inl (t 3, 9, .inl (fun _ => 0))), (q18, .inl (t 0, 108, .inl (fun _ => 0))), (q19, .inl (t 1, 9, .inl (fun _ => 0))), (q20, .inl (t 1, 9, .inl (fun _ => 0))), (q21, .inl (t 2, 36, .inr (.inl (fun _ => 0)))), (q22, .inl (t 1, 9, .inl (fun _ => 0))), (q23, .inl (t 1, 9, .inl (fun _ => 0))), (q24, .inl (t 0, 9216, .inl (fun _ => 0))), (q25, .inl (t 3, 6, .inl (fun _ => 0))), (q26, .inl (t 3, 6, .inl (fun _ => 0))), (q27, .inl (t 0, 96000, .inl (fun _ => 0))), (q28, .inl (t 1, 6, .inl (fun _ => 0))), (q29, .inl (t 0, 72600, .inl (fun _ => 0))), (q30, .inl (t 1, 6, .inl (fun _ => 0))), (q31, .inl (t 2, 96, .inr (.inl (fun _ => 0)))), (q32, .inl (t 1, 6, .inl (fun _ => 0))), (q33, .inl (t 2, 6, .inr (.inl (fun _ => 0)))), (q34, .inl (t 2, 8, .inr (.inl (fun _ => 0)))), (q35, .inl (t 1, 8, .inl (fun _ => 0))), (q36, .inl (t 0, 128, .inl (fun _ => 0))), (q37, .inl (t 1, 8, .inl (fun _ => 0))), (q38, .inl (t 2, 16, .inr (.inl (fun _ => 0)))), (q39, .inl (t 1, 16, .inl (fun _ => 0))), (q40, .inl (t 1, 16, .inl (fun _ => 0))), (q41, .inl (t 2, 40, .inr (.inl (fun _ => 0)))), (q42, .inl (t 1, 40, .inl (fun _ => 0))), (q43, .inl (t 1, 40, .inl (fun _ => 0))), (q44, .inl (t 1, 40, .inl (fun _ => 0))), (q45, .inl (t 1, 40, .inl (fun _ => 0))), (q46, .inl (t 1, 40, .inl (fun _ => 0))), (q47, .inl (t 3, 40, .inl (fun _ => 0))), (q48, .inl (t 1, 40, .inl (fun _ => 0))), (q49, .inl (t 2, 40, .inr (.inl (fun _ => 0)))), (q50, .inl (t 3, 40, .inl (fun _ => 0))), (q51, .inl (t 1, 40, .inl (fun _ => 0))), (q52, .inl (t 1, 800, .inl (fun _ => 0))), (q53, .inl (t 1, 40, .inl (fun _ => 0))), (q54, .inl (t 0, 480, .inl (fun _ => 0))), (q55, .inl (t 1, 40, .inl (fun _ => 0))), (q56, .inl (t 2, 80, .inr (.inl (fun _ => 0)))), (q57, .inl (t 1, 80, .inl (fun _ => 0))), (q58, .inl (t 2, 80, .inr (.inl (fun _ => 0)))), (q59, .inl (t 2, 80, .inr (.inl (fun _ => 0)))), (q60, .inl (t 3, 80, .inl (fun _ => 0))), (q61, .inl (t 1, 16, .inl (fun _ => 0))), (q62, .inl (t 1, 16, .inl (fun _ => 0))), (q63, .inl (t 1, 16, .inl (fun _ => 0))), (q64, .inl (t 3, 16, .inl (fun _ => 0))), (q65, .inl (t 2, 16, .inr (.inl (fun _ => 0)))), (q66, .inl (t 2, 16, .inr (.inl (fun _ => 0)))), (q67, .inl (t 1, 16, .inl (fun _ => 0))), (q68, .inl (t 1, 16, .inl (fun _ => 0))), (q69, .inl (t 2, 16, .inr (.inl (fun _ => 0)))), (q70, .inl (t 1, 16, .inl (fun _ => 0))), (q71, .inl (t 2, 16, .inr (.inl (fun _ => 0))))] H := hP
  replace hD : va_D A [(h0, .inr (0, [.ref q0, .int 0, .long 0, .ref q1, .ref q2, .ref q3, .ref q4, .ref q5, .ref q6, .ref q7, .ref q8, .ref q9, .ref q10, .ref q11, .ref q12, .ref q13, .int 0, .ref q14, .ref q15, .ref q16, .ref q17, .ref q18, .ref q19, .ref q20, .ref q21, .ref q22, .ref q23, .ref q24, .ref q25, .ref q26, .ref q27, .ref q28, .ref q29, .ref q30, .ref q31, .ref q32, .ref q33, .ref q34, .ref q35, .ref q36, .ref q37, .ref q38, .ref q39, .ref q40, .ref q41, .ref q42, .ref q43, .ref q44, .ref q45, .ref q46, .ref q47, .ref q48, .ref q49, .ref q50, .ref q51, .ref q52, .ref q53, .ref q54, .ref q55, .long 0, .long 0, .long 0, .long 0, .int 0, .ref q56, .ref q57, .ref q58, .ref q59, .ref q60, .int 0, .ref q61, .ref q62, .ref q63, .ref q64, .ref q65, .ref q66, .ref q67, .ref q68, .ref q69, .ref q70, .ref q71, .null, .null, .null, .null, .null, .int 0, .int 0, .int 0, .null, .int 0, .int 0, .int 0, .int 0, .int 0, .int 0, .long 0, .long 0, .int 0, .int 0, .int 0, .long 0, .long 0, .int 0, .long 0, .long 0, .long 0, .long 0, .int 0, .int 0, .int 0, .long 0, .null, .null, .null, .int 0, .int 0, .int 0, .int 0, .int 0])), (q0, .inl (t 0, 8000, .inl (fun _ => 0))), (q1, .inl (t 3, 160, .inl (fun _ => 0))), (q2, .inl (t 1, 160, .inl (fun _ => 0))), (q3, .inl (t 3, 160, .inl (fun _ => 0))), (q4, .inl (t 0, 1920, .inl (fun _ => 0))), (q5, .inl (t 1, 160, .inl (fun _ => 0))), (q6, .inl (t 1, 160, .inl (fun _ => 0))), (q7, .inl (t 2, 640, .inr (.inl (fun _ => 0)))), (q8, .inl (t 1, 160, .inl (fun _ => 0))), (q9, .inl (t 0, 655360, .inl (fun _ => 0))), (q10, .inl (t 3, 80, .inl (fun _ => 0))), (q11, .inl (t 1, 4, .inl (fun _ => 0))), (q12, .inl (t 0, 48, .inl (fun _ => 0))), (q13, .inl (t 1, 4, .inl (fun _ => 0))), (q14, .inl (t 1, 9, .inl (fun _ => 0))), (q15, .inl (t 1, 9, .inl (fun _ => 0))), (q16, .inl (t 1, 9, .inl (fun _ => 0))), (q17, .inl (t 3, 9, .inl (fun _ => 0))), (q18, .inl (t 0, 108, .inl (fun _ => 0))), (q19, .inl (t 1, 9, .inl (fun _ => 0))), (q20, .inl (t 1, 9, .inl (fun _ => 0))), (q21, .inl (t 2, 36, .inr (.inl (fun _ => 0)))), (q22, .inl (t 1, 9, .inl (fun _ => 0))), (q23, .inl (t 1, 9, .inl (fun _ => 0))), (q24, .inl (t 0, 9216, .inl (fun _ => 0))), (q25, .inl (t 3, 6, .inl (fun _ => 0))), (q26, .inl (t 3, 6, .inl (fun _ => 0))), (q27, .inl (t 0, 96000, .inl (fun _ => 0))), (q28, .inl (t 1, 6, .inl (fun _ => 0))), (q29, .inl (t 0, 72600, .inl (fun _ => 0))), (q30, .inl (t 1, 6, .inl (fun _ => 0))), (q31, .inl (t 2, 96, .inr (.inl (fun _ => 0)))), (q32, .inl (t 1, 6, .inl (fun _ => 0))), (q33, .inl (t 2, 6, .inr (.inl (fun _ => 0)))), (q34, .inl (t 2, 8, .inr (.inl (fun _ => 0)))), (q35, .inl (t 1, 8, .inl (fun _ => 0))), (q36, .inl (t 0, 128, .inl (fun _ => 0))), (q37, .inl (t 1, 8, .inl (fun _ => 0))), (q38, .inl (t 2, 16, .inr (.inl (fun _ => 0)))), (q39, .inl (t 1, 16, .inl (fun _ => 0))), (q40, .inl (t 1, 16, .inl (fun _ => 0))), (q41, .inl (t 2, 40, .inr (.inl (fun _ => 0)))), (q42, .inl (t 1, 40, .inl (fun _ => 0))), (q43, .inl (t 1, 40, .inl (fun _ => 0))), (q44, .inl (t 1, 40, .inl (fun _ => 0))), (q45, .inl (t 1, 40, .inl (fun _ => 0))), (q46, .inl (t 1, 40, .inl (fun _ => 0))), (q47, .inl (t 3, 40, .inl (fun _ => 0))), (q48, .inl (t 1, 40, .inl (fun _ => 0))), (q49, .inl (t 2, 40, .inr (.inl (fun _ => 0)))), (q50, .inl (t 3, 40, .inl (fun _ => 0))), (q51, .inl (t 1, 40, .inl (fun _ => 0))), (q52, .inl (t 1, 800, .inl (fun _ => 0))), (q53, .inl (t 1, 40, .inl (fun _ => 0))), (q54, .inl (t 0, 480, .inl (fun _ => 0))), (q55, .inl (t 1, 40, .inl (fun _ => 0))), (q56, .inl (t 2, 80, .inr (.inl (fun _ => 0)))), (q57, .inl (t 1, 80, .inl (fun _ => 0))), (q58, .inl (t 2, 80, .inr (.inl (fun _ => 0)))), (q59, .inl (t 2, 80, .inr (.inl (fun _ => 0)))), (q60, .inl (t 3, 80, .inl (fun _ => 0))), (q61, .inl (t 1, 16, .inl (fun _ => 0))), (q62, .inl (t 1, 16, .inl (fun _ => 0))), (q63, .inl (t 1, 16, .inl (fun _ => 0))), (q64, .inl (t 3, 16, .inl (fun _ => 0))), (q65, .inl (t 2, 16, .inr (.inl (fun _ => 0)))), (q66, .inl (t 2, 16, .inr (.inl (fun _ => 0)))), (q67, .inl (t 1, 16, .inl (fun _ => 0))), (q68, .inl (t 1, 16, .inl (fun _ => 0))), (q69, .inl (t 2, 16, .inr (.inl (fun _ => 0)))), (q70, .inl (t 1, 16, .inl (fun _ => 0))), (q71, .inl (t 2, 16, .inr (.inl (fun _ => 0))))] := hD
  replace hlen : ([.ref q0, .int 0, .long 0, .ref q1, .ref q2, .ref q3, .ref q4, .ref q5, .ref q6, .ref q7, .ref q8, .ref q9, .ref q10, .ref q11, .ref q12, .ref q13, .int 0, .ref q14, .ref q15, .ref q16, .ref q17, .ref q18, .ref q19, .ref q20, .ref q21, .ref q22, .ref q23, .ref q24, .ref q25, .ref q26, .ref q27, .ref q28, .ref q29, .ref q30, .ref q31, .ref q32, .ref q33, .ref q34, .ref q35, .ref q36, .ref q37, .ref q38, .ref q39, .ref q40, .ref q41, .ref q42, .ref q43, .ref q44, .ref q45, .ref q46, .ref q47, .ref q48, .ref q49, .ref q50, .ref q51, .ref q52, .ref q53, .ref q54, .ref q55, .long 0, .long 0, .long 0, .long 0, .int 0, .ref q56, .ref q57, .ref q58, .ref q59, .ref q60, .int 0, .ref q61, .ref q62, .ref q63, .ref q64, .ref q65, .ref q66, .ref q67, .ref q68, .ref q69, .ref q70, .ref q71, .null, .null, .null, .null, .null, .int 0, .int 0, .int 0, .null, .int 0, .int 0, .int 0, .int 0, .int 0, .int 0, .long 0, .long 0, .int 0, .int 0, .int 0, .long 0, .long 0, .int 0, .long 0, .long 0, .long 0, .long 0, .int 0, .int 0, .int 0, .long 0, .null, .null, .null, .int 0, .int 0, .int 0, .int 0, .int 0] : List Value).length = 120 := rfl
  refine lv_aload_n hx hb dX12_init_591 rfl (lv_at hl 0 rfl) ?_
  refine lv_bipush (v := 16) hx hb dX12_init_592 (by decide) ?_
  refine r_mk (t0 := 2) (N' := 16) (a0 := (16, .inr (.inl (fun _ => 0)))) hF hin dX12_init_594 dX12_init_596 fl_X12_232 (wb 138 rfl) rfl rfl id rfl rfl (fun _ => rfl) (fun _ => rfl) hlen hP hD hS hA (fun _ => rfl) (by decide) (by decide) (by decide) (by decide) (by decide) (fun q72 H locs hlen hP hD hS => ?_)
  refine lv_aload_n hx hb dX12_init_599 rfl (lv_at hl 0 rfl) ?_
  refine lv_bipush (v := 16) hx hb dX12_init_600 (by decide) ?_
  refine r_mk (t0 := 3) (N' := 16) (a0 := (16, .inl (fun _ => 0))) hF hin dX12_init_602 dX12_init_604 fl_X12_235 (wb 505 rfl) rfl rfl id rfl rfl (fun _ => rfl) (fun _ => rfl) hlen hP hD hS hA (fun _ => rfl) (by decide) (by decide) (by decide) (by decide) (by decide) (fun q73 H locs hlen hP hD hS => ?_)
  refine lv_aload_n hx hb dX12_init_607 rfl (lv_at hl 0 rfl) ?_
  refine lv_bipush (v := 16) hx hb dX12_init_608 (by decide) ?_
  refine r_mk (t0 := 1) (N' := 16) (a0 := (16, .inl (fun _ => 0))) hF hin dX12_init_610 dX12_init_612 fl_X12_238 (wb 39 rfl) rfl rfl id rfl rfl (fun _ => rfl) (fun _ => rfl) hlen hP hD hS hA (fun _ => rfl) (by decide) (by decide) (by decide) (by decide) (by decide) (fun q74 H locs hlen hP hD hS => ?_)
  refine lv_aload_n hx hb dX12_init_615 rfl (lv_at hl 0 rfl) ?_
  refine lv_ldc (v := 64000) hx hb hF.1.2.2.2.1 (hF.1.2.2.2.2 _ (wb 340 rfl)) dX12_init_616 ?_
  refine r_mk (t0 := 0) (N' := 64000) (a0 := (64000, .inl (fun _ => 0))) hF hin dX12_init_618 dX12_init_620 fl_X12_242 (wb 12 rfl) rfl rfl id rfl rfl (fun _ => rfl) (fun _ => rfl) hlen hP hD hS hA (fun _ => rfl) (by decide) (by decide) (by decide) (by decide) (by decide) (fun q75 H locs hlen hP hD hS => ?_)
  replace hP : va_P D cl1 [(h0, .inr (0, [.ref q0, .int 0, .long 0, .ref q1, .ref q2, .ref q3, .ref q4, .ref q5, .ref q6, .ref q7, .ref q8, .ref q9, .ref q10, .ref q11, .ref q12, .ref q13, .int 0, .ref q14, .ref q15, .ref q16, .ref q17, .ref q18, .ref q19, .ref q20, .ref q21, .ref q22, .ref q23, .ref q24, .ref q25, .ref q26, .ref q27, .ref q28, .ref q29, .ref q30, .ref q31, .ref q32, .ref q33, .ref q34, .ref q35, .ref q36, .ref q37, .ref q38, .ref q39, .ref q40, .ref q41, .ref q42, .ref q43, .ref q44, .ref q45, .ref q46, .ref q47, .ref q48, .ref q49, .ref q50, .ref q51, .ref q52, .ref q53, .ref q54, .ref q55, .long 0, .long 0, .long 0, .long 0, .int 0, .ref q56, .ref q57, .ref q58, .ref q59, .ref q60, .int 0, .ref q61, .ref q62, .ref q63, .ref q64, .ref q65, .ref q66, .ref q67, .ref q68, .ref q69, .ref q70, .ref q71, .ref q72, .ref q73, .ref q74, .ref q75, .null, .int 0, .int 0, .int 0, .null, .int 0, .int 0, .int 0, .int 0, .int 0, .int 0, .long 0, .long 0, .int 0, .int 0, .int 0, .long 0, .long 0, .int 0, .long 0, .long 0, .long 0, .long 0, .int 0, .int 0, .int 0, .long 0, .null, .null, .null, .int 0, .int 0, .int 0, .int 0, .int 0])), (q0, .inl (t 0, 8000, .inl (fun _ => 0))), (q1, .inl (t 3, 160, .inl (fun _ => 0))), (q2, .inl (t 1, 160, .inl (fun _ => 0))), (q3, .inl (t 3, 160, .inl (fun _ => 0))), (q4, .inl (t 0, 1920, .inl (fun _ => 0))), (q5, .inl (t 1, 160, .inl (fun _ => 0))), (q6, .inl (t 1, 160, .inl (fun _ => 0))), (q7, .inl (t 2, 640, .inr (.inl (fun _ => 0)))), (q8, .inl (t 1, 160, .inl (fun _ => 0))), (q9, .inl (t 0, 655360, .inl (fun _ => 0))), (q10, .inl (t 3, 80, .inl (fun _ => 0))), (q11, .inl (t 1, 4, .inl (fun _ => 0))), (q12, .inl (t 0, 48, .inl (fun _ => 0))), (q13, .inl (t 1, 4, .inl (fun _ => 0))), (q14, .inl (t 1, 9, .inl (fun _ => 0))), (q15, .inl (t 1, 9, .inl (fun _ => 0))), (q16, .inl (t 1, 9, .inl (fun _ => 0))), (q17, .inl (t 3, 9, .inl (fun _ => 0))), (q18, .inl (t 0, 108, .inl (fun _ => 0))), (q19, .inl (t 1, 9, .inl (fun _ => 0))), (q20, .inl (t 1, 9, .inl (fun _ => 0))), (q21, .inl (t 2, 36, .inr (.inl (fun _ => 0)))), (q22, .inl (t 1, 9, .inl (fun _ => 0))), (q23, .inl (t 1, 9, .inl (fun _ => 0))), (q24, .inl (t 0, 9216, .inl (fun _ => 0))), (q25, .inl (t 3, 6, .inl (fun _ => 0))), (q26, .inl (t 3, 6, .inl (fun _ => 0))), (q27, .inl (t 0, 96000, .inl (fun _ => 0))), (q28, .inl (t 1, 6, .inl (fun _ => 0))), (q29, .inl (t 0, 72600, .inl (fun _ => 0))), (q30, .inl (t 1, 6, .inl (fun _ => 0))), (q31, .inl (t 2, 96, .inr (.inl (fun _ => 0)))), (q32, .inl (t 1, 6, .inl (fun _ => 0))), (q33, .inl (t 2, 6, .inr (.inl (fun _ => 0)))), (q34, .inl (t 2, 8, .inr (.inl (fun _ => 0)))), (q35, .inl (t 1, 8, .inl (fun _ => 0))), (q36, .inl (t 0, 128, .inl (fun _ => 0))), (q37, .inl (t 1, 8, .inl (fun _ => 0))), (q38, .inl (t 2, 16, .inr (.inl (fun _ => 0)))), (q39, .inl (t 1, 16, .inl (fun _ => 0))), (q40, .inl (t 1, 16, .inl (fun _ => 0))), (q41, .inl (t 2, 40, .inr (.inl (fun _ => 0)))), (q42, .inl (t 1, 40, .inl (fun _ => 0))), (q43, .inl (t 1, 40, .inl (fun _ => 0))), (q44, .inl (t 1, 40, .inl (fun _ => 0))), (q45, .inl (t 1, 40, .inl (fun _ => 0))), (q46, .inl (t 1, 40, .inl (fun _ => 0))), (q47, .inl (t 3, 40, .inl (fun _ => 0))), (q48, .inl (t 1, 40, .inl (fun _ => 0))), (q49, .inl (t 2, 40, .inr (.inl (fun _ => 0)))), (q50, .inl (t 3, 40, .inl (fun _ => 0))), (q51, .inl (t 1, 40, .inl (fun _ => 0))), (q52, .inl (t 1, 800, .inl (fun _ => 0))), (q53, .inl (t 1, 40, .inl (fun _ => 0))), (q54, .inl (t 0, 480, .inl (fun _ => 0))), (q55, .inl (t 1, 40, .inl (fun _ => 0))), (q56, .inl (t 2, 80, .inr (.inl (fun _ => 0)))), (q57, .inl (t 1, 80, .inl (fun _ => 0))), (q58, .inl (t 2, 80, .inr (.inl (fun _ => 0)))), (q59, .inl (t 2, 80, .inr (.inl (fun _ => 0)))), (q60, .inl (t 3, 80, .inl (fun _ => 0))), (q61, .inl (t 1, 16, .inl (fun _ => 0))), (q62, .inl (t 1, 16, .inl (fun _ => 0))), (q63, .inl (t 1, 16, .inl (fun _ => 0))), (q64, .inl (t 3, 16, .inl (fun _ => 0))), (q65, .inl (t 2, 16, .inr (.inl (fun _ => 0)))), (q66, .inl (t 2, 16, .inr (.inl (fun _ => 0)))), (q67, .inl (t 1, 16, .inl (fun _ => 0))), (q68, .inl (t 1, 16, .inl (fun _ => 0))), (q69, .inl (t 2, 16, .inr (.inl (fun _ => 0)))), (q70, .inl (t 1, 16, .inl (fun _ => 0))), (q71, .inl (t 2, 16, .inr (.inl (fun _ => 0)))), (q72, .inl (t 2, 16, .inr (.inl (fun _ => 0)))), (q73, .inl (t 3, 16, .inl (fun _ => 0))), (q74, .inl (t 1, 16, .inl (fun _ => 0))), (q75, .inl (t 0, 64000, .inl (fun _ => 0)))] H := hP
  replace hD : va_D A [(h0, .inr (0, [.ref q0, .int 0, .long 0, .ref q1, .ref q2, .ref q3, .ref q4, .ref q5, .ref q6, .ref q7, .ref q8, .ref q9, .ref q10, .ref q11, .ref q12, .ref q13, .int 0, .ref q14, .ref q15, .ref q16, .ref q17, .ref q18, .ref q19, .ref q20, .ref q21, .ref q22, .ref q23, .ref q24, .ref q25, .ref q26, .ref q27, .ref q28, .ref q29, .ref q30, .ref q31, .ref q32, .ref q33, .ref q34, .ref q35, .ref q36, .ref q37, .ref q38, .ref q39, .ref q40, .ref q41, .ref q42, .ref q43, .ref q44, .ref q45, .ref q46, .ref q47, .ref q48, .ref q49, .ref q50, .ref q51, .ref q52, .ref q53, .ref q54, .ref q55, .long 0, .long 0, .long 0, .long 0, .int 0, .ref q56, .ref q57, .ref q58, .ref q59, .ref q60, .int 0, .ref q61, .ref q62, .ref q63, .ref q64, .ref q65, .ref q66, .ref q67, .ref q68, .ref q69, .ref q70, .ref q71, .ref q72, .ref q73, .ref q74, .ref q75, .null, .int 0, .int 0, .int 0, .null, .int 0, .int 0, .int 0, .int 0, .int 0, .int 0, .long 0, .long 0, .int 0, .int 0, .int 0, .long 0, .long 0, .int 0, .long 0, .long 0, .long 0, .long 0, .int 0, .int 0, .int 0, .long 0, .null, .null, .null, .int 0, .int 0, .int 0, .int 0, .int 0])), (q0, .inl (t 0, 8000, .inl (fun _ => 0))), (q1, .inl (t 3, 160, .inl (fun _ => 0))), (q2, .inl (t 1, 160, .inl (fun _ => 0))), (q3, .inl (t 3, 160, .inl (fun _ => 0))), (q4, .inl (t 0, 1920, .inl (fun _ => 0))), (q5, .inl (t 1, 160, .inl (fun _ => 0))), (q6, .inl (t 1, 160, .inl (fun _ => 0))), (q7, .inl (t 2, 640, .inr (.inl (fun _ => 0)))), (q8, .inl (t 1, 160, .inl (fun _ => 0))), (q9, .inl (t 0, 655360, .inl (fun _ => 0))), (q10, .inl (t 3, 80, .inl (fun _ => 0))), (q11, .inl (t 1, 4, .inl (fun _ => 0))), (q12, .inl (t 0, 48, .inl (fun _ => 0))), (q13, .inl (t 1, 4, .inl (fun _ => 0))), (q14, .inl (t 1, 9, .inl (fun _ => 0))), (q15, .inl (t 1, 9, .inl (fun _ => 0))), (q16, .inl (t 1, 9, .inl (fun _ => 0))), (q17, .inl (t 3, 9, .inl (fun _ => 0))), (q18, .inl (t 0, 108, .inl (fun _ => 0))), (q19, .inl (t 1, 9, .inl (fun _ => 0))), (q20, .inl (t 1, 9, .inl (fun _ => 0))), (q21, .inl (t 2, 36, .inr (.inl (fun _ => 0)))), (q22, .inl (t 1, 9, .inl (fun _ => 0))), (q23, .inl (t 1, 9, .inl (fun _ => 0))), (q24, .inl (t 0, 9216, .inl (fun _ => 0))), (q25, .inl (t 3, 6, .inl (fun _ => 0))), (q26, .inl (t 3, 6, .inl (fun _ => 0))), (q27, .inl (t 0, 96000, .inl (fun _ => 0))), (q28, .inl (t 1, 6, .inl (fun _ => 0))), (q29, .inl (t 0, 72600, .inl (fun _ => 0))), (q30, .inl (t 1, 6, .inl (fun _ => 0))), (q31, .inl (t 2, 96, .inr (.inl (fun _ => 0)))), (q32, .inl (t 1, 6, .inl (fun _ => 0))), (q33, .inl (t 2, 6, .inr (.inl (fun _ => 0)))), (q34, .inl (t 2, 8, .inr (.inl (fun _ => 0)))), (q35, .inl (t 1, 8, .inl (fun _ => 0))), (q36, .inl (t 0, 128, .inl (fun _ => 0))), (q37, .inl (t 1, 8, .inl (fun _ => 0))), (q38, .inl (t 2, 16, .inr (.inl (fun _ => 0)))), (q39, .inl (t 1, 16, .inl (fun _ => 0))), (q40, .inl (t 1, 16, .inl (fun _ => 0))), (q41, .inl (t 2, 40, .inr (.inl (fun _ => 0)))), (q42, .inl (t 1, 40, .inl (fun _ => 0))), (q43, .inl (t 1, 40, .inl (fun _ => 0))), (q44, .inl (t 1, 40, .inl (fun _ => 0))), (q45, .inl (t 1, 40, .inl (fun _ => 0))), (q46, .inl (t 1, 40, .inl (fun _ => 0))), (q47, .inl (t 3, 40, .inl (fun _ => 0))), (q48, .inl (t 1, 40, .inl (fun _ => 0))), (q49, .inl (t 2, 40, .inr (.inl (fun _ => 0)))), (q50, .inl (t 3, 40, .inl (fun _ => 0))), (q51, .inl (t 1, 40, .inl (fun _ => 0))), (q52, .inl (t 1, 800, .inl (fun _ => 0))), (q53, .inl (t 1, 40, .inl (fun _ => 0))), (q54, .inl (t 0, 480, .inl (fun _ => 0))), (q55, .inl (t 1, 40, .inl (fun _ => 0))), (q56, .inl (t 2, 80, .inr (.inl (fun _ => 0)))), (q57, .inl (t 1, 80, .inl (fun _ => 0))), (q58, .inl (t 2, 80, .inr (.inl (fun _ => 0)))), (q59, .inl (t 2, 80, .inr (.inl (fun _ => 0)))), (q60, .inl (t 3, 80, .inl (fun _ => 0))), (q61, .inl (t 1, 16, .inl (fun _ => 0))), (q62, .inl (t 1, 16, .inl (fun _ => 0))), (q63, .inl (t 1, 16, .inl (fun _ => 0))), (q64, .inl (t 3, 16, .inl (fun _ => 0))), (q65, .inl (t 2, 16, .inr (.inl (fun _ => 0)))), (q66, .inl (t 2, 16, .inr (.inl (fun _ => 0)))), (q67, .inl (t 1, 16, .inl (fun _ => 0))), (q68, .inl (t 1, 16, .inl (fun _ => 0))), (q69, .inl (t 2, 16, .inr (.inl (fun _ => 0)))), (q70, .inl (t 1, 16, .inl (fun _ => 0))), (q71, .inl (t 2, 16, .inr (.inl (fun _ => 0)))), (q72, .inl (t 2, 16, .inr (.inl (fun _ => 0)))), (q73, .inl (t 3, 16, .inl (fun _ => 0))), (q74, .inl (t 1, 16, .inl (fun _ => 0))), (q75, .inl (t 0, 64000, .inl (fun _ => 0)))] := hD
  replace hlen : ([.ref q0, .int 0, .long 0, .ref q1, .ref q2, .ref q3, .ref q4, .ref q5, .ref q6, .ref q7, .ref q8, .ref q9, .ref q10, .ref q11, .ref q12, .ref q13, .int 0, .ref q14, .ref q15, .ref q16, .ref q17, .ref q18, .ref q19, .ref q20, .ref q21, .ref q22, .ref q23, .ref q24, .ref q25, .ref q26, .ref q27, .ref q28, .ref q29, .ref q30, .ref q31, .ref q32, .ref q33, .ref q34, .ref q35, .ref q36, .ref q37, .ref q38, .ref q39, .ref q40, .ref q41, .ref q42, .ref q43, .ref q44, .ref q45, .ref q46, .ref q47, .ref q48, .ref q49, .ref q50, .ref q51, .ref q52, .ref q53, .ref q54, .ref q55, .long 0, .long 0, .long 0, .long 0, .int 0, .ref q56, .ref q57, .ref q58, .ref q59, .ref q60, .int 0, .ref q61, .ref q62, .ref q63, .ref q64, .ref q65, .ref q66, .ref q67, .ref q68, .ref q69, .ref q70, .ref q71, .ref q72, .ref q73, .ref q74, .ref q75, .null, .int 0, .int 0, .int 0, .null, .int 0, .int 0, .int 0, .int 0, .int 0, .int 0, .long 0, .long 0, .int 0, .int 0, .int 0, .long 0, .long 0, .int 0, .long 0, .long 0, .long 0, .long 0, .int 0, .int 0, .int 0, .long 0, .null, .null, .null, .int 0, .int 0, .int 0, .int 0, .int 0] : List Value).length = 120 := rfl
  refine lv_aload_n hx hb dX12_init_623 rfl (lv_at hl 0 rfl) ?_
  refine lv_ldc (v := 90000) hx hb hF.1.2.2.2.1 (hF.1.2.2.2.2 _ (wb 341 rfl)) dX12_init_624 ?_
  refine r_mk (t0 := 0) (N' := 90000) (a0 := (90000, .inl (fun _ => 0))) hF hin dX12_init_626 dX12_init_628 fl_X12_246 (wb 12 rfl) rfl rfl id rfl rfl (fun _ => rfl) (fun _ => rfl) hlen hP hD hS hA (fun _ => rfl) (by decide) (by decide) (by decide) (by decide) (by decide) (fun q76 H locs hlen hP hD hS => ?_)
  refine lv_aload_n hx hb dX12_init_631 rfl (lv_at hl 0 rfl) ?_
  refine lv_sipush (v := 130) hx hb dX12_init_632 (by decide) ?_
  refine r_mk (t0 := 1) (N' := 130) (a0 := (130, .inl (fun _ => 0))) hF hin dX12_init_635 dX12_init_637 fl_X12_249 (wb 39 rfl) rfl rfl id rfl rfl (fun _ => rfl) (fun _ => rfl) hlen hP hD hS hA (fun _ => rfl) (by decide) (by decide) (by decide) (by decide) (by decide) (fun q77 H locs hlen hP hD hS => ?_)
  refine lv_aload_n hx hb dX12_init_640 rfl (lv_at hl 0 rfl) ?_
  refine lv_sipush (v := 130) hx hb dX12_init_641 (by decide) ?_
  refine r_mk (t0 := 1) (N' := 130) (a0 := (130, .inl (fun _ => 0))) hF hin dX12_init_644 dX12_init_646 fl_X12_252 (wb 39 rfl) rfl rfl id rfl rfl (fun _ => rfl) (fun _ => rfl) hlen hP hD hS hA (fun _ => rfl) (by decide) (by decide) (by decide) (by decide) (by decide) (fun q78 H locs hlen hP hD hS => ?_)
  refine lv_aload_n hx hb dX12_init_649 rfl (lv_at hl 0 rfl) ?_
  refine lv_sipush (v := 130) hx hb dX12_init_650 (by decide) ?_
  refine r_mk (t0 := 1) (N' := 130) (a0 := (130, .inl (fun _ => 0))) hF hin dX12_init_653 dX12_init_655 fl_X12_255 (wb 39 rfl) rfl rfl id rfl rfl (fun _ => rfl) (fun _ => rfl) hlen hP hD hS hA (fun _ => rfl) (by decide) (by decide) (by decide) (by decide) (by decide) (fun q79 H locs hlen hP hD hS => ?_)
  replace hP : va_P D cl1 [(h0, .inr (0, [.ref q0, .int 0, .long 0, .ref q1, .ref q2, .ref q3, .ref q4, .ref q5, .ref q6, .ref q7, .ref q8, .ref q9, .ref q10, .ref q11, .ref q12, .ref q13, .int 0, .ref q14, .ref q15, .ref q16, .ref q17, .ref q18, .ref q19, .ref q20, .ref q21, .ref q22, .ref q23, .ref q24, .ref q25, .ref q26, .ref q27, .ref q28, .ref q29, .ref q30, .ref q31, .ref q32, .ref q33, .ref q34, .ref q35, .ref q36, .ref q37, .ref q38, .ref q39, .ref q40, .ref q41, .ref q42, .ref q43, .ref q44, .ref q45, .ref q46, .ref q47, .ref q48, .ref q49, .ref q50, .ref q51, .ref q52, .ref q53, .ref q54, .ref q55, .long 0, .long 0, .long 0, .long 0, .int 0, .ref q56, .ref q57, .ref q58, .ref q59, .ref q60, .int 0, .ref q61, .ref q62, .ref q63, .ref q64, .ref q65, .ref q66, .ref q67, .ref q68, .ref q69, .ref q70, .ref q71, .ref q72, .ref q73, .ref q74, .ref q75, .null, .int 0, .int 0, .int 0, .ref q76, .int 0, .int 0, .int 0, .int 0, .int 0, .int 0, .long 0, .long 0, .int 0, .int 0, .int 0, .long 0, .long 0, .int 0, .long 0, .long 0, .long 0, .long 0, .int 0, .int 0, .int 0, .long 0, .ref q77, .ref q78, .ref q79, .int 0, .int 0, .int 0, .int 0, .int 0])), (q0, .inl (t 0, 8000, .inl (fun _ => 0))), (q1, .inl (t 3, 160, .inl (fun _ => 0))), (q2, .inl (t 1, 160, .inl (fun _ => 0))), (q3, .inl (t 3, 160, .inl (fun _ => 0))), (q4, .inl (t 0, 1920, .inl (fun _ => 0))), (q5, .inl (t 1, 160, .inl (fun _ => 0))), (q6, .inl (t 1, 160, .inl (fun _ => 0))), (q7, .inl (t 2, 640, .inr (.inl (fun _ => 0)))), (q8, .inl (t 1, 160, .inl (fun _ => 0))), (q9, .inl (t 0, 655360, .inl (fun _ => 0))), (q10, .inl (t 3, 80, .inl (fun _ => 0))), (q11, .inl (t 1, 4, .inl (fun _ => 0))), (q12, .inl (t 0, 48, .inl (fun _ => 0))), (q13, .inl (t 1, 4, .inl (fun _ => 0))), (q14, .inl (t 1, 9, .inl (fun _ => 0))), (q15, .inl (t 1, 9, .inl (fun _ => 0))), (q16, .inl (t 1, 9, .inl (fun _ => 0))), (q17, .inl (t 3, 9, .inl (fun _ => 0))), (q18, .inl (t 0, 108, .inl (fun _ => 0))), (q19, .inl (t 1, 9, .inl (fun _ => 0))), (q20, .inl (t 1, 9, .inl (fun _ => 0))), (q21, .inl (t 2, 36, .inr (.inl (fun _ => 0)))), (q22, .inl (t 1, 9, .inl (fun _ => 0))), (q23, .inl (t 1, 9, .inl (fun _ => 0))), (q24, .inl (t 0, 9216, .inl (fun _ => 0))), (q25, .inl (t 3, 6, .inl (fun _ => 0))), (q26, .inl (t 3, 6, .inl (fun _ => 0))), (q27, .inl (t 0, 96000, .inl (fun _ => 0))), (q28, .inl (t 1, 6, .inl (fun _ => 0))), (q29, .inl (t 0, 72600, .inl (fun _ => 0))), (q30, .inl (t 1, 6, .inl (fun _ => 0))), (q31, .inl (t 2, 96, .inr (.inl (fun _ => 0)))), (q32, .inl (t 1, 6, .inl (fun _ => 0))), (q33, .inl (t 2, 6, .inr (.inl (fun _ => 0)))), (q34, .inl (t 2, 8, .inr (.inl (fun _ => 0)))), (q35, .inl (t 1, 8, .inl (fun _ => 0))), (q36, .inl (t 0, 128, .inl (fun _ => 0))), (q37, .inl (t 1, 8, .inl (fun _ => 0))), (q38, .inl (t 2, 16, .inr (.inl (fun _ => 0)))), (q39, .inl (t 1, 16, .inl (fun _ => 0))), (q40, .inl (t 1, 16, .inl (fun _ => 0))), (q41, .inl (t 2, 40, .inr (.inl (fun _ => 0)))), (q42, .inl (t 1, 40, .inl (fun _ => 0))), (q43, .inl (t 1, 40, .inl (fun _ => 0))), (q44, .inl (t 1, 40, .inl (fun _ => 0))), (q45, .inl (t 1, 40, .inl (fun _ => 0))), (q46, .inl (t 1, 40, .inl (fun _ => 0))), (q47, .inl (t 3, 40, .inl (fun _ => 0))), (q48, .inl (t 1, 40, .inl (fun _ => 0))), (q49, .inl (t 2, 40, .inr (.inl (fun _ => 0)))), (q50, .inl (t 3, 40, .inl (fun _ => 0))), (q51, .inl (t 1, 40, .inl (fun _ => 0))), (q52, .inl (t 1, 800, .inl (fun _ => 0))), (q53, .inl (t 1, 40, .inl (fun _ => 0))), (q54, .inl (t 0, 480, .inl (fun _ => 0))), (q55, .inl (t 1, 40, .inl (fun _ => 0))), (q56, .inl (t 2, 80, .inr (.inl (fun _ => 0)))), (q57, .inl (t 1, 80, .inl (fun _ => 0))), (q58, .inl (t 2, 80, .inr (.inl (fun _ => 0)))), (q59, .inl (t 2, 80, .inr (.inl (fun _ => 0)))), (q60, .inl (t 3, 80, .inl (fun _ => 0))), (q61, .inl (t 1, 16, .inl (fun _ => 0))), (q62, .inl (t 1, 16, .inl (fun _ => 0))), (q63, .inl (t 1, 16, .inl (fun _ => 0))), (q64, .inl (t 3, 16, .inl (fun _ => 0))), (q65, .inl (t 2, 16, .inr (.inl (fun _ => 0)))), (q66, .inl (t 2, 16, .inr (.inl (fun _ => 0)))), (q67, .inl (t 1, 16, .inl (fun _ => 0))), (q68, .inl (t 1, 16, .inl (fun _ => 0))), (q69, .inl (t 2, 16, .inr (.inl (fun _ => 0)))), (q70, .inl (t 1, 16, .inl (fun _ => 0))), (q71, .inl (t 2, 16, .inr (.inl (fun _ => 0)))), (q72, .inl (t 2, 16, .inr (.inl (fun _ => 0)))), (q73, .inl (t 3, 16, .inl (fun _ => 0))), (q74, .inl (t 1, 16, .inl (fun _ => 0))), (q75, .inl (t 0, 64000, .inl (fun _ => 0))), (q76, .inl (t 0, 90000, .inl (fun _ => 0))), (q77, .inl (t 1, 130, .inl (fun _ => 0))), (q78, .inl (t 1, 130, .inl (fun _ => 0))), (q79, .inl (t 1, 130, .inl (fun _ => 0)))] H := hP
  replace hD : va_D A [(h0, .inr (0, [.ref q0, .int 0, .long 0, .ref q1, .ref q2, .ref q3, .ref q4, .ref q5, .ref q6, .ref q7, .ref q8, .ref q9, .ref q10, .ref q11, .ref q12, .ref q13, .int 0, .ref q14, .ref q15, .ref q16, .ref q17, .ref q18, .ref q19, .ref q20, .ref q21, .ref q22, .ref q23, .ref q24, .ref q25, .ref q26, .ref q27, .ref q28, .ref q29, .ref q30, .ref q31, .ref q32, .ref q33, .ref q34, .ref q35, .ref q36, .ref q37, .ref q38, .ref q39, .ref q40, .ref q41, .ref q42, .ref q43, .ref q44, .ref q45, .ref q46, .ref q47, .ref q48, .ref q49, .ref q50, .ref q51, .ref q52, .ref q53, .ref q54, .ref q55, .long 0, .long 0, .long 0, .long 0, .int 0, .ref q56, .ref q57, .ref q58, .ref q59, .ref q60, .int 0, .ref q61, .ref q62, .ref q63, .ref q64, .ref q65, .ref q66, .ref q67, .ref q68, .ref q69, .ref q70, .ref q71, .ref q72, .ref q73, .ref q74, .ref q75, .null, .int 0, .int 0, .int 0, .ref q76, .int 0, .int 0, .int 0, .int 0, .int 0, .int 0, .long 0, .long 0, .int 0, .int 0, .int 0, .long 0, .long 0, .int 0, .long 0, .long 0, .long 0, .long 0, .int 0, .int 0, .int 0, .long 0, .ref q77, .ref q78, .ref q79, .int 0, .int 0, .int 0, .int 0, .int 0])), (q0, .inl (t 0, 8000, .inl (fun _ => 0))), (q1, .inl (t 3, 160, .inl (fun _ => 0))), (q2, .inl (t 1, 160, .inl (fun _ => 0))), (q3, .inl (t 3, 160, .inl (fun _ => 0))), (q4, .inl (t 0, 1920, .inl (fun _ => 0))), (q5, .inl (t 1, 160, .inl (fun _ => 0))), (q6, .inl (t 1, 160, .inl (fun _ => 0))), (q7, .inl (t 2, 640, .inr (.inl (fun _ => 0)))), (q8, .inl (t 1, 160, .inl (fun _ => 0))), (q9, .inl (t 0, 655360, .inl (fun _ => 0))), (q10, .inl (t 3, 80, .inl (fun _ => 0))), (q11, .inl (t 1, 4, .inl (fun _ => 0))), (q12, .inl (t 0, 48, .inl (fun _ => 0))), (q13, .inl (t 1, 4, .inl (fun _ => 0))), (q14, .inl (t 1, 9, .inl (fun _ => 0))), (q15, .inl (t 1, 9, .inl (fun _ => 0))), (q16, .inl (t 1, 9, .inl (fun _ => 0))), (q17, .inl (t 3, 9, .inl (fun _ => 0))), (q18, .inl (t 0, 108, .inl (fun _ => 0))), (q19, .inl (t 1, 9, .inl (fun _ => 0))), (q20, .inl (t 1, 9, .inl (fun _ => 0))), (q21, .inl (t 2, 36, .inr (.inl (fun _ => 0)))), (q22, .inl (t 1, 9, .inl (fun _ => 0))), (q23, .inl (t 1, 9, .inl (fun _ => 0))), (q24, .inl (t 0, 9216, .inl (fun _ => 0))), (q25, .inl (t 3, 6, .inl (fun _ => 0))), (q26, .inl (t 3, 6, .inl (fun _ => 0))), (q27, .inl (t 0, 96000, .inl (fun _ => 0))), (q28, .inl (t 1, 6, .inl (fun _ => 0))), (q29, .inl (t 0, 72600, .inl (fun _ => 0))), (q30, .inl (t 1, 6, .inl (fun _ => 0))), (q31, .inl (t 2, 96, .inr (.inl (fun _ => 0)))), (q32, .inl (t 1, 6, .inl (fun _ => 0))), (q33, .inl (t 2, 6, .inr (.inl (fun _ => 0)))), (q34, .inl (t 2, 8, .inr (.inl (fun _ => 0)))), (q35, .inl (t 1, 8, .inl (fun _ => 0))), (q36, .inl (t 0, 128, .inl (fun _ => 0))), (q37, .inl (t 1, 8, .inl (fun _ => 0))), (q38, .inl (t 2, 16, .inr (.inl (fun _ => 0)))), (q39, .inl (t 1, 16, .inl (fun _ => 0))), (q40, .inl (t 1, 16, .inl (fun _ => 0))), (q41, .inl (t 2, 40, .inr (.inl (fun _ => 0)))), (q42, .inl (t 1, 40, .inl (fun _ => 0))), (q43, .inl (t 1, 40, .inl (fun _ => 0))), (q44, .inl (t 1, 40, .inl (fun _ => 0))), (q45, .inl (t 1, 40, .inl (fun _ => 0))), (q46, .inl (t 1, 40, .inl (fun _ => 0))), (q47, .inl (t 3, 40, .inl (fun _ => 0))), (q48, .inl (t 1, 40, .inl (fun _ => 0))), (q49, .inl (t 2, 40, .inr (.inl (fun _ => 0)))), (q50, .inl (t 3, 40, .inl (fun _ => 0))), (q51, .inl (t 1, 40, .inl (fun _ => 0))), (q52, .inl (t 1, 800, .inl (fun _ => 0))), (q53, .inl (t 1, 40, .inl (fun _ => 0))), (q54, .inl (t 0, 480, .inl (fun _ => 0))), (q55, .inl (t 1, 40, .inl (fun _ => 0))), (q56, .inl (t 2, 80, .inr (.inl (fun _ => 0)))), (q57, .inl (t 1, 80, .inl (fun _ => 0))), (q58, .inl (t 2, 80, .inr (.inl (fun _ => 0)))), (q59, .inl (t 2, 80, .inr (.inl (fun _ => 0)))), (q60, .inl (t 3, 80, .inl (fun _ => 0))), (q61, .inl (t 1, 16, .inl (fun _ => 0))), (q62, .inl (t 1, 16, .inl (fun _ => 0))), (q63, .inl (t 1, 16, .inl (fun _ => 0))), (q64, .inl (t 3, 16, .inl (fun _ => 0))), (q65, .inl (t 2, 16, .inr (.inl (fun _ => 0)))), (q66, .inl (t 2, 16, .inr (.inl (fun _ => 0)))), (q67, .inl (t 1, 16, .inl (fun _ => 0))), (q68, .inl (t 1, 16, .inl (fun _ => 0))), (q69, .inl (t 2, 16, .inr (.inl (fun _ => 0)))), (q70, .inl (t 1, 16, .inl (fun _ => 0))), (q71, .inl (t 2, 16, .inr (.inl (fun _ => 0)))), (q72, .inl (t 2, 16, .inr (.inl (fun _ => 0)))), (q73, .inl (t 3, 16, .inl (fun _ => 0))), (q74, .inl (t 1, 16, .inl (fun _ => 0))), (q75, .inl (t 0, 64000, .inl (fun _ => 0))), (q76, .inl (t 0, 90000, .inl (fun _ => 0))), (q77, .inl (t 1, 130, .inl (fun _ => 0))), (q78, .inl (t 1, 130, .inl (fun _ => 0))), (q79, .inl (t 1, 130, .inl (fun _ => 0)))] := hD
  replace hlen : ([.ref q0, .int 0, .long 0, .ref q1, .ref q2, .ref q3, .ref q4, .ref q5, .ref q6, .ref q7, .ref q8, .ref q9, .ref q10, .ref q11, .ref q12, .ref q13, .int 0, .ref q14, .ref q15, .ref q16, .ref q17, .ref q18, .ref q19, .ref q20, .ref q21, .ref q22, .ref q23, .ref q24, .ref q25, .ref q26, .ref q27, .ref q28, .ref q29, .ref q30, .ref q31, .ref q32, .ref q33, .ref q34, .ref q35, .ref q36, .ref q37, .ref q38, .ref q39, .ref q40, .ref q41, .ref q42, .ref q43, .ref q44, .ref q45, .ref q46, .ref q47, .ref q48, .ref q49, .ref q50, .ref q51, .ref q52, .ref q53, .ref q54, .ref q55, .long 0, .long 0, .long 0, .long 0, .int 0, .ref q56, .ref q57, .ref q58, .ref q59, .ref q60, .int 0, .ref q61, .ref q62, .ref q63, .ref q64, .ref q65, .ref q66, .ref q67, .ref q68, .ref q69, .ref q70, .ref q71, .ref q72, .ref q73, .ref q74, .ref q75, .null, .int 0, .int 0, .int 0, .ref q76, .int 0, .int 0, .int 0, .int 0, .int 0, .int 0, .long 0, .long 0, .int 0, .int 0, .int 0, .long 0, .long 0, .int 0, .long 0, .long 0, .long 0, .long 0, .int 0, .int 0, .int 0, .long 0, .ref q77, .ref q78, .ref q79, .int 0, .int 0, .int 0, .int 0, .int 0] : List Value).length = 120 := rfl
  have hP : va_P D cl1 (mW t h0 (fun j => [q0, q1, q2, q3, q4, q5, q6, q7, q8, q9, q10, q11, q12, q13, q14, q15, q16, q17, q18, q19, q20, q21, q22, q23, q24, q25, q26, q27, q28, q29, q30, q31, q32, q33, q34, q35, q36, q37, q38, q39, q40, q41, q42, q43, q44, q45, q46, q47, q48, q49, q50, q51, q52, q53, q54, q55, q56, q57, q58, q59, q60, q61, q62, q63, q64, q65, q66, q67, q68, q69, q70, q71, q72, q73, q74, q75, q76, q77, q78, q79].getD j 0) (fun _ => 0)) H := hP
  have hD : va_D A (mW t h0 (fun j => [q0, q1, q2, q3, q4, q5, q6, q7, q8, q9, q10, q11, q12, q13, q14, q15, q16, q17, q18, q19, q20, q21, q22, q23, q24, q25, q26, q27, q28, q29, q30, q31, q32, q33, q34, q35, q36, q37, q38, q39, q40, q41, q42, q43, q44, q45, q46, q47, q48, q49, q50, q51, q52, q53, q54, q55, q56, q57, q58, q59, q60, q61, q62, q63, q64, q65, q66, q67, q68, q69, q70, q71, q72, q73, q74, q75, q76, q77, q78, q79].getD j 0) (fun _ => 0)) := hD
  generalize (fun j => [q0, q1, q2, q3, q4, q5, q6, q7, q8, q9, q10, q11, q12, q13, q14, q15, q16, q17, q18, q19, q20, q21, q22, q23, q24, q25, q26, q27, q28, q29, q30, q31, q32, q33, q34, q35, q36, q37, q38, q39, q40, q41, q42, q43, q44, q45, q46, q47, q48, q49, q50, q51, q52, q53, q54, q55, q56, q57, q58, q59, q60, q61, q62, q63, q64, q65, q66, q67, q68, q69, q70, q71, q72, q73, q74, q75, q76, q77, q78, q79].getD j 0 : Nat → Nat) = L at hP hD
  refine W.widen (k := 80) (n := 1002194) (by decide) (by decide) ?_
  refine lv_iconst (v := 0) hx hb dX12_init_658 (by decide) ?_
  refine lv_istore_n (lv' := [(1, .int 0), (0, .ref h0)]) hx hb dX12_init_659 rfl hl (by decide) rfl (fun ls hl => ?_)
  have hl : lv_has ls 2 [(1, .int 0), (0, .ref h0)] := lv_sub hl [0, 1] rfl
  refine r_loopW (L0 := fun i => [(1, .int (nI i)), (0, .ref h0)]) (J := fun i ws => ∃ sr : Nat → Int32, (∀ j, j < i → sr j = -1) ∧ ws = mW t h0 L sr) (fun _ => 80) (fun _ => 1002194) 4 hl ⟨_, fun _ h => absurd h (Nat.not_lt_zero _), rfl⟩ hP hD hS (fun i hi ws ls H locs hJ hl hP hD hS ih => ?_) (fun ws ls H locs hJ hl hP hD hS => ?_)
  · obtain ⟨sr, hsr, rfl⟩ := hJ
    have hl : lv_has ls 2 [(1, .int (nI i)), (0, .ref h0)] := hl
    refine lv_iload_n hx hb dX12_init_660 rfl (lv_at hl 0 rfl) ?_
    refine lv_iconst (v := 4) hx hb dX12_init_661 (by decide) ?_
    refine lv_icmp_ge (tgt := 678) hx hb dX12_init_662 rfl (fun h => absurd h (nI_ge hi (by decide))) (fun _ => ?_)
    refine lv_aload_n hx hb dX12_init_665 rfl (lv_at hl 1 rfl) ?_
    refine r_get hF ci_X12 fl_X12_47 dX12_init_666 hP (q0 := 0) rfl rfl ?_
    refine lv_iload_n hx hb dX12_init_669 rfl (lv_at hl 0 rfl) ?_
    refine lv_iconst (v := (-1)) hx hb dX12_init_670 (by decide) ?_
    refine r_iast hF dX12_init_671 hP hD hS (q0 := 12) rfl (vp_in_nI hi (by decide)) (fun H locs hP hD hS => ?_)
    refine lv_iinc (lv' := [(1, .int (nI (i + 1))), (0, .ref h0)]) (k := 0) (v := (nI (i + 1))) hx hb dX12_init_672 hl rfl (nI_1 i) (by decide) rfl (fun ls hl => ?_)
    refine lv_goto (tgt := 660) hx hb dX12_init_675 rfl ?_
    refine ih _ ls H locs ⟨upd sr (nI i).toNatClampNeg (-1), fun j hj => ?_, rfl⟩ hl hP hD hS
    rw [nI_clamp (by omega)]
    by_cases hji : j = i
    · rw [hji]; exact pk_us
    · rw [pk_un hji]; exact hsr j (by omega)
  · obtain ⟨sr, hsr, rfl⟩ := hJ
    have hl : lv_has ls 2 [(1, .int (nI 4)), (0, .ref h0)] := hl
    refine lv_iload_n hx hb dX12_init_660 rfl (lv_at hl 0 rfl) ?_
    refine lv_iconst (v := 4) hx hb dX12_init_661 (by decide) ?_
    refine lv_icmp_ge (tgt := 678) hx hb dX12_init_662 rfl (fun _ => ?_) (fun h => absurd (nI_le (Nat.le_refl 4) (by decide)) h)
    refine lv_aload_n hx hb dX12_init_678 rfl (lv_at hl 1 rfl) ?_
    refine r_cKV (As := []) (rest := []) hF mv_X12_258 ci_X12 (fun sz => c_X12_begin l D t h0 L sr sz) dX12_init_679 rfl rfl (by decide) rfl hl.1 (by decide) hP hD hS hA (q0 := 0) rfl (by decide) rfl (fun H locs hP hS => ?_)
    exact r_retW hF hr hlk dX12_init_682 hP hD hS ⟨L, sr, hsr, rfl⟩
end
section
theorem def_X6 : ∀ j, j < 2 → defaultValue (tyX6 j) = vp_V [.null, .int 0] j := by
  intro j hj
  have h : ∀ j : Fin 2, defaultValue (tyX6 j.val) = vp_V [.null, .int 0] j.val := by decide +kernel
  exact h ⟨j, hj⟩
theorem def_X2 : ∀ j, j < 15 → defaultValue (tyX2 j) = vp_V [.int 0, .int 0, .null, .long 0, .null, .null, .int 0, .long 0, .int 0, .int 0, .long 0, .long 0, .int 0, .long 0, .long 0] j := by
  intro j hj
  have h : ∀ j : Fin 15, defaultValue (tyX2 j.val) = vp_V [.int 0, .int 0, .null, .long 0, .null, .null, .int 0, .long 0, .int 0, .int 0, .long 0, .long 0, .int 0, .long 0, .long 0] j.val := by decide +kernel
  exact h ⟨j, hj⟩
theorem def_X1 : ∀ j, j < 15 → defaultValue (tyX1 j) = vp_V [.int 0, .int 0, .int 0, .int 0, .null, .int 0, .int 0, .long 0, .long 0, .long 0, .long 0, .int 0, .int 0, .int 0, .null] j := by
  intro j hj
  have h : ∀ j : Fin 15, defaultValue (tyX1 j.val) = vp_V [.int 0, .int 0, .int 0, .int 0, .null, .int 0, .int 0, .long 0, .long 0, .long 0, .long 0, .int 0, .int 0, .int 0, .null] j.val := by decide +kernel
  exact h ⟨j, hj⟩
theorem def_X4 : ∀ j, j < 14 → defaultValue (tyX4 j) = vp_V [.int 0, .int 0, .int 0, .int 0, .int 0, .null, .int 0, .int 0, .long 0, .long 0, .long 0, .long 0, .int 0, .null] j := by
  intro j hj
  have h : ∀ j : Fin 14, defaultValue (tyX4 j.val) = vp_V [.int 0, .int 0, .int 0, .int 0, .int 0, .null, .int 0, .int 0, .long 0, .long 0, .long 0, .long 0, .int 0, .null] j.val := by decide +kernel
  exact h ⟨j, hj⟩
theorem def_X9 : ∀ j, j < 2 → defaultValue (tyX9 j) = vp_V [.null, .int 0] j := by
  intro j hj
  have h : ∀ j : Fin 2, defaultValue (tyX9 j.val) = vp_V [.null, .int 0] j.val := by decide +kernel
  exact h ⟨j, hj⟩
theorem def_X11 : ∀ j, j < 18 → defaultValue (tyX11 j) = vp_V [.null, .null, .null, .null, .null, .null, .int 0, .long 0, .null, .null, .null, .null, .null, .null, .null, .null, .null, .null] j := by
  intro j hj
  have h : ∀ j : Fin 18, defaultValue (tyX11 j.val) = vp_V [.null, .null, .null, .null, .null, .null, .int 0, .long 0, .null, .null, .null, .null, .null, .null, .null, .null, .null, .null] j.val := by decide +kernel
  exact h ⟨j, hj⟩
theorem def_Jx4a65c : ∀ j, j < 3 → defaultValue (tyJx4a65c j) = vp_V [.int 0, .null, .int 0] j := by
  intro j hj
  have h : ∀ j : Fin 3, defaultValue (tyJx4a65c j.val) = vp_V [.int 0, .null, .int 0] j.val := by decide +kernel
  exact h ⟨j, hj⟩
theorem nw_call {w : Cond} (hw : w.onTables = true) {U : State} {g : JFrame} {mk : MethodId} {a : Array Value} (h : va_Nw w U) : va_Nw w (U.calling g mk a) := va_tabs (A := #[]) (A' := #[]) (u := U) (U := U.calling g mk a) hw rfl h
def rowI (t : Nat → ClassId) (h0 : Nat) (w1 : va_W) : Prop := ∃ b : Nat, w1 = [(b, .inl (t 0, 64, .inl (fun _ => 0))), (h0, .inr (2, [.ref b, .int 0]))]
set_option maxRecDepth 100000 in
set_option maxHeartbeats 4000000 in
theorem c_X6_init (l : Launch) (D : va_G) (t : Nat → ClassId) (h0 : Nat) (sz : Nat) : WV l D t yX6_init cX6_init 1 ({ frames := 1, cells := 1, slots := 64, locals := 12 }) [(h0, .inr (2, [.null, .int 0]))] sz [.ref h0] 1 64 (fun _ => True) (rowI t h0) := by
  refine goE (by decide) (Nat.le_of_ble_eq_true rfl) ?_
  intro p e s m below meth c ls A hF hr hlk hin hsz hAe hP hD hS hA hl hE
  rw [hAe]
  have hF : FX p m c cX6_init 1 s _ RX6 D t := hF
  have hx := hF.1.1
  have hb := hF.1.2.1
  have hl : lv_has ls 1 [(0, .ref h0)] := hl
  refine lv_aload_n hx hb dX6_init_0 rfl (lv_at hl 0 rfl) ?_
  refine W.objInit hx hb hF.1.2.2.2.1 (hF.1.2.2.2.2 _ (wb 9 rfl)) (hF.1.2.2.2.2 _ (wb 10 rfl)) (hF.1.2.2.2.2 _ (wb 11 rfl)) rfl (hl.1.trans hF.1.2.2.1.symm) rfl dX6_init_1 (Nat.le_of_ble_eq_true rfl) (Nat.le_of_ble_eq_true rfl) ?_
  refine W.eq (g2 := F0 m 4 ls []) rfl ?_
  refine lv_aload_n hx hb dX6_init_4 rfl (lv_at hl 0 rfl) ?_
  refine lv_bipush (v := 64) hx hb dX6_init_5 (by decide) ?_
  refine r_newF (t0 := 0) (N' := 64) (a0 := (64, .inl (fun _ => 0))) hF dX6_init_7 (wb 12 rfl) rfl rfl id hP hD hS hA (fun _ => rfl) (by decide) (by decide) (by decide) (by decide) (by decide) (fun q1 H hP hD hS => ?_)
  refine r_put hF ci_X6 fl_X6_7 dX6_init_9 hP hD hS (q0 := 1) rfl rfl rfl rfl (Nat.le_of_ble_eq_true rfl) (fun H locs hP hD hS => ?_)
  replace hP : va_P D cl1 ([(q1, .inl (t 0, 64, .inl (fun _ => 0))), (h0, .inr (2, [.ref q1, .int 0]))]) H := hP
  replace hD : va_D A ([(q1, .inl (t 0, 64, .inl (fun _ => 0))), (h0, .inr (2, [.ref q1, .int 0]))]) := hD
  exact r_retW hF hr hlk dX6_init_12 hP hD hS ⟨q1, rfl⟩
def connI (t : Nat → ClassId) (h0 : Nat) (w1 : va_W) : Prop := ∃ kc kcb ks ksb kf : Nat, w1 = [(kf, .inl (t 2, 16, .inr (.inl (fun _ => 0)))), (ksb, .inl (t 0, 64, .inl (fun _ => 0))), (ks, .inr (2, [.ref ksb, .int 0])), (kcb, .inl (t 0, 64, .inl (fun _ => 0))), (kc, .inr (2, [.ref kcb, .int 0])), (h0, .inr (3, [.int 0, .int 0, .ref kc, .long 0, .ref ks, .ref kf, .int 0, .long 0, .int 0, .int 0, .long 0, .long 0, .int 0, .long 0, .long 0]))]
set_option maxRecDepth 100000 in
set_option maxHeartbeats 4000000 in
theorem c_X2_init (l : Launch) (D : va_G) (t : Nat → ClassId) (h0 : Nat) (sz : Nat) : WV l D t yX2_init cX2_init 1 ({ frames := 2, cells := 5, slots := 148, locals := 32 }) [(h0, .inr (3, [.int 0, .int 0, .null, .long 0, .null, .null, .int 0, .long 0, .int 0, .int 0, .long 0, .long 0, .int 0, .long 0, .long 0]))] sz [.ref h0] 5 148 (fun U => va_Nw (.methodLinkNest RX2 11 yX6_init "ShareHouse") U) (connI t h0) := by
  refine goE (by decide) (Nat.le_of_ble_eq_true rfl) ?_
  intro p e s m below meth c ls A hF hr hlk hin hsz hAe hP hD hS hA hl hE
  rw [hAe]
  have hF : FX p m c cX2_init 1 s _ RX2 D t := hF
  have hx := hF.1.1
  have hb := hF.1.2.1
  have hl : lv_has ls 1 [(0, .ref h0)] := hl
  refine lv_aload_n hx hb dX2_init_0 rfl (lv_at hl 0 rfl) ?_
  refine W.objInit hx hb hF.1.2.2.2.1 (hF.1.2.2.2.2 _ (wb 14 rfl)) (hF.1.2.2.2.2 _ (wb 10 rfl)) (hF.1.2.2.2.2 _ (wb 11 rfl)) rfl (hl.1.trans hF.1.2.2.1.symm) rfl dX2_init_1 (Nat.le_of_ble_eq_true rfl) (Nat.le_of_ble_eq_true rfl) ?_
  refine W.eq (g2 := F0 m 4 ls []) rfl ?_
  refine lv_aload_n hx hb dX2_init_4 rfl (lv_at hl 0 rfl) ?_
  refine r_new (fs := [.null, .int 0]) hF ci_X6 dX2_init_5 (wb 15 rfl) (wb 17 rfl) (wb 16 rfl) hP hD hS hA def_X6 (by decide) (by decide) (fun kc H hP hD hS => ?_)
  refine lv_dup hx hb dX2_init_8 rfl ?_
  refine r_cWN (wc := [(kc, .inr (2, [.null, .int 0]))]) (X := [(h0, .inr (3, [.int 0, .int 0, .null, .long 0, .null, .null, .int 0, .long 0, .int 0, .int 0, .long 0, .long 0, .int 0, .long 0, .long 0]))]) (As := []) (rest := [.ref kc, .ref h0]) hF hE mn_X2_11 (c_X6_init l D t kc _) (fun _ _ _ _ h => h) (fun _ _ _ => trivial) dX2_init_9 rfl rfl (by decide) rfl hl.1 (Nat.le_of_ble_eq_true rfl) hP hD hS hA (by decide) rfl (fun w1 H locs hI hP hD hS => ?_)
  obtain ⟨kcb, rfl⟩ := hI
  replace hP : va_P D cl1 ([(kcb, .inl (t 0, 64, .inl (fun _ => 0))), (kc, .inr (2, [.ref kcb, .int 0])), (h0, .inr (3, [.int 0, .int 0, .null, .long 0, .null, .null, .int 0, .long 0, .int 0, .int 0, .long 0, .long 0, .int 0, .long 0, .long 0]))]) H := hP
  replace hD : va_D A ([(kcb, .inl (t 0, 64, .inl (fun _ => 0))), (kc, .inr (2, [.ref kcb, .int 0])), (h0, .inr (3, [.int 0, .int 0, .null, .long 0, .null, .null, .int 0, .long 0, .int 0, .int 0, .long 0, .long 0, .int 0, .long 0, .long 0]))]) := hD
  refine r_putF hF ci_X2 fl_X2_12 dX2_init_12 hP hD hS (q0 := 2) rfl hin rfl rfl rfl rfl (Nat.le_of_ble_eq_true rfl) (fun H locs hP hD hS => ?_)
  replace hP : va_P D cl1 ([(kcb, .inl (t 0, 64, .inl (fun _ => 0))), (kc, .inr (2, [.ref kcb, .int 0])), (h0, .inr (3, [.int 0, .int 0, .ref kc, .long 0, .null, .null, .int 0, .long 0, .int 0, .int 0, .long 0, .long 0, .int 0, .long 0, .long 0]))]) H := hP
  replace hD : va_D A ([(kcb, .inl (t 0, 64, .inl (fun _ => 0))), (kc, .inr (2, [.ref kcb, .int 0])), (h0, .inr (3, [.int 0, .int 0, .ref kc, .long 0, .null, .null, .int 0, .long 0, .int 0, .int 0, .long 0, .long 0, .int 0, .long 0, .long 0]))]) := hD
  refine lv_aload_n hx hb dX2_init_15 rfl (lv_at hl 0 rfl) ?_
  refine r_new (fs := [.null, .int 0]) hF ci_X6 dX2_init_16 (wb 15 rfl) (wb 17 rfl) (wb 16 rfl) hP hD hS hA def_X6 (by decide) (by decide) (fun ks H hP hD hS => ?_)
  refine lv_dup hx hb dX2_init_19 rfl ?_
  refine r_cWN (wc := [(ks, .inr (2, [.null, .int 0]))]) (X := [(kcb, .inl (t 0, 64, .inl (fun _ => 0))), (kc, .inr (2, [.ref kcb, .int 0])), (h0, .inr (3, [.int 0, .int 0, .ref kc, .long 0, .null, .null, .int 0, .long 0, .int 0, .int 0, .long 0, .long 0, .int 0, .long 0, .long 0]))]) (As := []) (rest := [.ref ks, .ref h0]) hF hE mn_X2_11 (c_X6_init l D t ks _) (fun _ _ _ _ h => h) (fun _ _ _ => trivial) dX2_init_20 rfl rfl (by decide) rfl hl.1 (Nat.le_of_ble_eq_true rfl) hP hD hS hA (by decide) rfl (fun w1 H locs hI hP hD hS => ?_)
  obtain ⟨ksb, rfl⟩ := hI
  replace hP : va_P D cl1 ([(ksb, .inl (t 0, 64, .inl (fun _ => 0))), (ks, .inr (2, [.ref ksb, .int 0])), (kcb, .inl (t 0, 64, .inl (fun _ => 0))), (kc, .inr (2, [.ref kcb, .int 0])), (h0, .inr (3, [.int 0, .int 0, .ref kc, .long 0, .null, .null, .int 0, .long 0, .int 0, .int 0, .long 0, .long 0, .int 0, .long 0, .long 0]))]) H := hP
  replace hD : va_D A ([(ksb, .inl (t 0, 64, .inl (fun _ => 0))), (ks, .inr (2, [.ref ksb, .int 0])), (kcb, .inl (t 0, 64, .inl (fun _ => 0))), (kc, .inr (2, [.ref kcb, .int 0])), (h0, .inr (3, [.int 0, .int 0, .ref kc, .long 0, .null, .null, .int 0, .long 0, .int 0, .int 0, .long 0, .long 0, .int 0, .long 0, .long 0]))]) := hD
  refine r_putF hF ci_X2 fl_X2_18 dX2_init_23 hP hD hS (q0 := 4) rfl hin rfl rfl rfl rfl (Nat.le_of_ble_eq_true rfl) (fun H locs hP hD hS => ?_)
  replace hP : va_P D cl1 ([(ksb, .inl (t 0, 64, .inl (fun _ => 0))), (ks, .inr (2, [.ref ksb, .int 0])), (kcb, .inl (t 0, 64, .inl (fun _ => 0))), (kc, .inr (2, [.ref kcb, .int 0])), (h0, .inr (3, [.int 0, .int 0, .ref kc, .long 0, .ref ks, .null, .int 0, .long 0, .int 0, .int 0, .long 0, .long 0, .int 0, .long 0, .long 0]))]) H := hP
  replace hD : va_D A ([(ksb, .inl (t 0, 64, .inl (fun _ => 0))), (ks, .inr (2, [.ref ksb, .int 0])), (kcb, .inl (t 0, 64, .inl (fun _ => 0))), (kc, .inr (2, [.ref kcb, .int 0])), (h0, .inr (3, [.int 0, .int 0, .ref kc, .long 0, .ref ks, .null, .int 0, .long 0, .int 0, .int 0, .long 0, .long 0, .int 0, .long 0, .long 0]))]) := hD
  refine lv_aload_n hx hb dX2_init_26 rfl (lv_at hl 0 rfl) ?_
  refine lv_bipush (v := 16) hx hb dX2_init_27 (by decide) ?_
  refine r_newF (t0 := 2) (N' := 16) (a0 := (16, .inr (.inl (fun _ => 0)))) hF dX2_init_29 (wb 138 rfl) rfl rfl id hP hD hS hA (fun _ => rfl) (by decide) (by decide) (by decide) (by decide) (by decide) (fun kf H hP hD hS => ?_)
  refine r_putF hF ci_X2 fl_X2_21 dX2_init_31 hP hD hS (q0 := 5) rfl hin rfl rfl rfl rfl (Nat.le_of_ble_eq_true rfl) (fun H locs hP hD hS => ?_)
  replace hP : va_P D cl1 ([(kf, .inl (t 2, 16, .inr (.inl (fun _ => 0)))), (ksb, .inl (t 0, 64, .inl (fun _ => 0))), (ks, .inr (2, [.ref ksb, .int 0])), (kcb, .inl (t 0, 64, .inl (fun _ => 0))), (kc, .inr (2, [.ref kcb, .int 0])), (h0, .inr (3, [.int 0, .int 0, .ref kc, .long 0, .ref ks, .ref kf, .int 0, .long 0, .int 0, .int 0, .long 0, .long 0, .int 0, .long 0, .long 0]))]) H := hP
  replace hD : va_D A ([(kf, .inl (t 2, 16, .inr (.inl (fun _ => 0)))), (ksb, .inl (t 0, 64, .inl (fun _ => 0))), (ks, .inr (2, [.ref ksb, .int 0])), (kcb, .inl (t 0, 64, .inl (fun _ => 0))), (kc, .inr (2, [.ref kcb, .int 0])), (h0, .inr (3, [.int 0, .int 0, .ref kc, .long 0, .ref ks, .ref kf, .int 0, .long 0, .int 0, .int 0, .long 0, .long 0, .int 0, .long 0, .long 0]))]) := hD
  exact r_retW hF hr hlk dX2_init_34 hP hD hS ⟨kc, kcb, ks, ksb, kf, rfl⟩
def changeI (t : Nat → ClassId) (h0 : Nat) (w1 : va_W) : Prop := ∃ nm bt : Nat, w1 = [(bt, .inl (t 0, 0, .inl (fun _ => 0))), (nm, .inl (t 0, 12, .inl (fun _ => 0))), (h0, .inr (4, [.int 0, .int 0, .int 0, .int 0, .ref nm, .int 0, .int 0, .long 0, .long 0, .long 0, .long 0, .int 0, .int 0, .int 0, .ref bt]))]
set_option maxRecDepth 100000 in
set_option maxHeartbeats 4000000 in
theorem c_X1_init (l : Launch) (D : va_G) (t : Nat → ClassId) (h0 : Nat) (sz : Nat) : WV l D t yX1_init cX1_init 1 ({ frames := 1, cells := 2, slots := 12, locals := 12 }) [(h0, .inr (4, [.int 0, .int 0, .int 0, .int 0, .null, .int 0, .int 0, .long 0, .long 0, .long 0, .long 0, .int 0, .int 0, .int 0, .null]))] sz [.ref h0] 2 12 (fun _ => True) (changeI t h0) := by
  refine goE (by decide) (Nat.le_of_ble_eq_true rfl) ?_
  intro p e s m below meth c ls A hF hr hlk hin hsz hAe hP hD hS hA hl hE
  rw [hAe]
  have hF : FX p m c cX1_init 1 s _ RX1 D t := hF
  have hx := hF.1.1
  have hb := hF.1.2.1
  have hl : lv_has ls 1 [(0, .ref h0)] := hl
  refine lv_aload_n hx hb dX1_init_0 rfl (lv_at hl 0 rfl) ?_
  refine W.objInit hx hb hF.1.2.2.2.1 (hF.1.2.2.2.2 _ (wb 139 rfl)) (hF.1.2.2.2.2 _ (wb 10 rfl)) (hF.1.2.2.2.2 _ (wb 11 rfl)) rfl (hl.1.trans hF.1.2.2.1.symm) rfl dX1_init_1 (Nat.le_of_ble_eq_true rfl) (Nat.le_of_ble_eq_true rfl) ?_
  refine W.eq (g2 := F0 m 4 ls []) rfl ?_
  refine lv_aload_n hx hb dX1_init_4 rfl (lv_at hl 0 rfl) ?_
  refine lv_bipush (v := 12) hx hb dX1_init_5 (by decide) ?_
  refine r_newF (t0 := 0) (N' := 12) (a0 := (12, .inl (fun _ => 0))) hF dX1_init_7 (wb 12 rfl) rfl rfl id hP hD hS hA (fun _ => rfl) (by decide) (by decide) (by decide) (by decide) (by decide) (fun nm H hP hD hS => ?_)
  refine r_putF hF ci_X1 fl_X1_9 dX1_init_9 hP hD hS (q0 := 1) rfl hin rfl rfl rfl rfl (Nat.le_of_ble_eq_true rfl) (fun H locs hP hD hS => ?_)
  replace hP : va_P D cl1 ([(nm, .inl (t 0, 12, .inl (fun _ => 0))), (h0, .inr (4, [.int 0, .int 0, .int 0, .int 0, .ref nm, .int 0, .int 0, .long 0, .long 0, .long 0, .long 0, .int 0, .int 0, .int 0, .null]))]) H := hP
  replace hD : va_D A ([(nm, .inl (t 0, 12, .inl (fun _ => 0))), (h0, .inr (4, [.int 0, .int 0, .int 0, .int 0, .ref nm, .int 0, .int 0, .long 0, .long 0, .long 0, .long 0, .int 0, .int 0, .int 0, .null]))]) := hD
  refine lv_aload_n hx hb dX1_init_12 rfl (lv_at hl 0 rfl) ?_
  refine lv_iconst (v := 0) hx hb dX1_init_13 (by decide) ?_
  refine r_newF (t0 := 0) (N' := 0) (a0 := (0, .inl (fun _ => 0))) hF dX1_init_14 (wb 12 rfl) rfl rfl id hP hD hS hA (fun _ => rfl) (by decide) (by decide) (by decide) (by decide) (by decide) (fun bt H hP hD hS => ?_)
  refine r_put hF ci_X1 fl_X1_15 dX1_init_16 hP hD hS (q0 := 2) rfl rfl rfl rfl (Nat.le_of_ble_eq_true rfl) (fun H locs hP hD hS => ?_)
  replace hP : va_P D cl1 ([(bt, .inl (t 0, 0, .inl (fun _ => 0))), (nm, .inl (t 0, 12, .inl (fun _ => 0))), (h0, .inr (4, [.int 0, .int 0, .int 0, .int 0, .ref nm, .int 0, .int 0, .long 0, .long 0, .long 0, .long 0, .int 0, .int 0, .int 0, .ref bt]))]) H := hP
  replace hD : va_D A ([(bt, .inl (t 0, 0, .inl (fun _ => 0))), (nm, .inl (t 0, 12, .inl (fun _ => 0))), (h0, .inr (4, [.int 0, .int 0, .int 0, .int 0, .ref nm, .int 0, .int 0, .long 0, .long 0, .long 0, .long 0, .int 0, .int 0, .int 0, .ref bt]))]) := hD
  exact r_retW hF hr hlk dX1_init_19 hP hD hS ⟨nm, bt, rfl⟩
abbrev eNode (i : Int32) (nm dt : Nat) : va_E := .inr (5, [.int i, .int 0, .int 0, .int 0, .int (-1), .ref nm, .int 0, .int 0, .long 0, .long 0, .long 0, .long 0, .int 0, .ref dt])
def nodeI (t : Nat → ClassId) (h0 : Nat) (i : Int32) (w1 : va_W) : Prop := ∃ nm dt : Nat, w1 = [(dt, .inl (t 0, 0, .inl (fun _ => 0))), (nm, .inl (t 0, 12, .inl (fun _ => 0))), (h0, eNode i nm dt)]
set_option maxRecDepth 100000 in
set_option maxHeartbeats 4000000 in
theorem c_X4_init (l : Launch) (D : va_G) (t : Nat → ClassId) (h0 : Nat) (i : Int32) (sz : Nat) : WV l D t yX4_init cX4_init 2 ({ frames := 1, cells := 2, slots := 12, locals := 12 }) [(h0, .inr (5, [.int 0, .int 0, .int 0, .int 0, .int 0, .null, .int 0, .int 0, .long 0, .long 0, .long 0, .long 0, .int 0, .null]))] sz [.ref h0, .int i] 2 12 (fun _ => True) (nodeI t h0 i) := by
  refine goE (by decide) (Nat.le_of_ble_eq_true rfl) ?_
  intro p e s m below meth c ls A hF hr hlk hin hsz hAe hP hD hS hA hl hE
  rw [hAe]
  have hF : FX p m c cX4_init 2 s _ RX4 D t := hF
  have hx := hF.1.1
  have hb := hF.1.2.1
  have hl : lv_has ls 2 [(0, .ref h0), (1, .int i)] := hl
  refine lv_aload_n hx hb dX4_init_0 rfl (lv_at hl 0 rfl) ?_
  refine W.objInit hx hb hF.1.2.2.2.1 (hF.1.2.2.2.2 _ (wb 23 rfl)) (hF.1.2.2.2.2 _ (wb 10 rfl)) (hF.1.2.2.2.2 _ (wb 11 rfl)) rfl (hl.1.trans hF.1.2.2.1.symm) rfl dX4_init_1 (Nat.le_of_ble_eq_true rfl) (Nat.le_of_ble_eq_true rfl) ?_
  refine W.eq (g2 := F0 m 4 ls []) rfl ?_
  refine lv_aload_n hx hb dX4_init_4 rfl (lv_at hl 0 rfl) ?_
  refine lv_iconst (v := (-1)) hx hb dX4_init_5 (by decide) ?_
  refine r_put hF ci_X4 fl_X4_9 dX4_init_6 hP hD hS (q0 := 0) rfl rfl rfl rfl (Nat.le_of_ble_eq_true rfl) (fun H locs hP hD hS => ?_)
  replace hP : va_P D cl1 ([(h0, .inr (5, [.int 0, .int 0, .int 0, .int 0, .int (-1), .null, .int 0, .int 0, .long 0, .long 0, .long 0, .long 0, .int 0, .null]))]) H := hP
  replace hD : va_D A ([(h0, .inr (5, [.int 0, .int 0, .int 0, .int 0, .int (-1), .null, .int 0, .int 0, .long 0, .long 0, .long 0, .long 0, .int 0, .null]))]) := hD
  refine lv_aload_n hx hb dX4_init_9 rfl (lv_at hl 0 rfl) ?_
  refine lv_bipush (v := 12) hx hb dX4_init_10 (by decide) ?_
  refine r_newF (t0 := 0) (N' := 12) (a0 := (12, .inl (fun _ => 0))) hF dX4_init_12 (wb 12 rfl) rfl rfl id hP hD hS hA (fun _ => rfl) (by decide) (by decide) (by decide) (by decide) (by decide) (fun nm H hP hD hS => ?_)
  refine r_putF hF ci_X4 fl_X4_15 dX4_init_14 hP hD hS (q0 := 1) rfl hin rfl rfl rfl rfl (Nat.le_of_ble_eq_true rfl) (fun H locs hP hD hS => ?_)
  replace hP : va_P D cl1 ([(nm, .inl (t 0, 12, .inl (fun _ => 0))), (h0, .inr (5, [.int 0, .int 0, .int 0, .int 0, .int (-1), .ref nm, .int 0, .int 0, .long 0, .long 0, .long 0, .long 0, .int 0, .null]))]) H := hP
  replace hD : va_D A ([(nm, .inl (t 0, 12, .inl (fun _ => 0))), (h0, .inr (5, [.int 0, .int 0, .int 0, .int 0, .int (-1), .ref nm, .int 0, .int 0, .long 0, .long 0, .long 0, .long 0, .int 0, .null]))]) := hD
  refine lv_aload_n hx hb dX4_init_17 rfl (lv_at hl 0 rfl) ?_
  refine lv_iconst (v := 0) hx hb dX4_init_18 (by decide) ?_
  refine r_newF (t0 := 0) (N' := 0) (a0 := (0, .inl (fun _ => 0))) hF dX4_init_19 (wb 12 rfl) rfl rfl id hP hD hS hA (fun _ => rfl) (by decide) (by decide) (by decide) (by decide) (by decide) (fun dt H hP hD hS => ?_)
  refine r_put hF ci_X4 fl_X4_19 dX4_init_21 hP hD hS (q0 := 2) rfl rfl rfl rfl (Nat.le_of_ble_eq_true rfl) (fun H locs hP hD hS => ?_)
  replace hP : va_P D cl1 ([(dt, .inl (t 0, 0, .inl (fun _ => 0))), (nm, .inl (t 0, 12, .inl (fun _ => 0))), (h0, .inr (5, [.int 0, .int 0, .int 0, .int 0, .int (-1), .ref nm, .int 0, .int 0, .long 0, .long 0, .long 0, .long 0, .int 0, .ref dt]))]) H := hP
  replace hD : va_D A ([(dt, .inl (t 0, 0, .inl (fun _ => 0))), (nm, .inl (t 0, 12, .inl (fun _ => 0))), (h0, .inr (5, [.int 0, .int 0, .int 0, .int 0, .int (-1), .ref nm, .int 0, .int 0, .long 0, .long 0, .long 0, .long 0, .int 0, .ref dt]))]) := hD
  refine lv_aload_n hx hb dX4_init_24 rfl (lv_at hl 0 rfl) ?_
  refine lv_iload_n hx hb dX4_init_25 rfl (lv_at hl 1 rfl) ?_
  refine r_putF hF ci_X4 fl_X4_22 dX4_init_26 hP hD hS (q0 := 2) rfl hin rfl rfl rfl rfl (Nat.le_of_ble_eq_true rfl) (fun H locs hP hD hS => ?_)
  replace hP : va_P D cl1 ([(dt, .inl (t 0, 0, .inl (fun _ => 0))), (nm, .inl (t 0, 12, .inl (fun _ => 0))), (h0, .inr (5, [.int i, .int 0, .int 0, .int 0, .int (-1), .ref nm, .int 0, .int 0, .long 0, .long 0, .long 0, .long 0, .int 0, .ref dt]))]) H := hP
  replace hD : va_D A ([(dt, .inl (t 0, 0, .inl (fun _ => 0))), (nm, .inl (t 0, 12, .inl (fun _ => 0))), (h0, .inr (5, [.int i, .int 0, .int 0, .int 0, .int (-1), .ref nm, .int 0, .int 0, .long 0, .long 0, .long 0, .long 0, .int 0, .ref dt]))]) := hD
  exact r_retW hF hr hlk dX4_init_29 hP hD hS ⟨nm, dt, rfl⟩
def nodesIn (t : Nat → ClassId) (T : va_W) (f : Nat → Option Nat) (i : Nat) : Prop := ∀ j, j < i → ∃ a nm dt : Nat, f j = some a ∧ (a, eNode (nI j) nm dt) ∈ T ∧ (nm, (.inl (t 0, 12, .inl (fun _ => 0)) : va_E)) ∈ T ∧ (dt, (.inl (t 0, 0, .inl (fun _ => 0)) : va_E)) ∈ T
abbrev volW (t : Nat → ClassId) (h0 an : Nat) (f : Nat → Option Nat) (T : va_W) : va_W := [(an, .inl (t 6, 80, .inr (.inr (.inr (.inr f))))), (h0, .inr (6, [.ref an, .int 0]))] ++ T
def volI (t : Nat → ClassId) (h0 : Nat) (w1 : va_W) : Prop := ∃ (an : Nat) (f : Nat → Option Nat) (T : va_W), w1 = volW t h0 an f T ∧ nodesIn t T f 80
theorem nodesIn_0 {t : Nat → ClassId} {T : va_W} {f : Nat → Option Nat} : nodesIn t T f 0 := fun _ h => absurd h (Nat.not_lt_zero _)
theorem nodesIn_s {t : Nat → ClassId} {T : va_W} {f : Nat → Option Nat} {i a nm dt : Nat} (h : nodesIn t T f i) : nodesIn t ([(dt, .inl (t 0, 0, .inl (fun _ => 0))), (nm, .inl (t 0, 12, .inl (fun _ => 0))), (a, eNode (nI i) nm dt)] ++ T) (va_up f i (some a)) (i + 1) := by
  intro j hj
  by_cases hji : j = i
  · subst hji
    exact ⟨a, nm, dt, by simp [va_up], List.mem_append_left _ (by simp), List.mem_append_left _ (by simp), List.mem_append_left _ (by simp)⟩
  · obtain ⟨a', nm', dt', h1, h2, h3, h4⟩ := h j (by omega)
    exact ⟨a', nm', dt', by simp only [va_up, if_neg hji]; exact h1, List.mem_append_right _ h2, List.mem_append_right _ h3, List.mem_append_right _ h4⟩
set_option maxRecDepth 100000 in
set_option maxHeartbeats 4000000 in
theorem c_X9_init (l : Launch) (D : va_G) (t : Nat → ClassId) (h0 : Nat) (sz : Nat) : WV l D t yX9_init cX9_init 2 ({ frames := 2, cells := 241, slots := 2160, locals := 33 }) [(h0, .inr (6, [.null, .int 0]))] sz [.ref h0] 241 2160 (fun U => va_AO "ShareHouse$Node" U) (volI t h0) := by
  refine goE (by decide) (Nat.le_of_ble_eq_true rfl) ?_
  intro p e s m below meth c ls A hF hr hlk hin hsz hAe hP hD hS hA hl hE
  rw [hAe]
  have hF : FX p m c cX9_init 2 s _ RX9 D t := hF
  have hx := hF.1.1
  have hb := hF.1.2.1
  have hl : lv_has ls 2 [(0, .ref h0)] := hl
  refine lv_aload_n hx hb dX9_init_0 rfl (lv_at hl 0 rfl) ?_
  refine W.objInit hx hb hF.1.2.2.2.1 (hF.1.2.2.2.2 _ (wb 28 rfl)) (hF.1.2.2.2.2 _ (wb 10 rfl)) (hF.1.2.2.2.2 _ (wb 11 rfl)) rfl (hl.1.trans hF.1.2.2.1.symm) rfl dX9_init_1 (Nat.le_of_ble_eq_true rfl) (Nat.le_of_ble_eq_true rfl) ?_
  refine W.eq (g2 := F0 m 4 ls []) rfl ?_
  refine lv_aload_n hx hb dX9_init_4 rfl (lv_at hl 0 rfl) ?_
  refine lv_bipush (v := 80) hx hb dX9_init_5 (by decide) ?_
  refine r_newq (t0 := 6) (N' := 80) hF dX9_init_7 (wb 29 rfl) hE rfl hP hD hS hA (by decide) (by decide) (by decide) (by decide) (by decide) (fun an H hP hD hS => ?_)
  refine r_putF hF ci_X9 fl_X9_11 dX9_init_10 hP hD hS (q0 := 1) rfl hin rfl rfl rfl rfl (Nat.le_of_ble_eq_true rfl) (fun H locs hP hD hS => ?_)
  replace hP : va_P D cl1 ([(an, .inl (t 6, 80, .inr (.inr (.inr (.inr (fun _ => none)))))), (h0, .inr (6, [.ref an, .int 0]))]) H := hP
  replace hD : va_D A ([(an, .inl (t 6, 80, .inr (.inr (.inr (.inr (fun _ => none)))))), (h0, .inr (6, [.ref an, .int 0]))]) := hD
  refine lv_iconst (v := 0) hx hb dX9_init_13 (by decide) ?_
  refine lv_istore_n (lv' := [(1, .int 0), (0, .ref h0)]) hx hb dX9_init_14 rfl hl (by decide) rfl (fun ls hl => ?_)
  have hl : lv_has ls 2 [(1, .int 0), (0, .ref h0)] := lv_sub hl [0, 1] rfl
  refine r_loopW (L0 := fun i => [(1, .int (nI i)), (0, .ref h0)]) (J := fun i ws => ∃ (f : Nat → Option Nat) (T : va_W), ws = volW t h0 an f T ∧ nodesIn t T f i) (fun i => 1 + 3 * i) (fun i => 80 + 26 * i) 80 hl ⟨_, [], rfl, nodesIn_0⟩ hP hD hS (fun i hi ws ls H locs hJ hl hP hD hS ih => ?_) (fun ws ls H locs hJ hl hP hD hS => ?_)
  · obtain ⟨f, T, rfl, hT⟩ := hJ
    have hl : lv_has ls 2 [(1, .int (nI i)), (0, .ref h0)] := hl
    replace hP : va_P D cl1 ([(an, .inl (t 6, 80, .inr (.inr (.inr (.inr f))))), (h0, .inr (6, [.ref an, .int 0]))] ++ T) H := hP
    replace hD : va_D A ([(an, .inl (t 6, 80, .inr (.inr (.inr (.inr f))))), (h0, .inr (6, [.ref an, .int 0]))] ++ T) := hD
    refine lv_iload_n hx hb dX9_init_15 rfl (lv_at hl 0 rfl) ?_
    refine lv_aload_n hx hb dX9_init_16 rfl (lv_at hl 1 rfl) ?_
    refine r_get hF ci_X9 fl_X9_11 dX9_init_17 hP (q0 := 1) rfl rfl ?_
    refine r_alen (v := 80) hF dX9_init_20 hP (q0 := 0) rfl (t0 := 6) rfl rfl ?_
    refine lv_icmp_ge (tgt := 44) hx hb dX9_init_21 rfl (fun h => absurd h (nI_ge hi (by decide))) (fun _ => ?_)
    refine lv_aload_n hx hb dX9_init_24 rfl (lv_at hl 1 rfl) ?_
    refine r_get hF ci_X9 fl_X9_11 dX9_init_25 hP (q0 := 1) rfl rfl ?_
    refine lv_iload_n hx hb dX9_init_28 rfl (lv_at hl 0 rfl) ?_
    refine r_new (fs := [.int 0, .int 0, .int 0, .int 0, .int 0, .null, .int 0, .int 0, .long 0, .long 0, .long 0, .long 0, .int 0, .null]) hF ci_X4 dX9_init_29 (wb 29 rfl) (wb 32 rfl) (wb 31 rfl) hP hD hS hA def_X4 (show 1 + 3 * i + 1 ≤ 241 by omega) (show 80 + 26 * i + 14 ≤ 2160 by omega) (fun q H hP hD hS => ?_)
    refine lv_dup hx hb dX9_init_32 rfl ?_
    refine lv_iload_n hx hb dX9_init_33 rfl (lv_at hl 0 rfl) ?_
    refine r_cWI (wc := [(q, .inr (5, [.int 0, .int 0, .int 0, .int 0, .int 0, .null, .int 0, .int 0, .long 0, .long 0, .long 0, .long 0, .int 0, .null]))]) (X := [(an, .inl (t 6, 80, .inr (.inr (.inr (.inr f))))), (h0, .inr (6, [.ref an, .int 0]))] ++ T) (As := [.int (nI i)]) (rest := [.ref q, .int (nI i), .ref an]) hF mi_X9_17 (c_X4_init l D t q (nI i) _) (fun _ _ _ _ h => h) (fun _ _ _ => trivial) dX9_init_34 rfl rfl (by decide) rfl hl.1 (Nat.le_of_ble_eq_true rfl) hP hD hS hA ⟨show 1 + 3 * i + 1 + 2 ≤ 241 by omega, show 80 + 26 * i + 14 + 12 ≤ 2160 by omega⟩ rfl (fun w1 H locs hI hP hD hS => ?_)
    obtain ⟨nm, dt, rfl⟩ := hI
    have hP := P_perm (perm_mv0 _ _ _) hP
    have hD := D_perm (perm_mv0 _ _ _) hD
    refine r_astq (t0 := 6) (q0 := 0) (qk := 4) hF ci_X4 dX9_init_37 hP hD hS rfl rfl rfl (vp_in_nI hi (by decide)) (fun H locs hP hD hS => ?_)
    refine lv_iinc (lv' := [(1, .int (nI (i + 1))), (0, .ref h0)]) (k := 0) (v := (nI (i + 1))) hx hb dX9_init_38 hl rfl (nI_1 i) (by decide) rfl (fun ls hl => ?_)
    refine lv_goto (tgt := 15) hx hb dX9_init_41 rfl ?_
    refine W.widen (k := 1 + 3 * (i + 1)) (n := 80 + 26 * (i + 1)) (by omega) (by omega) ?_
    refine ih _ ls H locs ⟨va_up f i (some q), [(dt, .inl (t 0, 0, .inl (fun _ => 0))), (nm, .inl (t 0, 12, .inl (fun _ => 0))), (q, eNode (nI i) nm dt)] ++ T, ?_, nodesIn_s hT⟩ hl hP hD hS
    rw [nI_clamp (by omega)]
    rfl
  · obtain ⟨f, T, rfl, hT⟩ := hJ
    have hl : lv_has ls 2 [(1, .int (nI 80)), (0, .ref h0)] := hl
    replace hP : va_P D cl1 ([(an, .inl (t 6, 80, .inr (.inr (.inr (.inr f))))), (h0, .inr (6, [.ref an, .int 0]))] ++ T) H := hP
    replace hD : va_D A ([(an, .inl (t 6, 80, .inr (.inr (.inr (.inr f))))), (h0, .inr (6, [.ref an, .int 0]))] ++ T) := hD
    refine lv_iload_n hx hb dX9_init_15 rfl (lv_at hl 0 rfl) ?_
    refine lv_aload_n hx hb dX9_init_16 rfl (lv_at hl 1 rfl) ?_
    refine r_get hF ci_X9 fl_X9_11 dX9_init_17 hP (q0 := 1) rfl rfl ?_
    refine r_alen (v := 80) hF dX9_init_20 hP (q0 := 0) rfl (t0 := 6) rfl rfl ?_
    refine lv_icmp_ge (tgt := 44) hx hb dX9_init_21 rfl (fun _ => ?_) (fun h => absurd (nI_le (Nat.le_refl 80) (by decide)) h)
    exact r_retW hF hr hlk dX9_init_44 hP hD hS ⟨an, f, T, rfl, hT⟩
end
section
set_option maxRecDepth 100000 in
set_option maxHeartbeats 4000000 in
theorem c_Jxa1e45_init (l : Launch) (D : va_G) (t : Nat → ClassId) (ws : va_W) (h0 : Nat) (sz : Nat) : KV l D t yJxa1e45_init_da8c8 cJxa1e45_init_da8c8 1 ({ frames := 1, cells := 0, slots := 0, locals := 12 }) ws sz [.ref h0] := by
  refine go (by decide) (Nat.le_of_ble_eq_true rfl) ?_
  intro p e s m below meth c ls A hF hr hlk hin hsz hAe hP hD hS hA hl
  rw [hAe]
  clear hAe hsz
  have hF : FX p m c cJxa1e45_init_da8c8 1 s _ RJxa1e45 D t := hF
  have hx := hF.1.1
  have hb := hF.1.2.1
  have hls := hl.1
  have hl : lv_has ls 1 [(0, .ref h0)] := hl
  refine lv_aload_n hx hb dJxa1e45_init_da8c8_0 rfl (lv_at hl 0 rfl) ?_
  refine W.objInit hx hb hF.1.2.2.2.1 (hF.1.2.2.2.2 _ (wb 70 rfl)) (hF.1.2.2.2.2 _ (wb 10 rfl)) (hF.1.2.2.2.2 _ (wb 11 rfl)) rfl (hl.1.trans hF.1.2.2.1.symm) rfl dJxa1e45_init_da8c8_1 (Nat.le_of_ble_eq_true rfl) (Nat.le_of_ble_eq_true rfl) ?_
  refine W.eq (g2 := F0 m 4 ls []) rfl ?_
  exact r_retV hF hr hlk dJxa1e45_init_da8c8_4 hP hS
set_option maxRecDepth 100000 in
set_option maxHeartbeats 4000000 in
theorem c_Jxc12de_init (l : Launch) (D : va_G) (t : Nat → ClassId) (ws : va_W) (h0 q : Nat) (fs : List Value) (he : ws[q]? = some (h0, .inr (7, fs))) (hv : fs[0]? = some (.int 0)) (sz : Nat) : KV l D t yJxc12de_init_da8c8 cJxc12de_init_da8c8 1 ({ frames := 2, cells := 0, slots := 0, locals := 32 }) ws sz [.ref h0] := by
  refine go (by decide) (Nat.le_of_ble_eq_true rfl) ?_
  intro p e s m below meth c ls A hF hr hlk hin hsz hAe hP hD hS hA hl
  rw [hAe]
  clear hAe hsz
  have hF : FX p m c cJxc12de_init_da8c8 1 s _ RJxc12de D t := hF
  have hx := hF.1.1
  have hb := hF.1.2.1
  have hls := hl.1
  have hl : lv_has ls 1 [(0, .ref h0)] := hl
  refine lv_aload_n hx hb dJxc12de_init_da8c8_0 rfl (lv_at hl 0 rfl) ?_
  refine r_cKVi (As := []) (rest := []) hF mi_Jxc12de_1 (fun sz => c_Jxa1e45_init l D t ws h0 sz) dJxc12de_init_da8c8_1 rfl rfl (by decide) rfl hl.1 (Nat.le_of_ble_eq_true rfl) hP hD hS hA (by decide) rfl (fun H locs hP hS => ?_)
  refine lv_aload_n hx hb dJxc12de_init_da8c8_4 rfl (lv_at hl 0 rfl) ?_
  refine lv_iconst (v := 0) hx hb dJxc12de_init_da8c8_5 (by decide) ?_
  refine r_put0 hF ci_Jx4a65c fl_Jxc12de_7 dJxc12de_init_da8c8_6 hP hD hS he hv rfl rfl rfl (fun H locs hP hS => ?_)
  exact r_retV hF hr hlk dJxc12de_init_da8c8_9 hP hS
def alI (d h0 : Nat) (w1 : va_W) : Prop := w1 = [(h0, .inr (7, [.int 0, .ref d, .int 0]))]
set_option maxRecDepth 100000 in
set_option maxHeartbeats 4000000 in
theorem c_Jx4a65c_init (l : Launch) (D : va_G) (t : Nat → ClassId) (d h0 : Nat) (sz : Nat) : WV l D t yJx4a65c_init_da8c8 cJx4a65c_init_da8c8 1 ({ frames := 3, cells := 0, slots := 0, locals := 52 }) [(h0, .inr (7, [.int 0, .null, .int 0]))] sz [.ref h0] 0 0 (fun U => va_Z "java/util/ArrayList" "DEFAULTCAPACITY_EMPTY_ELEMENTDATA" "[Ljava/lang/Object;" (.ref d) (va_A [(h0, .inr (7, [.int 0, .null, .int 0]))] sz) U U.heap) (alI d h0) := by
  refine goE (by decide) (Nat.le_of_ble_eq_true rfl) ?_
  intro p e s m below meth c ls A hF hr hlk hin hsz hAe hP hD hS hA hl hE
  rw [hAe]
  have hF : FX p m c cJx4a65c_init_da8c8 1 s _ RJx4a65c D t := hF
  have hx := hF.1.1
  have hb := hF.1.2.1
  have hl : lv_has ls 1 [(0, .ref h0)] := hl
  have hE : va_Z "java/util/ArrayList" "DEFAULTCAPACITY_EMPTY_ELEMENTDATA" "[Ljava/lang/Object;" (.ref d) (va_A [(h0, .inr (7, [.int 0, .null, .int 0]))] sz) s s.heap := hE
  rw [hAe] at hE
  refine lv_aload_n hx hb dJx4a65c_init_da8c8_0 rfl (lv_at hl 0 rfl) ?_
  refine r_cKVi (As := []) (rest := []) hF mi_Jx4a65c_1 (fun sz => c_Jxc12de_init l D t _ h0 0 _ rfl rfl sz) dJx4a65c_init_da8c8_1 rfl rfl (by decide) rfl hl.1 (Nat.le_of_ble_eq_true rfl) hP hD hS hA (by decide) rfl (fun H locs hP hS => ?_)
  refine lv_aload_n hx hb dJx4a65c_init_da8c8_4 rfl (lv_at hl 0 rfl) ?_
  refine va_gets hx hb hE hS hF.1.2.2.2.1 (hF.1.2.2.2.2 _ (wb 63 rfl)) (fun _ h => h) dJx4a65c_init_da8c8_5 ?_
  refine r_put hF ci_Jx4a65c fl_Jx4a65c_9 dJx4a65c_init_da8c8_8 hP hD hS (q0 := 0) rfl rfl rfl rfl (Nat.le_of_ble_eq_true rfl) (fun H locs hP hD hS => ?_)
  replace hP : va_P D cl1 ([(h0, .inr (7, [.int 0, .ref d, .int 0]))]) H := hP
  replace hD : va_D A ([(h0, .inr (7, [.int 0, .ref d, .int 0]))]) := hD
  exact r_retW hF hr hlk dJx4a65c_init_da8c8_11 hP hD hS rfl
def fillI (t : Nat → ClassId) (ws : va_W) (q a n : Nat) (v : Int32) (w1 : va_W) : Prop := ∃ f : Nat → Int32, (∀ i, i < n → f i = v) ∧ w1 = ws.set q (a, .inl (t 1, n, .inl f))
set_option maxRecDepth 100000 in
set_option maxHeartbeats 4000000 in
theorem c_J7_fill_I (l : Launch) (D : va_G) (t : Nat → ClassId) (ws : va_W) (q a n : Nat) (f : Nat → Int32) (v : Int32) (he : ws[q]? = some (a, .inl (t 1, n, .inl f))) (hn : n < 1000) (sz : Nat) : WV l D t yJ7_fill_53178 cJ7_fill_53178 4 ({ frames := 0, cells := 0, slots := 0, locals := 0 }) ws sz [.ref a, .int v] 0 0 (fun _ => True) (fillI t ws q a n v) := by
  refine goE (by decide) (Nat.le_of_ble_eq_true rfl) ?_
  intro p e s m below meth c ls A hF hr hlk hin hsz hAe hP hD hS hA hl hE
  rw [hAe]
  have hF : FX p m c cJ7_fill_53178 4 s _ RJ7 D t := hF
  have hx := hF.1.1
  have hb := hF.1.2.1
  have hl : lv_has ls 4 [(0, .ref a), (1, .int v)] := hl
  have hql := (List.getElem?_eq_some_iff.mp he).1
  refine lv_iconst (v := 0) hx hb dJ7_fill_53178_0 (by decide) ?_
  refine lv_istore_n (lv' := [(2, .int 0), (0, .ref a), (1, .int v)]) hx hb dJ7_fill_53178_1 rfl hl (by decide) rfl (fun ls hl => ?_)
  refine lv_aload_n hx hb dJ7_fill_53178_2 rfl (lv_at hl 1 rfl) ?_
  refine r_alen (v := nI n) hF dJ7_fill_53178_3 hP he (t0 := 1) rfl rfl ?_
  refine lv_istore_n (lv' := [(3, .int (nI n)), (2, .int 0), (0, .ref a), (1, .int v)]) hx hb dJ7_fill_53178_4 rfl hl (by decide) rfl (fun ls hl => ?_)
  have hl : lv_has ls 4 [(2, .int 0), (3, .int (nI n)), (1, .int v), (0, .ref a)] := lv_sub hl [1, 0, 3, 2] rfl
  refine r_loopW (L0 := fun i => [(2, .int (nI i)), (3, .int (nI n)), (1, .int v), (0, .ref a)]) (J := fun i w1 => ∃ f : Nat → Int32, (∀ j, j < i → f j = v) ∧ w1 = ws.set q (a, .inl (t 1, n, .inl f))) (fun _ => 0) (fun _ => 0) n hl ⟨f, fun _ h => absurd h (Nat.not_lt_zero _), (set_id he).symm⟩ hP hD hS (fun i hi w1 ls H locs hJ hl hP hD hS ih => ?_) (fun w1 ls H locs hJ hl hP hD hS => ?_)
  · obtain ⟨f, hf, rfl⟩ := hJ
    have hl : lv_has ls 4 [(2, .int (nI i)), (3, .int (nI n)), (1, .int v), (0, .ref a)] := hl
    refine lv_iload_n hx hb dJ7_fill_53178_5 rfl (lv_at hl 0 rfl) ?_
    refine lv_iload_n hx hb dJ7_fill_53178_6 rfl (lv_at hl 1 rfl) ?_
    refine lv_icmp_ge (tgt := 20) hx hb dJ7_fill_53178_7 rfl (fun h => absurd h (nI_ge hi (by omega))) (fun _ => ?_)
    refine lv_aload_n hx hb dJ7_fill_53178_10 rfl (lv_at hl 3 rfl) ?_
    refine lv_iload_n hx hb dJ7_fill_53178_11 rfl (lv_at hl 0 rfl) ?_
    refine lv_iload_n hx hb dJ7_fill_53178_12 rfl (lv_at hl 2 rfl) ?_
    refine r_iast hF dJ7_fill_53178_13 hP hD hS (List.getElem?_set_self hql) (vp_in_nI hi (by omega)) (fun H locs hP hD hS => ?_)
    rw [List.set_set] at hP hD
    refine lv_iinc (lv' := [(2, .int (nI (i + 1))), (3, .int (nI n)), (1, .int v), (0, .ref a)]) (k := 0) (v := (nI (i + 1))) hx hb dJ7_fill_53178_14 hl rfl (nI_1 i) (by decide) rfl (fun ls hl => ?_)
    refine lv_goto (tgt := 5) hx hb dJ7_fill_53178_17 rfl ?_
    refine ih _ ls H locs ⟨upd f (nI i).toNatClampNeg v, fun j hj => ?_, rfl⟩ hl hP hD hS
    rw [nI_clamp (by omega)]
    by_cases hji : j = i
    · rw [hji]; exact pk_us
    · rw [pk_un hji]; exact hf j (by omega)
  · obtain ⟨f, hf, rfl⟩ := hJ
    have hl : lv_has ls 4 [(2, .int (nI n)), (3, .int (nI n)), (1, .int v), (0, .ref a)] := hl
    refine lv_iload_n hx hb dJ7_fill_53178_5 rfl (lv_at hl 0 rfl) ?_
    refine lv_iload_n hx hb dJ7_fill_53178_6 rfl (lv_at hl 1 rfl) ?_
    refine lv_icmp_ge (tgt := 20) hx hb dJ7_fill_53178_7 rfl (fun _ => ?_) (fun h => absurd (nI_le (Nat.le_refl _) (by omega)) h)
    exact r_retW hF hr hlk dJ7_fill_53178_20 hP hD hS ⟨f, hf, rfl⟩
abbrev eRow (b : Nat) : va_E := .inr (2, [.ref b, .int 0])
abbrev eConn (kc ks kf : Nat) : va_E := .inr (3, [.int 0, .int 0, .ref kc, .long 0, .ref ks, .ref kf, .int 0, .long 0, .int 0, .int 0, .long 0, .long 0, .int 0, .long 0, .long 0])
def connsIn (t : Nat → ClassId) (T : va_W) (f : Nat → Option Nat) (i : Nat) : Prop := ∀ j, j < i → ∃ k kc kcb ks ksb kf : Nat, f j = some k ∧ (k, eConn kc ks kf) ∈ T ∧ (kc, eRow kcb) ∈ T ∧ (ks, eRow ksb) ∈ T ∧ (kf, (.inl (t 2, 16, .inr (.inl (fun _ => 0))) : va_E)) ∈ T
theorem connsIn_0 {t : Nat → ClassId} {T : va_W} {f : Nat → Option Nat} : connsIn t T f 0 := fun _ h => absurd h (Nat.not_lt_zero _)
theorem connsIn_s {t : Nat → ClassId} {T : va_W} {f : Nat → Option Nat} {i k kc kcb ks ksb kf : Nat} (h : connsIn t T f i) : connsIn t ([(kf, .inl (t 2, 16, .inr (.inl (fun _ => 0)))), (ksb, .inl (t 0, 64, .inl (fun _ => 0))), (ks, eRow ksb), (kcb, .inl (t 0, 64, .inl (fun _ => 0))), (kc, eRow kcb), (k, eConn kc ks kf)] ++ T) (va_up f i (some k)) (i + 1) := by
  intro j hj
  by_cases hji : j = i
  · subst hji
    exact ⟨k, kc, kcb, ks, ksb, kf, by simp [va_up], List.mem_append_left _ (by simp), List.mem_append_left _ (by simp), List.mem_append_left _ (by simp), List.mem_append_left _ (by simp)⟩
  · obtain ⟨k', kc', kcb', ks', ksb', kf', h1, h2, h3, h4, h5⟩ := h j (by omega)
    exact ⟨k', kc', kcb', ks', ksb', kf', by simp only [va_up, if_neg hji]; exact h1, List.mem_append_right _ h2, List.mem_append_right _ h3, List.mem_append_right _ h4, List.mem_append_right _ h5⟩
theorem nodesIn_mono {t : Nat → ClassId} {T T' : va_W} {f : Nat → Option Nat} {i : Nat} (h : nodesIn t T f i) (hs : ∀ q ∈ T, q ∈ T') : nodesIn t T' f i := fun j hj => by
  obtain ⟨a, nm, dt, h1, h2, h3, h4⟩ := h j hj
  exact ⟨a, nm, dt, h1, hs _ h2, hs _ h3, hs _ h4⟩
theorem connsIn_mono {t : Nat → ClassId} {T T' : va_W} {f : Nat → Option Nat} {i : Nat} (h : connsIn t T f i) (hs : ∀ q ∈ T, q ∈ T') : connsIn t T' f i := fun j hj => by
  obtain ⟨k, kc, kcb, ks, ksb, kf, h1, h2, h3, h4, h5⟩ := h j hj
  exact ⟨k, kc, kcb, ks, ksb, kf, h1, hs _ h2, hs _ h3, hs _ h4, hs _ h5⟩
def nestR : Cond := .methodLinkNest RX11 9 yX6_init "ShareHouse"
def nestC : Cond := .methodLinkNest RX11 77 yX2_init "ShareHouse"
def nestH : Cond := .methodLinkNest RX11 78 yX1_init "ShareHouse"
def nestK : Cond := .methodLinkNest RX2 11 yX6_init "ShareHouse"
def EH (d : Nat) (wc : va_W) (sz : Nat) (U : State) : Prop := va_AO "ShareHouse$Node" U ∧ va_AO "ShareHouse$Conn" U ∧ va_AO "ShareHouse$Change" U ∧ va_Nw nestR U ∧ va_Nw nestC U ∧ va_Nw nestH U ∧ va_Nw nestK U ∧ va_Z "java/util/ArrayList" "DEFAULTCAPACITY_EMPTY_ELEMENTDATA" "[Ljava/lang/Object;" (.ref d) (va_A wc sz) U U.heap
def hW (t : Nat → ClassId) (d h0 : Nat) (a : Nat → Nat) (fc fl fd fw : Nat → Option Nat) (fr : Nat → Int32) (T : va_W) : va_W := [((a 22), .inl (t 0, 64, .inl (fun _ => 0))), ((a 21), .inr (2, [.ref (a 22), .int 0])), ((a 20), .inl (t 0, 64, .inl (fun _ => 0))), ((a 19), .inr (2, [.ref (a 20), .int 0])), ((a 18), .inl (t 0, 64, .inl (fun _ => 0))), ((a 17), .inr (2, [.ref (a 18), .int 0])), ((a 16), .inl (t 0, 64, .inl (fun _ => 0))), ((a 15), .inr (2, [.ref (a 16), .int 0])), ((a 14), .inl (t 2, 4, .inr (.inl (fun _ => 0)))), ((a 13), .inr (7, [.int 0, .ref d, .int 0])), ((a 12), .inr (7, [.int 0, .ref d, .int 0])), ((a 11), .inr (7, [.int 0, .ref d, .int 0])), ((a 10), .inr (7, [.int 0, .ref d, .int 0])), ((a 9), .inr (7, [.int 0, .ref d, .int 0])), ((a 8), .inl (t 4, 8, .inr (.inr (.inr (.inr fw))))), ((a 7), .inl (t 6, 80, .inr (.inr (.inr (.inr fd))))), ((a 6), .inr (6, [.ref (a 7), .int 0])), ((a 5), .inl (t 6, 80, .inr (.inr (.inr (.inr fl))))), ((a 4), .inr (6, [.ref (a 5), .int 0])), ((a 3), .inl (t 1, 4, .inl fr)), ((a 2), .inl (t 5, 6, .inr (.inr (.inr (.inr fc))))), ((a 1), .inl (t 0, 64, .inl (fun _ => 0))), ((a 0), .inr (2, [.ref (a 1), .int 0])), (h0, .inr (1, [.ref (a 0), .ref (a 2), .ref (a 3), .ref (a 4), .ref (a 6), .ref (a 8), .int 0, .long 0, .ref (a 9), .ref (a 10), .ref (a 11), .ref (a 12), .ref (a 13), .ref (a 14), .ref (a 15), .ref (a 17), .ref (a 19), .ref (a 21)]))] ++ T
def hsI (t : Nat → ClassId) (d h0 : Nat) (w1 : va_W) : Prop := ∃ (a : Nat → Nat) (fc fl fd fw : Nat → Option Nat) (fr : Nat → Int32) (T : va_W), w1 = hW t d h0 a fc fl fd fw fr T ∧ connsIn t T fc 6 ∧ nodesIn t T fl 80 ∧ nodesIn t T fd 80 ∧ ∀ i, i < 4 → fr i = -1
set_option maxRecDepth 100000 in
set_option maxHeartbeats 4000000 in
theorem c_X11_init (l : Launch) (D : va_G) (t : Nat → ClassId) (d h0 : Nat) (sz : Nat) : WV l D t yX11_init cX11_init 2 ({ frames := 4, cells := 563, slots := 5885, locals := 72 }) [(h0, .inr (1, [.null, .null, .null, .null, .null, .null, .int 0, .long 0, .null, .null, .null, .null, .null, .null, .null, .null, .null, .null]))] sz [.ref h0] 563 5885 (fun U => EH d [(h0, .inr (1, [.null, .null, .null, .null, .null, .null, .int 0, .long 0, .null, .null, .null, .null, .null, .null, .null, .null, .null, .null]))] sz U) (hsI t d h0) := by
  refine goE (by decide) (Nat.le_of_ble_eq_true rfl) ?_
  intro p e s m below meth c ls A hF hr hlk hin hsz hAe hP hD hS hA hl hE
  rw [hAe]
  have hF : FX p m c cX11_init 2 s _ RX11 D t := hF
  have hx := hF.1.1
  have hb := hF.1.2.1
  have hl : lv_has ls 2 [(0, .ref h0)] := hl
  replace hP : va_P D cl1 ([(h0, .inr (1, [.null, .null, .null, .null, .null, .null, .int 0, .long 0, .null, .null, .null, .null, .null, .null, .null, .null, .null, .null]))] ++ ([] : va_W)) s.heap := hP
  replace hD : va_D A ([(h0, .inr (1, [.null, .null, .null, .null, .null, .null, .int 0, .long 0, .null, .null, .null, .null, .null, .null, .null, .null, .null, .null]))] ++ ([] : va_W)) := hD
  obtain ⟨eN, eC, eH, nR, nC, nH, nK, hZ⟩ := hE
  rw [hAe] at hZ
  refine lv_aload_n hx hb dX11_init_0 rfl (lv_at hl 0 rfl) ?_
  refine W.objInit hx hb hF.1.2.2.2.1 (hF.1.2.2.2.2 _ (wb 36 rfl)) (hF.1.2.2.2.2 _ (wb 10 rfl)) (hF.1.2.2.2.2 _ (wb 11 rfl)) rfl (hl.1.trans hF.1.2.2.1.symm) rfl dX11_init_1 (Nat.le_of_ble_eq_true rfl) (Nat.le_of_ble_eq_true rfl) ?_
  refine W.eq (g2 := F0 m 4 ls []) rfl ?_
  refine lv_aload_n hx hb dX11_init_4 rfl (lv_at hl 0 rfl) ?_
  refine r_new (fs := [.null, .int 0]) hF ci_X6 dX11_init_5 (wb 37 rfl) (wb 17 rfl) (wb 16 rfl) hP hD hS hA def_X6 (by decide) (by decide) (fun tp H hP hD hS => ?_)
  refine lv_dup hx hb dX11_init_8 rfl ?_
  refine r_cWN (wc := [(tp, .inr (2, [.null, .int 0]))]) (X := [(h0, .inr (1, [.null, .null, .null, .null, .null, .null, .int 0, .long 0, .null, .null, .null, .null, .null, .null, .null, .null, .null, .null]))] ++ ([] : va_W)) (As := []) (rest := [.ref tp, .ref h0]) hF nR mn_X11_9 (c_X6_init l D t tp _) (fun _ _ _ _ h => h) (fun _ _ _ => trivial) dX11_init_9 rfl rfl (by decide) rfl hl.1 (Nat.le_of_ble_eq_true rfl) hP hD hS hA (by decide) rfl (fun w1 H locs hI hP hD hS => ?_)
  obtain ⟨tb, rfl⟩ := hI
  replace hP : va_P D cl1 ([(tb, .inl (t 0, 64, .inl (fun _ => 0))), (tp, .inr (2, [.ref tb, .int 0])), (h0, .inr (1, [.null, .null, .null, .null, .null, .null, .int 0, .long 0, .null, .null, .null, .null, .null, .null, .null, .null, .null, .null]))] ++ ([] : va_W)) H := hP
  replace hD : va_D A ([(tb, .inl (t 0, 64, .inl (fun _ => 0))), (tp, .inr (2, [.ref tb, .int 0])), (h0, .inr (1, [.null, .null, .null, .null, .null, .null, .int 0, .long 0, .null, .null, .null, .null, .null, .null, .null, .null, .null, .null]))] ++ ([] : va_W)) := hD
  refine r_putF hF ci_X11 fl_X11_10 dX11_init_12 hP hD hS (q0 := 2) rfl hin rfl rfl rfl rfl (Nat.le_of_ble_eq_true rfl) (fun H locs hP hD hS => ?_)
  replace hP : va_P D cl1 ([(tb, .inl (t 0, 64, .inl (fun _ => 0))), (tp, .inr (2, [.ref tb, .int 0])), (h0, .inr (1, [.ref tp, .null, .null, .null, .null, .null, .int 0, .long 0, .null, .null, .null, .null, .null, .null, .null, .null, .null, .null]))] ++ ([] : va_W)) H := hP
  replace hD : va_D A ([(tb, .inl (t 0, 64, .inl (fun _ => 0))), (tp, .inr (2, [.ref tb, .int 0])), (h0, .inr (1, [.ref tp, .null, .null, .null, .null, .null, .int 0, .long 0, .null, .null, .null, .null, .null, .null, .null, .null, .null, .null]))] ++ ([] : va_W)) := hD
  refine lv_aload_n hx hb dX11_init_15 rfl (lv_at hl 0 rfl) ?_
  refine lv_bipush (v := 6) hx hb dX11_init_16 (by decide) ?_
  refine r_newq (t0 := 5) (N' := 6) hF dX11_init_18 (wb 38 rfl) eC rfl hP hD hS hA (by decide) (by decide) (by decide) (by decide) (by decide) (fun ca H hP hD hS => ?_)
  refine r_putF hF ci_X11 fl_X11_18 dX11_init_21 hP hD hS (q0 := 3) rfl hin rfl rfl rfl rfl (Nat.le_of_ble_eq_true rfl) (fun H locs hP hD hS => ?_)
  replace hP : va_P D cl1 ([(ca, .inl (t 5, 6, .inr (.inr (.inr (.inr (fun _ => none)))))), (tb, .inl (t 0, 64, .inl (fun _ => 0))), (tp, .inr (2, [.ref tb, .int 0])), (h0, .inr (1, [.ref tp, .ref ca, .null, .null, .null, .null, .int 0, .long 0, .null, .null, .null, .null, .null, .null, .null, .null, .null, .null]))] ++ ([] : va_W)) H := hP
  replace hD : va_D A ([(ca, .inl (t 5, 6, .inr (.inr (.inr (.inr (fun _ => none)))))), (tb, .inl (t 0, 64, .inl (fun _ => 0))), (tp, .inr (2, [.ref tb, .int 0])), (h0, .inr (1, [.ref tp, .ref ca, .null, .null, .null, .null, .int 0, .long 0, .null, .null, .null, .null, .null, .null, .null, .null, .null, .null]))] ++ ([] : va_W)) := hD
  refine lv_aload_n hx hb dX11_init_24 rfl (lv_at hl 0 rfl) ?_
  refine lv_iconst (v := 4) hx hb dX11_init_25 (by decide) ?_
  refine r_newF (t0 := 1) (N' := 4) (a0 := (4, .inl (fun _ => 0))) hF dX11_init_26 (wb 39 rfl) rfl rfl id hP hD hS hA (fun _ => rfl) (by decide) (by decide) (by decide) (by decide) (by decide) (fun ro H hP hD hS => ?_)
  refine r_putF hF ci_X11 fl_X11_22 dX11_init_28 hP hD hS (q0 := 4) rfl hin rfl rfl rfl rfl (Nat.le_of_ble_eq_true rfl) (fun H locs hP hD hS => ?_)
  replace hP : va_P D cl1 ([(ro, .inl (t 1, 4, .inl (fun _ => 0))), (ca, .inl (t 5, 6, .inr (.inr (.inr (.inr (fun _ => none)))))), (tb, .inl (t 0, 64, .inl (fun _ => 0))), (tp, .inr (2, [.ref tb, .int 0])), (h0, .inr (1, [.ref tp, .ref ca, .ref ro, .null, .null, .null, .int 0, .long 0, .null, .null, .null, .null, .null, .null, .null, .null, .null, .null]))] ++ ([] : va_W)) H := hP
  replace hD : va_D A ([(ro, .inl (t 1, 4, .inl (fun _ => 0))), (ca, .inl (t 5, 6, .inr (.inr (.inr (.inr (fun _ => none)))))), (tb, .inl (t 0, 64, .inl (fun _ => 0))), (tp, .inr (2, [.ref tb, .int 0])), (h0, .inr (1, [.ref tp, .ref ca, .ref ro, .null, .null, .null, .int 0, .long 0, .null, .null, .null, .null, .null, .null, .null, .null, .null, .null]))] ++ ([] : va_W)) := hD
  refine lv_aload_n hx hb dX11_init_31 rfl (lv_at hl 0 rfl) ?_
  refine r_new (fs := [.null, .int 0]) hF ci_X9 dX11_init_32 (wb 40 rfl) (wb 42 rfl) (wb 41 rfl) hP hD hS hA def_X9 (by decide) (by decide) (fun lv H hP hD hS => ?_)
  refine lv_dup hx hb dX11_init_35 rfl ?_
  refine r_cWI (wc := [(lv, .inr (6, [.null, .int 0]))]) (X := [(ro, .inl (t 1, 4, .inl (fun _ => 0))), (ca, .inl (t 5, 6, .inr (.inr (.inr (.inr (fun _ => none)))))), (tb, .inl (t 0, 64, .inl (fun _ => 0))), (tp, .inr (2, [.ref tb, .int 0])), (h0, .inr (1, [.ref tp, .ref ca, .ref ro, .null, .null, .null, .int 0, .long 0, .null, .null, .null, .null, .null, .null, .null, .null, .null, .null]))] ++ ([] : va_W)) (As := []) (rest := [.ref lv, .ref h0]) hF mi_X11_28 (c_X9_init l D t lv _) (fun _ U _ _ h => va_AO.moved (Vm.Alike.refl U.vm) h) (fun _ _ hW => va_AO.moved hW.alike eN) dX11_init_36 rfl rfl (by decide) rfl hl.1 (Nat.le_of_ble_eq_true rfl) hP hD hS hA (by decide) rfl (fun w1 H locs hI hP hD hS => ?_)
  obtain ⟨la, fl, Tl, rfl, hTl⟩ := hI
  rw [show volW t lv la fl Tl = [(la, .inl (t 6, 80, .inr (.inr (.inr (.inr fl))))), (lv, .inr (6, [.ref la, .int 0]))] ++ Tl from rfl, List.append_assoc] at hP
  rw [show volW t lv la fl Tl = [(la, .inl (t 6, 80, .inr (.inr (.inr (.inr fl))))), (lv, .inr (6, [.ref la, .int 0]))] ++ Tl from rfl, List.append_assoc] at hD
  have hP := P_perm (perm_mv _ _ _ _) hP
  have hD := D_perm (perm_mv _ _ _ _) hD
  replace hP : va_P D cl1 ([(la, .inl (t 6, 80, .inr (.inr (.inr (.inr fl))))), (lv, .inr (6, [.ref la, .int 0])), (ro, .inl (t 1, 4, .inl (fun _ => 0))), (ca, .inl (t 5, 6, .inr (.inr (.inr (.inr (fun _ => none)))))), (tb, .inl (t 0, 64, .inl (fun _ => 0))), (tp, .inr (2, [.ref tb, .int 0])), (h0, .inr (1, [.ref tp, .ref ca, .ref ro, .null, .null, .null, .int 0, .long 0, .null, .null, .null, .null, .null, .null, .null, .null, .null, .null]))] ++ (Tl ++ ([] : va_W))) H := hP
  replace hD : va_D A ([(la, .inl (t 6, 80, .inr (.inr (.inr (.inr fl))))), (lv, .inr (6, [.ref la, .int 0])), (ro, .inl (t 1, 4, .inl (fun _ => 0))), (ca, .inl (t 5, 6, .inr (.inr (.inr (.inr (fun _ => none)))))), (tb, .inl (t 0, 64, .inl (fun _ => 0))), (tp, .inr (2, [.ref tb, .int 0])), (h0, .inr (1, [.ref tp, .ref ca, .ref ro, .null, .null, .null, .int 0, .long 0, .null, .null, .null, .null, .null, .null, .null, .null, .null, .null]))] ++ (Tl ++ ([] : va_W))) := hD
  refine r_putF hF ci_X11 fl_X11_29 dX11_init_39 hP hD hS (q0 := 6) rfl hin rfl rfl rfl rfl (Nat.le_of_ble_eq_true rfl) (fun H locs hP hD hS => ?_)
  replace hP : va_P D cl1 ([(la, .inl (t 6, 80, .inr (.inr (.inr (.inr fl))))), (lv, .inr (6, [.ref la, .int 0])), (ro, .inl (t 1, 4, .inl (fun _ => 0))), (ca, .inl (t 5, 6, .inr (.inr (.inr (.inr (fun _ => none)))))), (tb, .inl (t 0, 64, .inl (fun _ => 0))), (tp, .inr (2, [.ref tb, .int 0])), (h0, .inr (1, [.ref tp, .ref ca, .ref ro, .ref lv, .null, .null, .int 0, .long 0, .null, .null, .null, .null, .null, .null, .null, .null, .null, .null]))] ++ (Tl ++ ([] : va_W))) H := hP
  replace hD : va_D A ([(la, .inl (t 6, 80, .inr (.inr (.inr (.inr fl))))), (lv, .inr (6, [.ref la, .int 0])), (ro, .inl (t 1, 4, .inl (fun _ => 0))), (ca, .inl (t 5, 6, .inr (.inr (.inr (.inr (fun _ => none)))))), (tb, .inl (t 0, 64, .inl (fun _ => 0))), (tp, .inr (2, [.ref tb, .int 0])), (h0, .inr (1, [.ref tp, .ref ca, .ref ro, .ref lv, .null, .null, .int 0, .long 0, .null, .null, .null, .null, .null, .null, .null, .null, .null, .null]))] ++ (Tl ++ ([] : va_W))) := hD
  refine lv_aload_n hx hb dX11_init_42 rfl (lv_at hl 0 rfl) ?_
  refine r_new (fs := [.null, .int 0]) hF ci_X9 dX11_init_43 (wb 40 rfl) (wb 42 rfl) (wb 41 rfl) hP hD hS hA def_X9 (by decide) (by decide) (fun dk H hP hD hS => ?_)
  refine lv_dup hx hb dX11_init_46 rfl ?_
  refine r_cWI (wc := [(dk, .inr (6, [.null, .int 0]))]) (X := [(la, .inl (t 6, 80, .inr (.inr (.inr (.inr fl))))), (lv, .inr (6, [.ref la, .int 0])), (ro, .inl (t 1, 4, .inl (fun _ => 0))), (ca, .inl (t 5, 6, .inr (.inr (.inr (.inr (fun _ => none)))))), (tb, .inl (t 0, 64, .inl (fun _ => 0))), (tp, .inr (2, [.ref tb, .int 0])), (h0, .inr (1, [.ref tp, .ref ca, .ref ro, .ref lv, .null, .null, .int 0, .long 0, .null, .null, .null, .null, .null, .null, .null, .null, .null, .null]))] ++ (Tl ++ ([] : va_W))) (As := []) (rest := [.ref dk, .ref h0]) hF mi_X11_28 (c_X9_init l D t dk _) (fun _ U _ _ h => va_AO.moved (Vm.Alike.refl U.vm) h) (fun _ _ hW => va_AO.moved hW.alike eN) dX11_init_47 rfl rfl (by decide) rfl hl.1 (Nat.le_of_ble_eq_true rfl) hP hD hS hA (by decide) rfl (fun w1 H locs hI hP hD hS => ?_)
  obtain ⟨da, fd, Td, rfl, hTd⟩ := hI
  rw [show volW t dk da fd Td = [(da, .inl (t 6, 80, .inr (.inr (.inr (.inr fd))))), (dk, .inr (6, [.ref da, .int 0]))] ++ Td from rfl, List.append_assoc] at hP
  rw [show volW t dk da fd Td = [(da, .inl (t 6, 80, .inr (.inr (.inr (.inr fd))))), (dk, .inr (6, [.ref da, .int 0]))] ++ Td from rfl, List.append_assoc] at hD
  have hP := P_perm (perm_mv _ _ _ _) hP
  have hD := D_perm (perm_mv _ _ _ _) hD
  replace hP : va_P D cl1 ([(da, .inl (t 6, 80, .inr (.inr (.inr (.inr fd))))), (dk, .inr (6, [.ref da, .int 0])), (la, .inl (t 6, 80, .inr (.inr (.inr (.inr fl))))), (lv, .inr (6, [.ref la, .int 0])), (ro, .inl (t 1, 4, .inl (fun _ => 0))), (ca, .inl (t 5, 6, .inr (.inr (.inr (.inr (fun _ => none)))))), (tb, .inl (t 0, 64, .inl (fun _ => 0))), (tp, .inr (2, [.ref tb, .int 0])), (h0, .inr (1, [.ref tp, .ref ca, .ref ro, .ref lv, .null, .null, .int 0, .long 0, .null, .null, .null, .null, .null, .null, .null, .null, .null, .null]))] ++ (Td ++ (Tl ++ ([] : va_W)))) H := hP
  replace hD : va_D A ([(da, .inl (t 6, 80, .inr (.inr (.inr (.inr fd))))), (dk, .inr (6, [.ref da, .int 0])), (la, .inl (t 6, 80, .inr (.inr (.inr (.inr fl))))), (lv, .inr (6, [.ref la, .int 0])), (ro, .inl (t 1, 4, .inl (fun _ => 0))), (ca, .inl (t 5, 6, .inr (.inr (.inr (.inr (fun _ => none)))))), (tb, .inl (t 0, 64, .inl (fun _ => 0))), (tp, .inr (2, [.ref tb, .int 0])), (h0, .inr (1, [.ref tp, .ref ca, .ref ro, .ref lv, .null, .null, .int 0, .long 0, .null, .null, .null, .null, .null, .null, .null, .null, .null, .null]))] ++ (Td ++ (Tl ++ ([] : va_W)))) := hD
  refine r_putF hF ci_X11 fl_X11_33 dX11_init_50 hP hD hS (q0 := 8) rfl hin rfl rfl rfl rfl (Nat.le_of_ble_eq_true rfl) (fun H locs hP hD hS => ?_)
  replace hP : va_P D cl1 ([(da, .inl (t 6, 80, .inr (.inr (.inr (.inr fd))))), (dk, .inr (6, [.ref da, .int 0])), (la, .inl (t 6, 80, .inr (.inr (.inr (.inr fl))))), (lv, .inr (6, [.ref la, .int 0])), (ro, .inl (t 1, 4, .inl (fun _ => 0))), (ca, .inl (t 5, 6, .inr (.inr (.inr (.inr (fun _ => none)))))), (tb, .inl (t 0, 64, .inl (fun _ => 0))), (tp, .inr (2, [.ref tb, .int 0])), (h0, .inr (1, [.ref tp, .ref ca, .ref ro, .ref lv, .ref dk, .null, .int 0, .long 0, .null, .null, .null, .null, .null, .null, .null, .null, .null, .null]))] ++ (Td ++ (Tl ++ ([] : va_W)))) H := hP
  replace hD : va_D A ([(da, .inl (t 6, 80, .inr (.inr (.inr (.inr fd))))), (dk, .inr (6, [.ref da, .int 0])), (la, .inl (t 6, 80, .inr (.inr (.inr (.inr fl))))), (lv, .inr (6, [.ref la, .int 0])), (ro, .inl (t 1, 4, .inl (fun _ => 0))), (ca, .inl (t 5, 6, .inr (.inr (.inr (.inr (fun _ => none)))))), (tb, .inl (t 0, 64, .inl (fun _ => 0))), (tp, .inr (2, [.ref tb, .int 0])), (h0, .inr (1, [.ref tp, .ref ca, .ref ro, .ref lv, .ref dk, .null, .int 0, .long 0, .null, .null, .null, .null, .null, .null, .null, .null, .null, .null]))] ++ (Td ++ (Tl ++ ([] : va_W)))) := hD
  refine lv_aload_n hx hb dX11_init_53 rfl (lv_at hl 0 rfl) ?_
  refine lv_bipush (v := 8) hx hb dX11_init_54 (by decide) ?_
  refine r_newq (t0 := 4) (N' := 8) hF dX11_init_56 (wb 46 rfl) eH rfl hP hD hS hA (by decide) (by decide) (by decide) (by decide) (by decide) (fun wt H hP hD hS => ?_)
  refine r_putF hF ci_X11 fl_X11_38 dX11_init_59 hP hD hS (q0 := 9) rfl hin rfl rfl rfl rfl (Nat.le_of_ble_eq_true rfl) (fun H locs hP hD hS => ?_)
  replace hP : va_P D cl1 ([(wt, .inl (t 4, 8, .inr (.inr (.inr (.inr (fun _ => none)))))), (da, .inl (t 6, 80, .inr (.inr (.inr (.inr fd))))), (dk, .inr (6, [.ref da, .int 0])), (la, .inl (t 6, 80, .inr (.inr (.inr (.inr fl))))), (lv, .inr (6, [.ref la, .int 0])), (ro, .inl (t 1, 4, .inl (fun _ => 0))), (ca, .inl (t 5, 6, .inr (.inr (.inr (.inr (fun _ => none)))))), (tb, .inl (t 0, 64, .inl (fun _ => 0))), (tp, .inr (2, [.ref tb, .int 0])), (h0, .inr (1, [.ref tp, .ref ca, .ref ro, .ref lv, .ref dk, .ref wt, .int 0, .long 0, .null, .null, .null, .null, .null, .null, .null, .null, .null, .null]))] ++ (Td ++ (Tl ++ ([] : va_W)))) H := hP
  replace hD : va_D A ([(wt, .inl (t 4, 8, .inr (.inr (.inr (.inr (fun _ => none)))))), (da, .inl (t 6, 80, .inr (.inr (.inr (.inr fd))))), (dk, .inr (6, [.ref da, .int 0])), (la, .inl (t 6, 80, .inr (.inr (.inr (.inr fl))))), (lv, .inr (6, [.ref la, .int 0])), (ro, .inl (t 1, 4, .inl (fun _ => 0))), (ca, .inl (t 5, 6, .inr (.inr (.inr (.inr (fun _ => none)))))), (tb, .inl (t 0, 64, .inl (fun _ => 0))), (tp, .inr (2, [.ref tb, .int 0])), (h0, .inr (1, [.ref tp, .ref ca, .ref ro, .ref lv, .ref dk, .ref wt, .int 0, .long 0, .null, .null, .null, .null, .null, .null, .null, .null, .null, .null]))] ++ (Td ++ (Tl ++ ([] : va_W)))) := hD
  refine lv_aload_n hx hb dX11_init_62 rfl (lv_at hl 0 rfl) ?_
  refine r_new (fs := [.int 0, .null, .int 0]) hF ci_Jx4a65c dX11_init_63 (wb 47 rfl) (wb 49 rfl) (wb 48 rfl) hP hD hS hA def_Jx4a65c (by decide) (by decide) (fun l1 H hP hD hS => ?_)
  refine lv_dup hx hb dX11_init_66 rfl ?_
  refine r_cWI (wc := [(l1, .inr (7, [.int 0, .null, .int 0]))]) (X := [(wt, .inl (t 4, 8, .inr (.inr (.inr (.inr (fun _ => none)))))), (da, .inl (t 6, 80, .inr (.inr (.inr (.inr fd))))), (dk, .inr (6, [.ref da, .int 0])), (la, .inl (t 6, 80, .inr (.inr (.inr (.inr fl))))), (lv, .inr (6, [.ref la, .int 0])), (ro, .inl (t 1, 4, .inl (fun _ => 0))), (ca, .inl (t 5, 6, .inr (.inr (.inr (.inr (fun _ => none)))))), (tb, .inl (t 0, 64, .inl (fun _ => 0))), (tp, .inr (2, [.ref tb, .int 0])), (h0, .inr (1, [.ref tp, .ref ca, .ref ro, .ref lv, .ref dk, .ref wt, .int 0, .long 0, .null, .null, .null, .null, .null, .null, .null, .null, .null, .null]))] ++ (Td ++ (Tl ++ ([] : va_W)))) (As := []) (rest := [.ref l1, .ref h0]) hF mi_X11_44 (c_Jx4a65c_init l D t d l1 _) (fun _ U _ _ h => va_Z.moved (Vm.Alike.refl U.vm) h) (fun U hU hW => by rw [hU]; exact ((hZ.kept (fun a h1 h2 => hS.2.1 a h1 h2)).moved hW.alike).narrow (a_in (D_left (w1 := [(l1, .inr (7, [.int 0, .null, .int 0]))]) hD) hS hA)) dX11_init_67 rfl rfl (by decide) rfl hl.1 (Nat.le_of_ble_eq_true rfl) hP hD hS hA (by decide) rfl (fun w1 H locs hI hP hD hS => ?_)
  have hI : w1 = [(l1, .inr (7, [.int 0, .ref d, .int 0]))] := hI
  subst hI
  replace hP : va_P D cl1 ([(l1, .inr (7, [.int 0, .ref d, .int 0])), (wt, .inl (t 4, 8, .inr (.inr (.inr (.inr (fun _ => none)))))), (da, .inl (t 6, 80, .inr (.inr (.inr (.inr fd))))), (dk, .inr (6, [.ref da, .int 0])), (la, .inl (t 6, 80, .inr (.inr (.inr (.inr fl))))), (lv, .inr (6, [.ref la, .int 0])), (ro, .inl (t 1, 4, .inl (fun _ => 0))), (ca, .inl (t 5, 6, .inr (.inr (.inr (.inr (fun _ => none)))))), (tb, .inl (t 0, 64, .inl (fun _ => 0))), (tp, .inr (2, [.ref tb, .int 0])), (h0, .inr (1, [.ref tp, .ref ca, .ref ro, .ref lv, .ref dk, .ref wt, .int 0, .long 0, .null, .null, .null, .null, .null, .null, .null, .null, .null, .null]))] ++ (Td ++ (Tl ++ ([] : va_W)))) H := hP
  replace hD : va_D A ([(l1, .inr (7, [.int 0, .ref d, .int 0])), (wt, .inl (t 4, 8, .inr (.inr (.inr (.inr (fun _ => none)))))), (da, .inl (t 6, 80, .inr (.inr (.inr (.inr fd))))), (dk, .inr (6, [.ref da, .int 0])), (la, .inl (t 6, 80, .inr (.inr (.inr (.inr fl))))), (lv, .inr (6, [.ref la, .int 0])), (ro, .inl (t 1, 4, .inl (fun _ => 0))), (ca, .inl (t 5, 6, .inr (.inr (.inr (.inr (fun _ => none)))))), (tb, .inl (t 0, 64, .inl (fun _ => 0))), (tp, .inr (2, [.ref tb, .int 0])), (h0, .inr (1, [.ref tp, .ref ca, .ref ro, .ref lv, .ref dk, .ref wt, .int 0, .long 0, .null, .null, .null, .null, .null, .null, .null, .null, .null, .null]))] ++ (Td ++ (Tl ++ ([] : va_W)))) := hD
  refine r_putF hF ci_X11 fl_X11_45 dX11_init_70 hP hD hS (q0 := 10) rfl hin rfl rfl rfl rfl (Nat.le_of_ble_eq_true rfl) (fun H locs hP hD hS => ?_)
  replace hP : va_P D cl1 ([(l1, .inr (7, [.int 0, .ref d, .int 0])), (wt, .inl (t 4, 8, .inr (.inr (.inr (.inr (fun _ => none)))))), (da, .inl (t 6, 80, .inr (.inr (.inr (.inr fd))))), (dk, .inr (6, [.ref da, .int 0])), (la, .inl (t 6, 80, .inr (.inr (.inr (.inr fl))))), (lv, .inr (6, [.ref la, .int 0])), (ro, .inl (t 1, 4, .inl (fun _ => 0))), (ca, .inl (t 5, 6, .inr (.inr (.inr (.inr (fun _ => none)))))), (tb, .inl (t 0, 64, .inl (fun _ => 0))), (tp, .inr (2, [.ref tb, .int 0])), (h0, .inr (1, [.ref tp, .ref ca, .ref ro, .ref lv, .ref dk, .ref wt, .int 0, .long 0, .ref l1, .null, .null, .null, .null, .null, .null, .null, .null, .null]))] ++ (Td ++ (Tl ++ ([] : va_W)))) H := hP
  replace hD : va_D A ([(l1, .inr (7, [.int 0, .ref d, .int 0])), (wt, .inl (t 4, 8, .inr (.inr (.inr (.inr (fun _ => none)))))), (da, .inl (t 6, 80, .inr (.inr (.inr (.inr fd))))), (dk, .inr (6, [.ref da, .int 0])), (la, .inl (t 6, 80, .inr (.inr (.inr (.inr fl))))), (lv, .inr (6, [.ref la, .int 0])), (ro, .inl (t 1, 4, .inl (fun _ => 0))), (ca, .inl (t 5, 6, .inr (.inr (.inr (.inr (fun _ => none)))))), (tb, .inl (t 0, 64, .inl (fun _ => 0))), (tp, .inr (2, [.ref tb, .int 0])), (h0, .inr (1, [.ref tp, .ref ca, .ref ro, .ref lv, .ref dk, .ref wt, .int 0, .long 0, .ref l1, .null, .null, .null, .null, .null, .null, .null, .null, .null]))] ++ (Td ++ (Tl ++ ([] : va_W)))) := hD
  refine lv_aload_n hx hb dX11_init_73 rfl (lv_at hl 0 rfl) ?_
  refine r_new (fs := [.int 0, .null, .int 0]) hF ci_Jx4a65c dX11_init_74 (wb 47 rfl) (wb 49 rfl) (wb 48 rfl) hP hD hS hA def_Jx4a65c (by decide) (by decide) (fun l2 H hP hD hS => ?_)
  refine lv_dup hx hb dX11_init_77 rfl ?_
  refine r_cWI (wc := [(l2, .inr (7, [.int 0, .null, .int 0]))]) (X := [(l1, .inr (7, [.int 0, .ref d, .int 0])), (wt, .inl (t 4, 8, .inr (.inr (.inr (.inr (fun _ => none)))))), (da, .inl (t 6, 80, .inr (.inr (.inr (.inr fd))))), (dk, .inr (6, [.ref da, .int 0])), (la, .inl (t 6, 80, .inr (.inr (.inr (.inr fl))))), (lv, .inr (6, [.ref la, .int 0])), (ro, .inl (t 1, 4, .inl (fun _ => 0))), (ca, .inl (t 5, 6, .inr (.inr (.inr (.inr (fun _ => none)))))), (tb, .inl (t 0, 64, .inl (fun _ => 0))), (tp, .inr (2, [.ref tb, .int 0])), (h0, .inr (1, [.ref tp, .ref ca, .ref ro, .ref lv, .ref dk, .ref wt, .int 0, .long 0, .ref l1, .null, .null, .null, .null, .null, .null, .null, .null, .null]))] ++ (Td ++ (Tl ++ ([] : va_W)))) (As := []) (rest := [.ref l2, .ref h0]) hF mi_X11_44 (c_Jx4a65c_init l D t d l2 _) (fun _ U _ _ h => va_Z.moved (Vm.Alike.refl U.vm) h) (fun U hU hW => by rw [hU]; exact ((hZ.kept (fun a h1 h2 => hS.2.1 a h1 h2)).moved hW.alike).narrow (a_in (D_left (w1 := [(l2, .inr (7, [.int 0, .null, .int 0]))]) hD) hS hA)) dX11_init_78 rfl rfl (by decide) rfl hl.1 (Nat.le_of_ble_eq_true rfl) hP hD hS hA (by decide) rfl (fun w1 H locs hI hP hD hS => ?_)
  have hI : w1 = [(l2, .inr (7, [.int 0, .ref d, .int 0]))] := hI
  subst hI
  replace hP : va_P D cl1 ([(l2, .inr (7, [.int 0, .ref d, .int 0])), (l1, .inr (7, [.int 0, .ref d, .int 0])), (wt, .inl (t 4, 8, .inr (.inr (.inr (.inr (fun _ => none)))))), (da, .inl (t 6, 80, .inr (.inr (.inr (.inr fd))))), (dk, .inr (6, [.ref da, .int 0])), (la, .inl (t 6, 80, .inr (.inr (.inr (.inr fl))))), (lv, .inr (6, [.ref la, .int 0])), (ro, .inl (t 1, 4, .inl (fun _ => 0))), (ca, .inl (t 5, 6, .inr (.inr (.inr (.inr (fun _ => none)))))), (tb, .inl (t 0, 64, .inl (fun _ => 0))), (tp, .inr (2, [.ref tb, .int 0])), (h0, .inr (1, [.ref tp, .ref ca, .ref ro, .ref lv, .ref dk, .ref wt, .int 0, .long 0, .ref l1, .null, .null, .null, .null, .null, .null, .null, .null, .null]))] ++ (Td ++ (Tl ++ ([] : va_W)))) H := hP
  replace hD : va_D A ([(l2, .inr (7, [.int 0, .ref d, .int 0])), (l1, .inr (7, [.int 0, .ref d, .int 0])), (wt, .inl (t 4, 8, .inr (.inr (.inr (.inr (fun _ => none)))))), (da, .inl (t 6, 80, .inr (.inr (.inr (.inr fd))))), (dk, .inr (6, [.ref da, .int 0])), (la, .inl (t 6, 80, .inr (.inr (.inr (.inr fl))))), (lv, .inr (6, [.ref la, .int 0])), (ro, .inl (t 1, 4, .inl (fun _ => 0))), (ca, .inl (t 5, 6, .inr (.inr (.inr (.inr (fun _ => none)))))), (tb, .inl (t 0, 64, .inl (fun _ => 0))), (tp, .inr (2, [.ref tb, .int 0])), (h0, .inr (1, [.ref tp, .ref ca, .ref ro, .ref lv, .ref dk, .ref wt, .int 0, .long 0, .ref l1, .null, .null, .null, .null, .null, .null, .null, .null, .null]))] ++ (Td ++ (Tl ++ ([] : va_W)))) := hD
  refine r_putF hF ci_X11 fl_X11_49 dX11_init_81 hP hD hS (q0 := 11) rfl hin rfl rfl rfl rfl (Nat.le_of_ble_eq_true rfl) (fun H locs hP hD hS => ?_)
  replace hP : va_P D cl1 ([(l2, .inr (7, [.int 0, .ref d, .int 0])), (l1, .inr (7, [.int 0, .ref d, .int 0])), (wt, .inl (t 4, 8, .inr (.inr (.inr (.inr (fun _ => none)))))), (da, .inl (t 6, 80, .inr (.inr (.inr (.inr fd))))), (dk, .inr (6, [.ref da, .int 0])), (la, .inl (t 6, 80, .inr (.inr (.inr (.inr fl))))), (lv, .inr (6, [.ref la, .int 0])), (ro, .inl (t 1, 4, .inl (fun _ => 0))), (ca, .inl (t 5, 6, .inr (.inr (.inr (.inr (fun _ => none)))))), (tb, .inl (t 0, 64, .inl (fun _ => 0))), (tp, .inr (2, [.ref tb, .int 0])), (h0, .inr (1, [.ref tp, .ref ca, .ref ro, .ref lv, .ref dk, .ref wt, .int 0, .long 0, .ref l1, .ref l2, .null, .null, .null, .null, .null, .null, .null, .null]))] ++ (Td ++ (Tl ++ ([] : va_W)))) H := hP
  replace hD : va_D A ([(l2, .inr (7, [.int 0, .ref d, .int 0])), (l1, .inr (7, [.int 0, .ref d, .int 0])), (wt, .inl (t 4, 8, .inr (.inr (.inr (.inr (fun _ => none)))))), (da, .inl (t 6, 80, .inr (.inr (.inr (.inr fd))))), (dk, .inr (6, [.ref da, .int 0])), (la, .inl (t 6, 80, .inr (.inr (.inr (.inr fl))))), (lv, .inr (6, [.ref la, .int 0])), (ro, .inl (t 1, 4, .inl (fun _ => 0))), (ca, .inl (t 5, 6, .inr (.inr (.inr (.inr (fun _ => none)))))), (tb, .inl (t 0, 64, .inl (fun _ => 0))), (tp, .inr (2, [.ref tb, .int 0])), (h0, .inr (1, [.ref tp, .ref ca, .ref ro, .ref lv, .ref dk, .ref wt, .int 0, .long 0, .ref l1, .ref l2, .null, .null, .null, .null, .null, .null, .null, .null]))] ++ (Td ++ (Tl ++ ([] : va_W)))) := hD
  refine lv_aload_n hx hb dX11_init_84 rfl (lv_at hl 0 rfl) ?_
  refine r_new (fs := [.int 0, .null, .int 0]) hF ci_Jx4a65c dX11_init_85 (wb 47 rfl) (wb 49 rfl) (wb 48 rfl) hP hD hS hA def_Jx4a65c (by decide) (by decide) (fun l3 H hP hD hS => ?_)
  refine lv_dup hx hb dX11_init_88 rfl ?_
  refine r_cWI (wc := [(l3, .inr (7, [.int 0, .null, .int 0]))]) (X := [(l2, .inr (7, [.int 0, .ref d, .int 0])), (l1, .inr (7, [.int 0, .ref d, .int 0])), (wt, .inl (t 4, 8, .inr (.inr (.inr (.inr (fun _ => none)))))), (da, .inl (t 6, 80, .inr (.inr (.inr (.inr fd))))), (dk, .inr (6, [.ref da, .int 0])), (la, .inl (t 6, 80, .inr (.inr (.inr (.inr fl))))), (lv, .inr (6, [.ref la, .int 0])), (ro, .inl (t 1, 4, .inl (fun _ => 0))), (ca, .inl (t 5, 6, .inr (.inr (.inr (.inr (fun _ => none)))))), (tb, .inl (t 0, 64, .inl (fun _ => 0))), (tp, .inr (2, [.ref tb, .int 0])), (h0, .inr (1, [.ref tp, .ref ca, .ref ro, .ref lv, .ref dk, .ref wt, .int 0, .long 0, .ref l1, .ref l2, .null, .null, .null, .null, .null, .null, .null, .null]))] ++ (Td ++ (Tl ++ ([] : va_W)))) (As := []) (rest := [.ref l3, .ref h0]) hF mi_X11_44 (c_Jx4a65c_init l D t d l3 _) (fun _ U _ _ h => va_Z.moved (Vm.Alike.refl U.vm) h) (fun U hU hW => by rw [hU]; exact ((hZ.kept (fun a h1 h2 => hS.2.1 a h1 h2)).moved hW.alike).narrow (a_in (D_left (w1 := [(l3, .inr (7, [.int 0, .null, .int 0]))]) hD) hS hA)) dX11_init_89 rfl rfl (by decide) rfl hl.1 (Nat.le_of_ble_eq_true rfl) hP hD hS hA (by decide) rfl (fun w1 H locs hI hP hD hS => ?_)
  have hI : w1 = [(l3, .inr (7, [.int 0, .ref d, .int 0]))] := hI
  subst hI
  replace hP : va_P D cl1 ([(l3, .inr (7, [.int 0, .ref d, .int 0])), (l2, .inr (7, [.int 0, .ref d, .int 0])), (l1, .inr (7, [.int 0, .ref d, .int 0])), (wt, .inl (t 4, 8, .inr (.inr (.inr (.inr (fun _ => none)))))), (da, .inl (t 6, 80, .inr (.inr (.inr (.inr fd))))), (dk, .inr (6, [.ref da, .int 0])), (la, .inl (t 6, 80, .inr (.inr (.inr (.inr fl))))), (lv, .inr (6, [.ref la, .int 0])), (ro, .inl (t 1, 4, .inl (fun _ => 0))), (ca, .inl (t 5, 6, .inr (.inr (.inr (.inr (fun _ => none)))))), (tb, .inl (t 0, 64, .inl (fun _ => 0))), (tp, .inr (2, [.ref tb, .int 0])), (h0, .inr (1, [.ref tp, .ref ca, .ref ro, .ref lv, .ref dk, .ref wt, .int 0, .long 0, .ref l1, .ref l2, .null, .null, .null, .null, .null, .null, .null, .null]))] ++ (Td ++ (Tl ++ ([] : va_W)))) H := hP
  replace hD : va_D A ([(l3, .inr (7, [.int 0, .ref d, .int 0])), (l2, .inr (7, [.int 0, .ref d, .int 0])), (l1, .inr (7, [.int 0, .ref d, .int 0])), (wt, .inl (t 4, 8, .inr (.inr (.inr (.inr (fun _ => none)))))), (da, .inl (t 6, 80, .inr (.inr (.inr (.inr fd))))), (dk, .inr (6, [.ref da, .int 0])), (la, .inl (t 6, 80, .inr (.inr (.inr (.inr fl))))), (lv, .inr (6, [.ref la, .int 0])), (ro, .inl (t 1, 4, .inl (fun _ => 0))), (ca, .inl (t 5, 6, .inr (.inr (.inr (.inr (fun _ => none)))))), (tb, .inl (t 0, 64, .inl (fun _ => 0))), (tp, .inr (2, [.ref tb, .int 0])), (h0, .inr (1, [.ref tp, .ref ca, .ref ro, .ref lv, .ref dk, .ref wt, .int 0, .long 0, .ref l1, .ref l2, .null, .null, .null, .null, .null, .null, .null, .null]))] ++ (Td ++ (Tl ++ ([] : va_W)))) := hD
  refine r_putF hF ci_X11 fl_X11_52 dX11_init_92 hP hD hS (q0 := 12) rfl hin rfl rfl rfl rfl (Nat.le_of_ble_eq_true rfl) (fun H locs hP hD hS => ?_)
  replace hP : va_P D cl1 ([(l3, .inr (7, [.int 0, .ref d, .int 0])), (l2, .inr (7, [.int 0, .ref d, .int 0])), (l1, .inr (7, [.int 0, .ref d, .int 0])), (wt, .inl (t 4, 8, .inr (.inr (.inr (.inr (fun _ => none)))))), (da, .inl (t 6, 80, .inr (.inr (.inr (.inr fd))))), (dk, .inr (6, [.ref da, .int 0])), (la, .inl (t 6, 80, .inr (.inr (.inr (.inr fl))))), (lv, .inr (6, [.ref la, .int 0])), (ro, .inl (t 1, 4, .inl (fun _ => 0))), (ca, .inl (t 5, 6, .inr (.inr (.inr (.inr (fun _ => none)))))), (tb, .inl (t 0, 64, .inl (fun _ => 0))), (tp, .inr (2, [.ref tb, .int 0])), (h0, .inr (1, [.ref tp, .ref ca, .ref ro, .ref lv, .ref dk, .ref wt, .int 0, .long 0, .ref l1, .ref l2, .ref l3, .null, .null, .null, .null, .null, .null, .null]))] ++ (Td ++ (Tl ++ ([] : va_W)))) H := hP
  replace hD : va_D A ([(l3, .inr (7, [.int 0, .ref d, .int 0])), (l2, .inr (7, [.int 0, .ref d, .int 0])), (l1, .inr (7, [.int 0, .ref d, .int 0])), (wt, .inl (t 4, 8, .inr (.inr (.inr (.inr (fun _ => none)))))), (da, .inl (t 6, 80, .inr (.inr (.inr (.inr fd))))), (dk, .inr (6, [.ref da, .int 0])), (la, .inl (t 6, 80, .inr (.inr (.inr (.inr fl))))), (lv, .inr (6, [.ref la, .int 0])), (ro, .inl (t 1, 4, .inl (fun _ => 0))), (ca, .inl (t 5, 6, .inr (.inr (.inr (.inr (fun _ => none)))))), (tb, .inl (t 0, 64, .inl (fun _ => 0))), (tp, .inr (2, [.ref tb, .int 0])), (h0, .inr (1, [.ref tp, .ref ca, .ref ro, .ref lv, .ref dk, .ref wt, .int 0, .long 0, .ref l1, .ref l2, .ref l3, .null, .null, .null, .null, .null, .null, .null]))] ++ (Td ++ (Tl ++ ([] : va_W)))) := hD
  refine lv_aload_n hx hb dX11_init_95 rfl (lv_at hl 0 rfl) ?_
  refine r_new (fs := [.int 0, .null, .int 0]) hF ci_Jx4a65c dX11_init_96 (wb 47 rfl) (wb 49 rfl) (wb 48 rfl) hP hD hS hA def_Jx4a65c (by decide) (by decide) (fun l4 H hP hD hS => ?_)
  refine lv_dup hx hb dX11_init_99 rfl ?_
  refine r_cWI (wc := [(l4, .inr (7, [.int 0, .null, .int 0]))]) (X := [(l3, .inr (7, [.int 0, .ref d, .int 0])), (l2, .inr (7, [.int 0, .ref d, .int 0])), (l1, .inr (7, [.int 0, .ref d, .int 0])), (wt, .inl (t 4, 8, .inr (.inr (.inr (.inr (fun _ => none)))))), (da, .inl (t 6, 80, .inr (.inr (.inr (.inr fd))))), (dk, .inr (6, [.ref da, .int 0])), (la, .inl (t 6, 80, .inr (.inr (.inr (.inr fl))))), (lv, .inr (6, [.ref la, .int 0])), (ro, .inl (t 1, 4, .inl (fun _ => 0))), (ca, .inl (t 5, 6, .inr (.inr (.inr (.inr (fun _ => none)))))), (tb, .inl (t 0, 64, .inl (fun _ => 0))), (tp, .inr (2, [.ref tb, .int 0])), (h0, .inr (1, [.ref tp, .ref ca, .ref ro, .ref lv, .ref dk, .ref wt, .int 0, .long 0, .ref l1, .ref l2, .ref l3, .null, .null, .null, .null, .null, .null, .null]))] ++ (Td ++ (Tl ++ ([] : va_W)))) (As := []) (rest := [.ref l4, .ref h0]) hF mi_X11_44 (c_Jx4a65c_init l D t d l4 _) (fun _ U _ _ h => va_Z.moved (Vm.Alike.refl U.vm) h) (fun U hU hW => by rw [hU]; exact ((hZ.kept (fun a h1 h2 => hS.2.1 a h1 h2)).moved hW.alike).narrow (a_in (D_left (w1 := [(l4, .inr (7, [.int 0, .null, .int 0]))]) hD) hS hA)) dX11_init_100 rfl rfl (by decide) rfl hl.1 (Nat.le_of_ble_eq_true rfl) hP hD hS hA (by decide) rfl (fun w1 H locs hI hP hD hS => ?_)
  have hI : w1 = [(l4, .inr (7, [.int 0, .ref d, .int 0]))] := hI
  subst hI
  replace hP : va_P D cl1 ([(l4, .inr (7, [.int 0, .ref d, .int 0])), (l3, .inr (7, [.int 0, .ref d, .int 0])), (l2, .inr (7, [.int 0, .ref d, .int 0])), (l1, .inr (7, [.int 0, .ref d, .int 0])), (wt, .inl (t 4, 8, .inr (.inr (.inr (.inr (fun _ => none)))))), (da, .inl (t 6, 80, .inr (.inr (.inr (.inr fd))))), (dk, .inr (6, [.ref da, .int 0])), (la, .inl (t 6, 80, .inr (.inr (.inr (.inr fl))))), (lv, .inr (6, [.ref la, .int 0])), (ro, .inl (t 1, 4, .inl (fun _ => 0))), (ca, .inl (t 5, 6, .inr (.inr (.inr (.inr (fun _ => none)))))), (tb, .inl (t 0, 64, .inl (fun _ => 0))), (tp, .inr (2, [.ref tb, .int 0])), (h0, .inr (1, [.ref tp, .ref ca, .ref ro, .ref lv, .ref dk, .ref wt, .int 0, .long 0, .ref l1, .ref l2, .ref l3, .null, .null, .null, .null, .null, .null, .null]))] ++ (Td ++ (Tl ++ ([] : va_W)))) H := hP
  replace hD : va_D A ([(l4, .inr (7, [.int 0, .ref d, .int 0])), (l3, .inr (7, [.int 0, .ref d, .int 0])), (l2, .inr (7, [.int 0, .ref d, .int 0])), (l1, .inr (7, [.int 0, .ref d, .int 0])), (wt, .inl (t 4, 8, .inr (.inr (.inr (.inr (fun _ => none)))))), (da, .inl (t 6, 80, .inr (.inr (.inr (.inr fd))))), (dk, .inr (6, [.ref da, .int 0])), (la, .inl (t 6, 80, .inr (.inr (.inr (.inr fl))))), (lv, .inr (6, [.ref la, .int 0])), (ro, .inl (t 1, 4, .inl (fun _ => 0))), (ca, .inl (t 5, 6, .inr (.inr (.inr (.inr (fun _ => none)))))), (tb, .inl (t 0, 64, .inl (fun _ => 0))), (tp, .inr (2, [.ref tb, .int 0])), (h0, .inr (1, [.ref tp, .ref ca, .ref ro, .ref lv, .ref dk, .ref wt, .int 0, .long 0, .ref l1, .ref l2, .ref l3, .null, .null, .null, .null, .null, .null, .null]))] ++ (Td ++ (Tl ++ ([] : va_W)))) := hD
  refine r_putF hF ci_X11 fl_X11_55 dX11_init_103 hP hD hS (q0 := 13) rfl hin rfl rfl rfl rfl (Nat.le_of_ble_eq_true rfl) (fun H locs hP hD hS => ?_)
  replace hP : va_P D cl1 ([(l4, .inr (7, [.int 0, .ref d, .int 0])), (l3, .inr (7, [.int 0, .ref d, .int 0])), (l2, .inr (7, [.int 0, .ref d, .int 0])), (l1, .inr (7, [.int 0, .ref d, .int 0])), (wt, .inl (t 4, 8, .inr (.inr (.inr (.inr (fun _ => none)))))), (da, .inl (t 6, 80, .inr (.inr (.inr (.inr fd))))), (dk, .inr (6, [.ref da, .int 0])), (la, .inl (t 6, 80, .inr (.inr (.inr (.inr fl))))), (lv, .inr (6, [.ref la, .int 0])), (ro, .inl (t 1, 4, .inl (fun _ => 0))), (ca, .inl (t 5, 6, .inr (.inr (.inr (.inr (fun _ => none)))))), (tb, .inl (t 0, 64, .inl (fun _ => 0))), (tp, .inr (2, [.ref tb, .int 0])), (h0, .inr (1, [.ref tp, .ref ca, .ref ro, .ref lv, .ref dk, .ref wt, .int 0, .long 0, .ref l1, .ref l2, .ref l3, .ref l4, .null, .null, .null, .null, .null, .null]))] ++ (Td ++ (Tl ++ ([] : va_W)))) H := hP
  replace hD : va_D A ([(l4, .inr (7, [.int 0, .ref d, .int 0])), (l3, .inr (7, [.int 0, .ref d, .int 0])), (l2, .inr (7, [.int 0, .ref d, .int 0])), (l1, .inr (7, [.int 0, .ref d, .int 0])), (wt, .inl (t 4, 8, .inr (.inr (.inr (.inr (fun _ => none)))))), (da, .inl (t 6, 80, .inr (.inr (.inr (.inr fd))))), (dk, .inr (6, [.ref da, .int 0])), (la, .inl (t 6, 80, .inr (.inr (.inr (.inr fl))))), (lv, .inr (6, [.ref la, .int 0])), (ro, .inl (t 1, 4, .inl (fun _ => 0))), (ca, .inl (t 5, 6, .inr (.inr (.inr (.inr (fun _ => none)))))), (tb, .inl (t 0, 64, .inl (fun _ => 0))), (tp, .inr (2, [.ref tb, .int 0])), (h0, .inr (1, [.ref tp, .ref ca, .ref ro, .ref lv, .ref dk, .ref wt, .int 0, .long 0, .ref l1, .ref l2, .ref l3, .ref l4, .null, .null, .null, .null, .null, .null]))] ++ (Td ++ (Tl ++ ([] : va_W)))) := hD
  refine lv_aload_n hx hb dX11_init_106 rfl (lv_at hl 0 rfl) ?_
  refine r_new (fs := [.int 0, .null, .int 0]) hF ci_Jx4a65c dX11_init_107 (wb 47 rfl) (wb 49 rfl) (wb 48 rfl) hP hD hS hA def_Jx4a65c (by decide) (by decide) (fun l5 H hP hD hS => ?_)
  refine lv_dup hx hb dX11_init_110 rfl ?_
  refine r_cWI (wc := [(l5, .inr (7, [.int 0, .null, .int 0]))]) (X := [(l4, .inr (7, [.int 0, .ref d, .int 0])), (l3, .inr (7, [.int 0, .ref d, .int 0])), (l2, .inr (7, [.int 0, .ref d, .int 0])), (l1, .inr (7, [.int 0, .ref d, .int 0])), (wt, .inl (t 4, 8, .inr (.inr (.inr (.inr (fun _ => none)))))), (da, .inl (t 6, 80, .inr (.inr (.inr (.inr fd))))), (dk, .inr (6, [.ref da, .int 0])), (la, .inl (t 6, 80, .inr (.inr (.inr (.inr fl))))), (lv, .inr (6, [.ref la, .int 0])), (ro, .inl (t 1, 4, .inl (fun _ => 0))), (ca, .inl (t 5, 6, .inr (.inr (.inr (.inr (fun _ => none)))))), (tb, .inl (t 0, 64, .inl (fun _ => 0))), (tp, .inr (2, [.ref tb, .int 0])), (h0, .inr (1, [.ref tp, .ref ca, .ref ro, .ref lv, .ref dk, .ref wt, .int 0, .long 0, .ref l1, .ref l2, .ref l3, .ref l4, .null, .null, .null, .null, .null, .null]))] ++ (Td ++ (Tl ++ ([] : va_W)))) (As := []) (rest := [.ref l5, .ref h0]) hF mi_X11_44 (c_Jx4a65c_init l D t d l5 _) (fun _ U _ _ h => va_Z.moved (Vm.Alike.refl U.vm) h) (fun U hU hW => by rw [hU]; exact ((hZ.kept (fun a h1 h2 => hS.2.1 a h1 h2)).moved hW.alike).narrow (a_in (D_left (w1 := [(l5, .inr (7, [.int 0, .null, .int 0]))]) hD) hS hA)) dX11_init_111 rfl rfl (by decide) rfl hl.1 (Nat.le_of_ble_eq_true rfl) hP hD hS hA (by decide) rfl (fun w1 H locs hI hP hD hS => ?_)
  have hI : w1 = [(l5, .inr (7, [.int 0, .ref d, .int 0]))] := hI
  subst hI
  replace hP : va_P D cl1 ([(l5, .inr (7, [.int 0, .ref d, .int 0])), (l4, .inr (7, [.int 0, .ref d, .int 0])), (l3, .inr (7, [.int 0, .ref d, .int 0])), (l2, .inr (7, [.int 0, .ref d, .int 0])), (l1, .inr (7, [.int 0, .ref d, .int 0])), (wt, .inl (t 4, 8, .inr (.inr (.inr (.inr (fun _ => none)))))), (da, .inl (t 6, 80, .inr (.inr (.inr (.inr fd))))), (dk, .inr (6, [.ref da, .int 0])), (la, .inl (t 6, 80, .inr (.inr (.inr (.inr fl))))), (lv, .inr (6, [.ref la, .int 0])), (ro, .inl (t 1, 4, .inl (fun _ => 0))), (ca, .inl (t 5, 6, .inr (.inr (.inr (.inr (fun _ => none)))))), (tb, .inl (t 0, 64, .inl (fun _ => 0))), (tp, .inr (2, [.ref tb, .int 0])), (h0, .inr (1, [.ref tp, .ref ca, .ref ro, .ref lv, .ref dk, .ref wt, .int 0, .long 0, .ref l1, .ref l2, .ref l3, .ref l4, .null, .null, .null, .null, .null, .null]))] ++ (Td ++ (Tl ++ ([] : va_W)))) H := hP
  replace hD : va_D A ([(l5, .inr (7, [.int 0, .ref d, .int 0])), (l4, .inr (7, [.int 0, .ref d, .int 0])), (l3, .inr (7, [.int 0, .ref d, .int 0])), (l2, .inr (7, [.int 0, .ref d, .int 0])), (l1, .inr (7, [.int 0, .ref d, .int 0])), (wt, .inl (t 4, 8, .inr (.inr (.inr (.inr (fun _ => none)))))), (da, .inl (t 6, 80, .inr (.inr (.inr (.inr fd))))), (dk, .inr (6, [.ref da, .int 0])), (la, .inl (t 6, 80, .inr (.inr (.inr (.inr fl))))), (lv, .inr (6, [.ref la, .int 0])), (ro, .inl (t 1, 4, .inl (fun _ => 0))), (ca, .inl (t 5, 6, .inr (.inr (.inr (.inr (fun _ => none)))))), (tb, .inl (t 0, 64, .inl (fun _ => 0))), (tp, .inr (2, [.ref tb, .int 0])), (h0, .inr (1, [.ref tp, .ref ca, .ref ro, .ref lv, .ref dk, .ref wt, .int 0, .long 0, .ref l1, .ref l2, .ref l3, .ref l4, .null, .null, .null, .null, .null, .null]))] ++ (Td ++ (Tl ++ ([] : va_W)))) := hD
  refine r_putF hF ci_X11 fl_X11_58 dX11_init_114 hP hD hS (q0 := 14) rfl hin rfl rfl rfl rfl (Nat.le_of_ble_eq_true rfl) (fun H locs hP hD hS => ?_)
  replace hP : va_P D cl1 ([(l5, .inr (7, [.int 0, .ref d, .int 0])), (l4, .inr (7, [.int 0, .ref d, .int 0])), (l3, .inr (7, [.int 0, .ref d, .int 0])), (l2, .inr (7, [.int 0, .ref d, .int 0])), (l1, .inr (7, [.int 0, .ref d, .int 0])), (wt, .inl (t 4, 8, .inr (.inr (.inr (.inr (fun _ => none)))))), (da, .inl (t 6, 80, .inr (.inr (.inr (.inr fd))))), (dk, .inr (6, [.ref da, .int 0])), (la, .inl (t 6, 80, .inr (.inr (.inr (.inr fl))))), (lv, .inr (6, [.ref la, .int 0])), (ro, .inl (t 1, 4, .inl (fun _ => 0))), (ca, .inl (t 5, 6, .inr (.inr (.inr (.inr (fun _ => none)))))), (tb, .inl (t 0, 64, .inl (fun _ => 0))), (tp, .inr (2, [.ref tb, .int 0])), (h0, .inr (1, [.ref tp, .ref ca, .ref ro, .ref lv, .ref dk, .ref wt, .int 0, .long 0, .ref l1, .ref l2, .ref l3, .ref l4, .ref l5, .null, .null, .null, .null, .null]))] ++ (Td ++ (Tl ++ ([] : va_W)))) H := hP
  replace hD : va_D A ([(l5, .inr (7, [.int 0, .ref d, .int 0])), (l4, .inr (7, [.int 0, .ref d, .int 0])), (l3, .inr (7, [.int 0, .ref d, .int 0])), (l2, .inr (7, [.int 0, .ref d, .int 0])), (l1, .inr (7, [.int 0, .ref d, .int 0])), (wt, .inl (t 4, 8, .inr (.inr (.inr (.inr (fun _ => none)))))), (da, .inl (t 6, 80, .inr (.inr (.inr (.inr fd))))), (dk, .inr (6, [.ref da, .int 0])), (la, .inl (t 6, 80, .inr (.inr (.inr (.inr fl))))), (lv, .inr (6, [.ref la, .int 0])), (ro, .inl (t 1, 4, .inl (fun _ => 0))), (ca, .inl (t 5, 6, .inr (.inr (.inr (.inr (fun _ => none)))))), (tb, .inl (t 0, 64, .inl (fun _ => 0))), (tp, .inr (2, [.ref tb, .int 0])), (h0, .inr (1, [.ref tp, .ref ca, .ref ro, .ref lv, .ref dk, .ref wt, .int 0, .long 0, .ref l1, .ref l2, .ref l3, .ref l4, .ref l5, .null, .null, .null, .null, .null]))] ++ (Td ++ (Tl ++ ([] : va_W)))) := hD
  refine lv_aload_n hx hb dX11_init_117 rfl (lv_at hl 0 rfl) ?_
  refine lv_iconst (v := 4) hx hb dX11_init_118 (by decide) ?_
  refine r_newF (t0 := 2) (N' := 4) (a0 := (4, .inr (.inl (fun _ => 0)))) hF dX11_init_119 (wb 138 rfl) rfl rfl id hP hD hS hA (fun _ => rfl) (by decide) (by decide) (by decide) (by decide) (by decide) (fun se H hP hD hS => ?_)
  refine r_putF hF ci_X11 fl_X11_61 dX11_init_121 hP hD hS (q0 := 15) rfl hin rfl rfl rfl rfl (Nat.le_of_ble_eq_true rfl) (fun H locs hP hD hS => ?_)
  replace hP : va_P D cl1 ([(se, .inl (t 2, 4, .inr (.inl (fun _ => 0)))), (l5, .inr (7, [.int 0, .ref d, .int 0])), (l4, .inr (7, [.int 0, .ref d, .int 0])), (l3, .inr (7, [.int 0, .ref d, .int 0])), (l2, .inr (7, [.int 0, .ref d, .int 0])), (l1, .inr (7, [.int 0, .ref d, .int 0])), (wt, .inl (t 4, 8, .inr (.inr (.inr (.inr (fun _ => none)))))), (da, .inl (t 6, 80, .inr (.inr (.inr (.inr fd))))), (dk, .inr (6, [.ref da, .int 0])), (la, .inl (t 6, 80, .inr (.inr (.inr (.inr fl))))), (lv, .inr (6, [.ref la, .int 0])), (ro, .inl (t 1, 4, .inl (fun _ => 0))), (ca, .inl (t 5, 6, .inr (.inr (.inr (.inr (fun _ => none)))))), (tb, .inl (t 0, 64, .inl (fun _ => 0))), (tp, .inr (2, [.ref tb, .int 0])), (h0, .inr (1, [.ref tp, .ref ca, .ref ro, .ref lv, .ref dk, .ref wt, .int 0, .long 0, .ref l1, .ref l2, .ref l3, .ref l4, .ref l5, .ref se, .null, .null, .null, .null]))] ++ (Td ++ (Tl ++ ([] : va_W)))) H := hP
  replace hD : va_D A ([(se, .inl (t 2, 4, .inr (.inl (fun _ => 0)))), (l5, .inr (7, [.int 0, .ref d, .int 0])), (l4, .inr (7, [.int 0, .ref d, .int 0])), (l3, .inr (7, [.int 0, .ref d, .int 0])), (l2, .inr (7, [.int 0, .ref d, .int 0])), (l1, .inr (7, [.int 0, .ref d, .int 0])), (wt, .inl (t 4, 8, .inr (.inr (.inr (.inr (fun _ => none)))))), (da, .inl (t 6, 80, .inr (.inr (.inr (.inr fd))))), (dk, .inr (6, [.ref da, .int 0])), (la, .inl (t 6, 80, .inr (.inr (.inr (.inr fl))))), (lv, .inr (6, [.ref la, .int 0])), (ro, .inl (t 1, 4, .inl (fun _ => 0))), (ca, .inl (t 5, 6, .inr (.inr (.inr (.inr (fun _ => none)))))), (tb, .inl (t 0, 64, .inl (fun _ => 0))), (tp, .inr (2, [.ref tb, .int 0])), (h0, .inr (1, [.ref tp, .ref ca, .ref ro, .ref lv, .ref dk, .ref wt, .int 0, .long 0, .ref l1, .ref l2, .ref l3, .ref l4, .ref l5, .ref se, .null, .null, .null, .null]))] ++ (Td ++ (Tl ++ ([] : va_W)))) := hD
  refine lv_aload_n hx hb dX11_init_124 rfl (lv_at hl 0 rfl) ?_
  refine r_new (fs := [.null, .int 0]) hF ci_X6 dX11_init_125 (wb 37 rfl) (wb 17 rfl) (wb 16 rfl) hP hD hS hA def_X6 (by decide) (by decide) (fun r1 H hP hD hS => ?_)
  refine lv_dup hx hb dX11_init_128 rfl ?_
  refine r_cWN (wc := [(r1, .inr (2, [.null, .int 0]))]) (X := [(se, .inl (t 2, 4, .inr (.inl (fun _ => 0)))), (l5, .inr (7, [.int 0, .ref d, .int 0])), (l4, .inr (7, [.int 0, .ref d, .int 0])), (l3, .inr (7, [.int 0, .ref d, .int 0])), (l2, .inr (7, [.int 0, .ref d, .int 0])), (l1, .inr (7, [.int 0, .ref d, .int 0])), (wt, .inl (t 4, 8, .inr (.inr (.inr (.inr (fun _ => none)))))), (da, .inl (t 6, 80, .inr (.inr (.inr (.inr fd))))), (dk, .inr (6, [.ref da, .int 0])), (la, .inl (t 6, 80, .inr (.inr (.inr (.inr fl))))), (lv, .inr (6, [.ref la, .int 0])), (ro, .inl (t 1, 4, .inl (fun _ => 0))), (ca, .inl (t 5, 6, .inr (.inr (.inr (.inr (fun _ => none)))))), (tb, .inl (t 0, 64, .inl (fun _ => 0))), (tp, .inr (2, [.ref tb, .int 0])), (h0, .inr (1, [.ref tp, .ref ca, .ref ro, .ref lv, .ref dk, .ref wt, .int 0, .long 0, .ref l1, .ref l2, .ref l3, .ref l4, .ref l5, .ref se, .null, .null, .null, .null]))] ++ (Td ++ (Tl ++ ([] : va_W)))) (As := []) (rest := [.ref r1, .ref h0]) hF nR mn_X11_9 (c_X6_init l D t r1 _) (fun _ _ _ _ h => h) (fun _ _ _ => trivial) dX11_init_129 rfl rfl (by decide) rfl hl.1 (Nat.le_of_ble_eq_true rfl) hP hD hS hA (by decide) rfl (fun w1 H locs hI hP hD hS => ?_)
  obtain ⟨b1, rfl⟩ := hI
  replace hP : va_P D cl1 ([(b1, .inl (t 0, 64, .inl (fun _ => 0))), (r1, .inr (2, [.ref b1, .int 0])), (se, .inl (t 2, 4, .inr (.inl (fun _ => 0)))), (l5, .inr (7, [.int 0, .ref d, .int 0])), (l4, .inr (7, [.int 0, .ref d, .int 0])), (l3, .inr (7, [.int 0, .ref d, .int 0])), (l2, .inr (7, [.int 0, .ref d, .int 0])), (l1, .inr (7, [.int 0, .ref d, .int 0])), (wt, .inl (t 4, 8, .inr (.inr (.inr (.inr (fun _ => none)))))), (da, .inl (t 6, 80, .inr (.inr (.inr (.inr fd))))), (dk, .inr (6, [.ref da, .int 0])), (la, .inl (t 6, 80, .inr (.inr (.inr (.inr fl))))), (lv, .inr (6, [.ref la, .int 0])), (ro, .inl (t 1, 4, .inl (fun _ => 0))), (ca, .inl (t 5, 6, .inr (.inr (.inr (.inr (fun _ => none)))))), (tb, .inl (t 0, 64, .inl (fun _ => 0))), (tp, .inr (2, [.ref tb, .int 0])), (h0, .inr (1, [.ref tp, .ref ca, .ref ro, .ref lv, .ref dk, .ref wt, .int 0, .long 0, .ref l1, .ref l2, .ref l3, .ref l4, .ref l5, .ref se, .null, .null, .null, .null]))] ++ (Td ++ (Tl ++ ([] : va_W)))) H := hP
  replace hD : va_D A ([(b1, .inl (t 0, 64, .inl (fun _ => 0))), (r1, .inr (2, [.ref b1, .int 0])), (se, .inl (t 2, 4, .inr (.inl (fun _ => 0)))), (l5, .inr (7, [.int 0, .ref d, .int 0])), (l4, .inr (7, [.int 0, .ref d, .int 0])), (l3, .inr (7, [.int 0, .ref d, .int 0])), (l2, .inr (7, [.int 0, .ref d, .int 0])), (l1, .inr (7, [.int 0, .ref d, .int 0])), (wt, .inl (t 4, 8, .inr (.inr (.inr (.inr (fun _ => none)))))), (da, .inl (t 6, 80, .inr (.inr (.inr (.inr fd))))), (dk, .inr (6, [.ref da, .int 0])), (la, .inl (t 6, 80, .inr (.inr (.inr (.inr fl))))), (lv, .inr (6, [.ref la, .int 0])), (ro, .inl (t 1, 4, .inl (fun _ => 0))), (ca, .inl (t 5, 6, .inr (.inr (.inr (.inr (fun _ => none)))))), (tb, .inl (t 0, 64, .inl (fun _ => 0))), (tp, .inr (2, [.ref tb, .int 0])), (h0, .inr (1, [.ref tp, .ref ca, .ref ro, .ref lv, .ref dk, .ref wt, .int 0, .long 0, .ref l1, .ref l2, .ref l3, .ref l4, .ref l5, .ref se, .null, .null, .null, .null]))] ++ (Td ++ (Tl ++ ([] : va_W)))) := hD
  refine r_putF hF ci_X11 fl_X11_65 dX11_init_132 hP hD hS (q0 := 17) rfl hin rfl rfl rfl rfl (Nat.le_of_ble_eq_true rfl) (fun H locs hP hD hS => ?_)
  replace hP : va_P D cl1 ([(b1, .inl (t 0, 64, .inl (fun _ => 0))), (r1, .inr (2, [.ref b1, .int 0])), (se, .inl (t 2, 4, .inr (.inl (fun _ => 0)))), (l5, .inr (7, [.int 0, .ref d, .int 0])), (l4, .inr (7, [.int 0, .ref d, .int 0])), (l3, .inr (7, [.int 0, .ref d, .int 0])), (l2, .inr (7, [.int 0, .ref d, .int 0])), (l1, .inr (7, [.int 0, .ref d, .int 0])), (wt, .inl (t 4, 8, .inr (.inr (.inr (.inr (fun _ => none)))))), (da, .inl (t 6, 80, .inr (.inr (.inr (.inr fd))))), (dk, .inr (6, [.ref da, .int 0])), (la, .inl (t 6, 80, .inr (.inr (.inr (.inr fl))))), (lv, .inr (6, [.ref la, .int 0])), (ro, .inl (t 1, 4, .inl (fun _ => 0))), (ca, .inl (t 5, 6, .inr (.inr (.inr (.inr (fun _ => none)))))), (tb, .inl (t 0, 64, .inl (fun _ => 0))), (tp, .inr (2, [.ref tb, .int 0])), (h0, .inr (1, [.ref tp, .ref ca, .ref ro, .ref lv, .ref dk, .ref wt, .int 0, .long 0, .ref l1, .ref l2, .ref l3, .ref l4, .ref l5, .ref se, .ref r1, .null, .null, .null]))] ++ (Td ++ (Tl ++ ([] : va_W)))) H := hP
  replace hD : va_D A ([(b1, .inl (t 0, 64, .inl (fun _ => 0))), (r1, .inr (2, [.ref b1, .int 0])), (se, .inl (t 2, 4, .inr (.inl (fun _ => 0)))), (l5, .inr (7, [.int 0, .ref d, .int 0])), (l4, .inr (7, [.int 0, .ref d, .int 0])), (l3, .inr (7, [.int 0, .ref d, .int 0])), (l2, .inr (7, [.int 0, .ref d, .int 0])), (l1, .inr (7, [.int 0, .ref d, .int 0])), (wt, .inl (t 4, 8, .inr (.inr (.inr (.inr (fun _ => none)))))), (da, .inl (t 6, 80, .inr (.inr (.inr (.inr fd))))), (dk, .inr (6, [.ref da, .int 0])), (la, .inl (t 6, 80, .inr (.inr (.inr (.inr fl))))), (lv, .inr (6, [.ref la, .int 0])), (ro, .inl (t 1, 4, .inl (fun _ => 0))), (ca, .inl (t 5, 6, .inr (.inr (.inr (.inr (fun _ => none)))))), (tb, .inl (t 0, 64, .inl (fun _ => 0))), (tp, .inr (2, [.ref tb, .int 0])), (h0, .inr (1, [.ref tp, .ref ca, .ref ro, .ref lv, .ref dk, .ref wt, .int 0, .long 0, .ref l1, .ref l2, .ref l3, .ref l4, .ref l5, .ref se, .ref r1, .null, .null, .null]))] ++ (Td ++ (Tl ++ ([] : va_W)))) := hD
  refine lv_aload_n hx hb dX11_init_135 rfl (lv_at hl 0 rfl) ?_
  refine r_new (fs := [.null, .int 0]) hF ci_X6 dX11_init_136 (wb 37 rfl) (wb 17 rfl) (wb 16 rfl) hP hD hS hA def_X6 (by decide) (by decide) (fun r2 H hP hD hS => ?_)
  refine lv_dup hx hb dX11_init_139 rfl ?_
  refine r_cWN (wc := [(r2, .inr (2, [.null, .int 0]))]) (X := [(b1, .inl (t 0, 64, .inl (fun _ => 0))), (r1, .inr (2, [.ref b1, .int 0])), (se, .inl (t 2, 4, .inr (.inl (fun _ => 0)))), (l5, .inr (7, [.int 0, .ref d, .int 0])), (l4, .inr (7, [.int 0, .ref d, .int 0])), (l3, .inr (7, [.int 0, .ref d, .int 0])), (l2, .inr (7, [.int 0, .ref d, .int 0])), (l1, .inr (7, [.int 0, .ref d, .int 0])), (wt, .inl (t 4, 8, .inr (.inr (.inr (.inr (fun _ => none)))))), (da, .inl (t 6, 80, .inr (.inr (.inr (.inr fd))))), (dk, .inr (6, [.ref da, .int 0])), (la, .inl (t 6, 80, .inr (.inr (.inr (.inr fl))))), (lv, .inr (6, [.ref la, .int 0])), (ro, .inl (t 1, 4, .inl (fun _ => 0))), (ca, .inl (t 5, 6, .inr (.inr (.inr (.inr (fun _ => none)))))), (tb, .inl (t 0, 64, .inl (fun _ => 0))), (tp, .inr (2, [.ref tb, .int 0])), (h0, .inr (1, [.ref tp, .ref ca, .ref ro, .ref lv, .ref dk, .ref wt, .int 0, .long 0, .ref l1, .ref l2, .ref l3, .ref l4, .ref l5, .ref se, .ref r1, .null, .null, .null]))] ++ (Td ++ (Tl ++ ([] : va_W)))) (As := []) (rest := [.ref r2, .ref h0]) hF nR mn_X11_9 (c_X6_init l D t r2 _) (fun _ _ _ _ h => h) (fun _ _ _ => trivial) dX11_init_140 rfl rfl (by decide) rfl hl.1 (Nat.le_of_ble_eq_true rfl) hP hD hS hA (by decide) rfl (fun w1 H locs hI hP hD hS => ?_)
  obtain ⟨b2, rfl⟩ := hI
  replace hP : va_P D cl1 ([(b2, .inl (t 0, 64, .inl (fun _ => 0))), (r2, .inr (2, [.ref b2, .int 0])), (b1, .inl (t 0, 64, .inl (fun _ => 0))), (r1, .inr (2, [.ref b1, .int 0])), (se, .inl (t 2, 4, .inr (.inl (fun _ => 0)))), (l5, .inr (7, [.int 0, .ref d, .int 0])), (l4, .inr (7, [.int 0, .ref d, .int 0])), (l3, .inr (7, [.int 0, .ref d, .int 0])), (l2, .inr (7, [.int 0, .ref d, .int 0])), (l1, .inr (7, [.int 0, .ref d, .int 0])), (wt, .inl (t 4, 8, .inr (.inr (.inr (.inr (fun _ => none)))))), (da, .inl (t 6, 80, .inr (.inr (.inr (.inr fd))))), (dk, .inr (6, [.ref da, .int 0])), (la, .inl (t 6, 80, .inr (.inr (.inr (.inr fl))))), (lv, .inr (6, [.ref la, .int 0])), (ro, .inl (t 1, 4, .inl (fun _ => 0))), (ca, .inl (t 5, 6, .inr (.inr (.inr (.inr (fun _ => none)))))), (tb, .inl (t 0, 64, .inl (fun _ => 0))), (tp, .inr (2, [.ref tb, .int 0])), (h0, .inr (1, [.ref tp, .ref ca, .ref ro, .ref lv, .ref dk, .ref wt, .int 0, .long 0, .ref l1, .ref l2, .ref l3, .ref l4, .ref l5, .ref se, .ref r1, .null, .null, .null]))] ++ (Td ++ (Tl ++ ([] : va_W)))) H := hP
  replace hD : va_D A ([(b2, .inl (t 0, 64, .inl (fun _ => 0))), (r2, .inr (2, [.ref b2, .int 0])), (b1, .inl (t 0, 64, .inl (fun _ => 0))), (r1, .inr (2, [.ref b1, .int 0])), (se, .inl (t 2, 4, .inr (.inl (fun _ => 0)))), (l5, .inr (7, [.int 0, .ref d, .int 0])), (l4, .inr (7, [.int 0, .ref d, .int 0])), (l3, .inr (7, [.int 0, .ref d, .int 0])), (l2, .inr (7, [.int 0, .ref d, .int 0])), (l1, .inr (7, [.int 0, .ref d, .int 0])), (wt, .inl (t 4, 8, .inr (.inr (.inr (.inr (fun _ => none)))))), (da, .inl (t 6, 80, .inr (.inr (.inr (.inr fd))))), (dk, .inr (6, [.ref da, .int 0])), (la, .inl (t 6, 80, .inr (.inr (.inr (.inr fl))))), (lv, .inr (6, [.ref la, .int 0])), (ro, .inl (t 1, 4, .inl (fun _ => 0))), (ca, .inl (t 5, 6, .inr (.inr (.inr (.inr (fun _ => none)))))), (tb, .inl (t 0, 64, .inl (fun _ => 0))), (tp, .inr (2, [.ref tb, .int 0])), (h0, .inr (1, [.ref tp, .ref ca, .ref ro, .ref lv, .ref dk, .ref wt, .int 0, .long 0, .ref l1, .ref l2, .ref l3, .ref l4, .ref l5, .ref se, .ref r1, .null, .null, .null]))] ++ (Td ++ (Tl ++ ([] : va_W)))) := hD
  refine r_putF hF ci_X11 fl_X11_68 dX11_init_143 hP hD hS (q0 := 19) rfl hin rfl rfl rfl rfl (Nat.le_of_ble_eq_true rfl) (fun H locs hP hD hS => ?_)
  replace hP : va_P D cl1 ([(b2, .inl (t 0, 64, .inl (fun _ => 0))), (r2, .inr (2, [.ref b2, .int 0])), (b1, .inl (t 0, 64, .inl (fun _ => 0))), (r1, .inr (2, [.ref b1, .int 0])), (se, .inl (t 2, 4, .inr (.inl (fun _ => 0)))), (l5, .inr (7, [.int 0, .ref d, .int 0])), (l4, .inr (7, [.int 0, .ref d, .int 0])), (l3, .inr (7, [.int 0, .ref d, .int 0])), (l2, .inr (7, [.int 0, .ref d, .int 0])), (l1, .inr (7, [.int 0, .ref d, .int 0])), (wt, .inl (t 4, 8, .inr (.inr (.inr (.inr (fun _ => none)))))), (da, .inl (t 6, 80, .inr (.inr (.inr (.inr fd))))), (dk, .inr (6, [.ref da, .int 0])), (la, .inl (t 6, 80, .inr (.inr (.inr (.inr fl))))), (lv, .inr (6, [.ref la, .int 0])), (ro, .inl (t 1, 4, .inl (fun _ => 0))), (ca, .inl (t 5, 6, .inr (.inr (.inr (.inr (fun _ => none)))))), (tb, .inl (t 0, 64, .inl (fun _ => 0))), (tp, .inr (2, [.ref tb, .int 0])), (h0, .inr (1, [.ref tp, .ref ca, .ref ro, .ref lv, .ref dk, .ref wt, .int 0, .long 0, .ref l1, .ref l2, .ref l3, .ref l4, .ref l5, .ref se, .ref r1, .ref r2, .null, .null]))] ++ (Td ++ (Tl ++ ([] : va_W)))) H := hP
  replace hD : va_D A ([(b2, .inl (t 0, 64, .inl (fun _ => 0))), (r2, .inr (2, [.ref b2, .int 0])), (b1, .inl (t 0, 64, .inl (fun _ => 0))), (r1, .inr (2, [.ref b1, .int 0])), (se, .inl (t 2, 4, .inr (.inl (fun _ => 0)))), (l5, .inr (7, [.int 0, .ref d, .int 0])), (l4, .inr (7, [.int 0, .ref d, .int 0])), (l3, .inr (7, [.int 0, .ref d, .int 0])), (l2, .inr (7, [.int 0, .ref d, .int 0])), (l1, .inr (7, [.int 0, .ref d, .int 0])), (wt, .inl (t 4, 8, .inr (.inr (.inr (.inr (fun _ => none)))))), (da, .inl (t 6, 80, .inr (.inr (.inr (.inr fd))))), (dk, .inr (6, [.ref da, .int 0])), (la, .inl (t 6, 80, .inr (.inr (.inr (.inr fl))))), (lv, .inr (6, [.ref la, .int 0])), (ro, .inl (t 1, 4, .inl (fun _ => 0))), (ca, .inl (t 5, 6, .inr (.inr (.inr (.inr (fun _ => none)))))), (tb, .inl (t 0, 64, .inl (fun _ => 0))), (tp, .inr (2, [.ref tb, .int 0])), (h0, .inr (1, [.ref tp, .ref ca, .ref ro, .ref lv, .ref dk, .ref wt, .int 0, .long 0, .ref l1, .ref l2, .ref l3, .ref l4, .ref l5, .ref se, .ref r1, .ref r2, .null, .null]))] ++ (Td ++ (Tl ++ ([] : va_W)))) := hD
  refine lv_aload_n hx hb dX11_init_146 rfl (lv_at hl 0 rfl) ?_
  refine r_new (fs := [.null, .int 0]) hF ci_X6 dX11_init_147 (wb 37 rfl) (wb 17 rfl) (wb 16 rfl) hP hD hS hA def_X6 (by decide) (by decide) (fun r3 H hP hD hS => ?_)
  refine lv_dup hx hb dX11_init_150 rfl ?_
  refine r_cWN (wc := [(r3, .inr (2, [.null, .int 0]))]) (X := [(b2, .inl (t 0, 64, .inl (fun _ => 0))), (r2, .inr (2, [.ref b2, .int 0])), (b1, .inl (t 0, 64, .inl (fun _ => 0))), (r1, .inr (2, [.ref b1, .int 0])), (se, .inl (t 2, 4, .inr (.inl (fun _ => 0)))), (l5, .inr (7, [.int 0, .ref d, .int 0])), (l4, .inr (7, [.int 0, .ref d, .int 0])), (l3, .inr (7, [.int 0, .ref d, .int 0])), (l2, .inr (7, [.int 0, .ref d, .int 0])), (l1, .inr (7, [.int 0, .ref d, .int 0])), (wt, .inl (t 4, 8, .inr (.inr (.inr (.inr (fun _ => none)))))), (da, .inl (t 6, 80, .inr (.inr (.inr (.inr fd))))), (dk, .inr (6, [.ref da, .int 0])), (la, .inl (t 6, 80, .inr (.inr (.inr (.inr fl))))), (lv, .inr (6, [.ref la, .int 0])), (ro, .inl (t 1, 4, .inl (fun _ => 0))), (ca, .inl (t 5, 6, .inr (.inr (.inr (.inr (fun _ => none)))))), (tb, .inl (t 0, 64, .inl (fun _ => 0))), (tp, .inr (2, [.ref tb, .int 0])), (h0, .inr (1, [.ref tp, .ref ca, .ref ro, .ref lv, .ref dk, .ref wt, .int 0, .long 0, .ref l1, .ref l2, .ref l3, .ref l4, .ref l5, .ref se, .ref r1, .ref r2, .null, .null]))] ++ (Td ++ (Tl ++ ([] : va_W)))) (As := []) (rest := [.ref r3, .ref h0]) hF nR mn_X11_9 (c_X6_init l D t r3 _) (fun _ _ _ _ h => h) (fun _ _ _ => trivial) dX11_init_151 rfl rfl (by decide) rfl hl.1 (Nat.le_of_ble_eq_true rfl) hP hD hS hA (by decide) rfl (fun w1 H locs hI hP hD hS => ?_)
  obtain ⟨b3, rfl⟩ := hI
  replace hP : va_P D cl1 ([(b3, .inl (t 0, 64, .inl (fun _ => 0))), (r3, .inr (2, [.ref b3, .int 0])), (b2, .inl (t 0, 64, .inl (fun _ => 0))), (r2, .inr (2, [.ref b2, .int 0])), (b1, .inl (t 0, 64, .inl (fun _ => 0))), (r1, .inr (2, [.ref b1, .int 0])), (se, .inl (t 2, 4, .inr (.inl (fun _ => 0)))), (l5, .inr (7, [.int 0, .ref d, .int 0])), (l4, .inr (7, [.int 0, .ref d, .int 0])), (l3, .inr (7, [.int 0, .ref d, .int 0])), (l2, .inr (7, [.int 0, .ref d, .int 0])), (l1, .inr (7, [.int 0, .ref d, .int 0])), (wt, .inl (t 4, 8, .inr (.inr (.inr (.inr (fun _ => none)))))), (da, .inl (t 6, 80, .inr (.inr (.inr (.inr fd))))), (dk, .inr (6, [.ref da, .int 0])), (la, .inl (t 6, 80, .inr (.inr (.inr (.inr fl))))), (lv, .inr (6, [.ref la, .int 0])), (ro, .inl (t 1, 4, .inl (fun _ => 0))), (ca, .inl (t 5, 6, .inr (.inr (.inr (.inr (fun _ => none)))))), (tb, .inl (t 0, 64, .inl (fun _ => 0))), (tp, .inr (2, [.ref tb, .int 0])), (h0, .inr (1, [.ref tp, .ref ca, .ref ro, .ref lv, .ref dk, .ref wt, .int 0, .long 0, .ref l1, .ref l2, .ref l3, .ref l4, .ref l5, .ref se, .ref r1, .ref r2, .null, .null]))] ++ (Td ++ (Tl ++ ([] : va_W)))) H := hP
  replace hD : va_D A ([(b3, .inl (t 0, 64, .inl (fun _ => 0))), (r3, .inr (2, [.ref b3, .int 0])), (b2, .inl (t 0, 64, .inl (fun _ => 0))), (r2, .inr (2, [.ref b2, .int 0])), (b1, .inl (t 0, 64, .inl (fun _ => 0))), (r1, .inr (2, [.ref b1, .int 0])), (se, .inl (t 2, 4, .inr (.inl (fun _ => 0)))), (l5, .inr (7, [.int 0, .ref d, .int 0])), (l4, .inr (7, [.int 0, .ref d, .int 0])), (l3, .inr (7, [.int 0, .ref d, .int 0])), (l2, .inr (7, [.int 0, .ref d, .int 0])), (l1, .inr (7, [.int 0, .ref d, .int 0])), (wt, .inl (t 4, 8, .inr (.inr (.inr (.inr (fun _ => none)))))), (da, .inl (t 6, 80, .inr (.inr (.inr (.inr fd))))), (dk, .inr (6, [.ref da, .int 0])), (la, .inl (t 6, 80, .inr (.inr (.inr (.inr fl))))), (lv, .inr (6, [.ref la, .int 0])), (ro, .inl (t 1, 4, .inl (fun _ => 0))), (ca, .inl (t 5, 6, .inr (.inr (.inr (.inr (fun _ => none)))))), (tb, .inl (t 0, 64, .inl (fun _ => 0))), (tp, .inr (2, [.ref tb, .int 0])), (h0, .inr (1, [.ref tp, .ref ca, .ref ro, .ref lv, .ref dk, .ref wt, .int 0, .long 0, .ref l1, .ref l2, .ref l3, .ref l4, .ref l5, .ref se, .ref r1, .ref r2, .null, .null]))] ++ (Td ++ (Tl ++ ([] : va_W)))) := hD
  refine r_putF hF ci_X11 fl_X11_71 dX11_init_154 hP hD hS (q0 := 21) rfl hin rfl rfl rfl rfl (Nat.le_of_ble_eq_true rfl) (fun H locs hP hD hS => ?_)
  replace hP : va_P D cl1 ([(b3, .inl (t 0, 64, .inl (fun _ => 0))), (r3, .inr (2, [.ref b3, .int 0])), (b2, .inl (t 0, 64, .inl (fun _ => 0))), (r2, .inr (2, [.ref b2, .int 0])), (b1, .inl (t 0, 64, .inl (fun _ => 0))), (r1, .inr (2, [.ref b1, .int 0])), (se, .inl (t 2, 4, .inr (.inl (fun _ => 0)))), (l5, .inr (7, [.int 0, .ref d, .int 0])), (l4, .inr (7, [.int 0, .ref d, .int 0])), (l3, .inr (7, [.int 0, .ref d, .int 0])), (l2, .inr (7, [.int 0, .ref d, .int 0])), (l1, .inr (7, [.int 0, .ref d, .int 0])), (wt, .inl (t 4, 8, .inr (.inr (.inr (.inr (fun _ => none)))))), (da, .inl (t 6, 80, .inr (.inr (.inr (.inr fd))))), (dk, .inr (6, [.ref da, .int 0])), (la, .inl (t 6, 80, .inr (.inr (.inr (.inr fl))))), (lv, .inr (6, [.ref la, .int 0])), (ro, .inl (t 1, 4, .inl (fun _ => 0))), (ca, .inl (t 5, 6, .inr (.inr (.inr (.inr (fun _ => none)))))), (tb, .inl (t 0, 64, .inl (fun _ => 0))), (tp, .inr (2, [.ref tb, .int 0])), (h0, .inr (1, [.ref tp, .ref ca, .ref ro, .ref lv, .ref dk, .ref wt, .int 0, .long 0, .ref l1, .ref l2, .ref l3, .ref l4, .ref l5, .ref se, .ref r1, .ref r2, .ref r3, .null]))] ++ (Td ++ (Tl ++ ([] : va_W)))) H := hP
  replace hD : va_D A ([(b3, .inl (t 0, 64, .inl (fun _ => 0))), (r3, .inr (2, [.ref b3, .int 0])), (b2, .inl (t 0, 64, .inl (fun _ => 0))), (r2, .inr (2, [.ref b2, .int 0])), (b1, .inl (t 0, 64, .inl (fun _ => 0))), (r1, .inr (2, [.ref b1, .int 0])), (se, .inl (t 2, 4, .inr (.inl (fun _ => 0)))), (l5, .inr (7, [.int 0, .ref d, .int 0])), (l4, .inr (7, [.int 0, .ref d, .int 0])), (l3, .inr (7, [.int 0, .ref d, .int 0])), (l2, .inr (7, [.int 0, .ref d, .int 0])), (l1, .inr (7, [.int 0, .ref d, .int 0])), (wt, .inl (t 4, 8, .inr (.inr (.inr (.inr (fun _ => none)))))), (da, .inl (t 6, 80, .inr (.inr (.inr (.inr fd))))), (dk, .inr (6, [.ref da, .int 0])), (la, .inl (t 6, 80, .inr (.inr (.inr (.inr fl))))), (lv, .inr (6, [.ref la, .int 0])), (ro, .inl (t 1, 4, .inl (fun _ => 0))), (ca, .inl (t 5, 6, .inr (.inr (.inr (.inr (fun _ => none)))))), (tb, .inl (t 0, 64, .inl (fun _ => 0))), (tp, .inr (2, [.ref tb, .int 0])), (h0, .inr (1, [.ref tp, .ref ca, .ref ro, .ref lv, .ref dk, .ref wt, .int 0, .long 0, .ref l1, .ref l2, .ref l3, .ref l4, .ref l5, .ref se, .ref r1, .ref r2, .ref r3, .null]))] ++ (Td ++ (Tl ++ ([] : va_W)))) := hD
  refine lv_aload_n hx hb dX11_init_157 rfl (lv_at hl 0 rfl) ?_
  refine r_new (fs := [.null, .int 0]) hF ci_X6 dX11_init_158 (wb 37 rfl) (wb 17 rfl) (wb 16 rfl) hP hD hS hA def_X6 (by decide) (by decide) (fun r4 H hP hD hS => ?_)
  refine lv_dup hx hb dX11_init_161 rfl ?_
  refine r_cWN (wc := [(r4, .inr (2, [.null, .int 0]))]) (X := [(b3, .inl (t 0, 64, .inl (fun _ => 0))), (r3, .inr (2, [.ref b3, .int 0])), (b2, .inl (t 0, 64, .inl (fun _ => 0))), (r2, .inr (2, [.ref b2, .int 0])), (b1, .inl (t 0, 64, .inl (fun _ => 0))), (r1, .inr (2, [.ref b1, .int 0])), (se, .inl (t 2, 4, .inr (.inl (fun _ => 0)))), (l5, .inr (7, [.int 0, .ref d, .int 0])), (l4, .inr (7, [.int 0, .ref d, .int 0])), (l3, .inr (7, [.int 0, .ref d, .int 0])), (l2, .inr (7, [.int 0, .ref d, .int 0])), (l1, .inr (7, [.int 0, .ref d, .int 0])), (wt, .inl (t 4, 8, .inr (.inr (.inr (.inr (fun _ => none)))))), (da, .inl (t 6, 80, .inr (.inr (.inr (.inr fd))))), (dk, .inr (6, [.ref da, .int 0])), (la, .inl (t 6, 80, .inr (.inr (.inr (.inr fl))))), (lv, .inr (6, [.ref la, .int 0])), (ro, .inl (t 1, 4, .inl (fun _ => 0))), (ca, .inl (t 5, 6, .inr (.inr (.inr (.inr (fun _ => none)))))), (tb, .inl (t 0, 64, .inl (fun _ => 0))), (tp, .inr (2, [.ref tb, .int 0])), (h0, .inr (1, [.ref tp, .ref ca, .ref ro, .ref lv, .ref dk, .ref wt, .int 0, .long 0, .ref l1, .ref l2, .ref l3, .ref l4, .ref l5, .ref se, .ref r1, .ref r2, .ref r3, .null]))] ++ (Td ++ (Tl ++ ([] : va_W)))) (As := []) (rest := [.ref r4, .ref h0]) hF nR mn_X11_9 (c_X6_init l D t r4 _) (fun _ _ _ _ h => h) (fun _ _ _ => trivial) dX11_init_162 rfl rfl (by decide) rfl hl.1 (Nat.le_of_ble_eq_true rfl) hP hD hS hA (by decide) rfl (fun w1 H locs hI hP hD hS => ?_)
  obtain ⟨b4, rfl⟩ := hI
  replace hP : va_P D cl1 ([(b4, .inl (t 0, 64, .inl (fun _ => 0))), (r4, .inr (2, [.ref b4, .int 0])), (b3, .inl (t 0, 64, .inl (fun _ => 0))), (r3, .inr (2, [.ref b3, .int 0])), (b2, .inl (t 0, 64, .inl (fun _ => 0))), (r2, .inr (2, [.ref b2, .int 0])), (b1, .inl (t 0, 64, .inl (fun _ => 0))), (r1, .inr (2, [.ref b1, .int 0])), (se, .inl (t 2, 4, .inr (.inl (fun _ => 0)))), (l5, .inr (7, [.int 0, .ref d, .int 0])), (l4, .inr (7, [.int 0, .ref d, .int 0])), (l3, .inr (7, [.int 0, .ref d, .int 0])), (l2, .inr (7, [.int 0, .ref d, .int 0])), (l1, .inr (7, [.int 0, .ref d, .int 0])), (wt, .inl (t 4, 8, .inr (.inr (.inr (.inr (fun _ => none)))))), (da, .inl (t 6, 80, .inr (.inr (.inr (.inr fd))))), (dk, .inr (6, [.ref da, .int 0])), (la, .inl (t 6, 80, .inr (.inr (.inr (.inr fl))))), (lv, .inr (6, [.ref la, .int 0])), (ro, .inl (t 1, 4, .inl (fun _ => 0))), (ca, .inl (t 5, 6, .inr (.inr (.inr (.inr (fun _ => none)))))), (tb, .inl (t 0, 64, .inl (fun _ => 0))), (tp, .inr (2, [.ref tb, .int 0])), (h0, .inr (1, [.ref tp, .ref ca, .ref ro, .ref lv, .ref dk, .ref wt, .int 0, .long 0, .ref l1, .ref l2, .ref l3, .ref l4, .ref l5, .ref se, .ref r1, .ref r2, .ref r3, .null]))] ++ (Td ++ (Tl ++ ([] : va_W)))) H := hP
  replace hD : va_D A ([(b4, .inl (t 0, 64, .inl (fun _ => 0))), (r4, .inr (2, [.ref b4, .int 0])), (b3, .inl (t 0, 64, .inl (fun _ => 0))), (r3, .inr (2, [.ref b3, .int 0])), (b2, .inl (t 0, 64, .inl (fun _ => 0))), (r2, .inr (2, [.ref b2, .int 0])), (b1, .inl (t 0, 64, .inl (fun _ => 0))), (r1, .inr (2, [.ref b1, .int 0])), (se, .inl (t 2, 4, .inr (.inl (fun _ => 0)))), (l5, .inr (7, [.int 0, .ref d, .int 0])), (l4, .inr (7, [.int 0, .ref d, .int 0])), (l3, .inr (7, [.int 0, .ref d, .int 0])), (l2, .inr (7, [.int 0, .ref d, .int 0])), (l1, .inr (7, [.int 0, .ref d, .int 0])), (wt, .inl (t 4, 8, .inr (.inr (.inr (.inr (fun _ => none)))))), (da, .inl (t 6, 80, .inr (.inr (.inr (.inr fd))))), (dk, .inr (6, [.ref da, .int 0])), (la, .inl (t 6, 80, .inr (.inr (.inr (.inr fl))))), (lv, .inr (6, [.ref la, .int 0])), (ro, .inl (t 1, 4, .inl (fun _ => 0))), (ca, .inl (t 5, 6, .inr (.inr (.inr (.inr (fun _ => none)))))), (tb, .inl (t 0, 64, .inl (fun _ => 0))), (tp, .inr (2, [.ref tb, .int 0])), (h0, .inr (1, [.ref tp, .ref ca, .ref ro, .ref lv, .ref dk, .ref wt, .int 0, .long 0, .ref l1, .ref l2, .ref l3, .ref l4, .ref l5, .ref se, .ref r1, .ref r2, .ref r3, .null]))] ++ (Td ++ (Tl ++ ([] : va_W)))) := hD
  refine r_putF hF ci_X11 fl_X11_74 dX11_init_165 hP hD hS (q0 := 23) rfl hin rfl rfl rfl rfl (Nat.le_of_ble_eq_true rfl) (fun H locs hP hD hS => ?_)
  replace hP : va_P D cl1 ([(b4, .inl (t 0, 64, .inl (fun _ => 0))), (r4, .inr (2, [.ref b4, .int 0])), (b3, .inl (t 0, 64, .inl (fun _ => 0))), (r3, .inr (2, [.ref b3, .int 0])), (b2, .inl (t 0, 64, .inl (fun _ => 0))), (r2, .inr (2, [.ref b2, .int 0])), (b1, .inl (t 0, 64, .inl (fun _ => 0))), (r1, .inr (2, [.ref b1, .int 0])), (se, .inl (t 2, 4, .inr (.inl (fun _ => 0)))), (l5, .inr (7, [.int 0, .ref d, .int 0])), (l4, .inr (7, [.int 0, .ref d, .int 0])), (l3, .inr (7, [.int 0, .ref d, .int 0])), (l2, .inr (7, [.int 0, .ref d, .int 0])), (l1, .inr (7, [.int 0, .ref d, .int 0])), (wt, .inl (t 4, 8, .inr (.inr (.inr (.inr (fun _ => none)))))), (da, .inl (t 6, 80, .inr (.inr (.inr (.inr fd))))), (dk, .inr (6, [.ref da, .int 0])), (la, .inl (t 6, 80, .inr (.inr (.inr (.inr fl))))), (lv, .inr (6, [.ref la, .int 0])), (ro, .inl (t 1, 4, .inl (fun _ => 0))), (ca, .inl (t 5, 6, .inr (.inr (.inr (.inr (fun _ => none)))))), (tb, .inl (t 0, 64, .inl (fun _ => 0))), (tp, .inr (2, [.ref tb, .int 0])), (h0, .inr (1, [.ref tp, .ref ca, .ref ro, .ref lv, .ref dk, .ref wt, .int 0, .long 0, .ref l1, .ref l2, .ref l3, .ref l4, .ref l5, .ref se, .ref r1, .ref r2, .ref r3, .ref r4]))] ++ (Td ++ (Tl ++ ([] : va_W)))) H := hP
  replace hD : va_D A ([(b4, .inl (t 0, 64, .inl (fun _ => 0))), (r4, .inr (2, [.ref b4, .int 0])), (b3, .inl (t 0, 64, .inl (fun _ => 0))), (r3, .inr (2, [.ref b3, .int 0])), (b2, .inl (t 0, 64, .inl (fun _ => 0))), (r2, .inr (2, [.ref b2, .int 0])), (b1, .inl (t 0, 64, .inl (fun _ => 0))), (r1, .inr (2, [.ref b1, .int 0])), (se, .inl (t 2, 4, .inr (.inl (fun _ => 0)))), (l5, .inr (7, [.int 0, .ref d, .int 0])), (l4, .inr (7, [.int 0, .ref d, .int 0])), (l3, .inr (7, [.int 0, .ref d, .int 0])), (l2, .inr (7, [.int 0, .ref d, .int 0])), (l1, .inr (7, [.int 0, .ref d, .int 0])), (wt, .inl (t 4, 8, .inr (.inr (.inr (.inr (fun _ => none)))))), (da, .inl (t 6, 80, .inr (.inr (.inr (.inr fd))))), (dk, .inr (6, [.ref da, .int 0])), (la, .inl (t 6, 80, .inr (.inr (.inr (.inr fl))))), (lv, .inr (6, [.ref la, .int 0])), (ro, .inl (t 1, 4, .inl (fun _ => 0))), (ca, .inl (t 5, 6, .inr (.inr (.inr (.inr (fun _ => none)))))), (tb, .inl (t 0, 64, .inl (fun _ => 0))), (tp, .inr (2, [.ref tb, .int 0])), (h0, .inr (1, [.ref tp, .ref ca, .ref ro, .ref lv, .ref dk, .ref wt, .int 0, .long 0, .ref l1, .ref l2, .ref l3, .ref l4, .ref l5, .ref se, .ref r1, .ref r2, .ref r3, .ref r4]))] ++ (Td ++ (Tl ++ ([] : va_W)))) := hD
  refine lv_iconst (v := 0) hx hb dX11_init_168 (by decide) ?_
  refine lv_istore_n (lv' := [(1, .int 0), (0, .ref h0)]) hx hb dX11_init_169 rfl hl (by decide) rfl (fun ls hl => ?_)
  have hl : lv_has ls 2 [(1, .int 0), (0, .ref h0)] := lv_sub hl [0, 1] rfl
  refine W.widen (k := 503) (n := 4691) (by decide) (by decide) ?_
  generalize hTr : (Td ++ (Tl ++ ([] : va_W))) = Tr at hP hD
  refine r_loopW (L0 := fun i => [(1, .int (nI i)), (0, .ref h0)]) (J := fun i ws => ∃ (f : Nat → Option Nat) (T : va_W), ws = [(b4, .inl (t 0, 64, .inl (fun _ => 0))), (r4, .inr (2, [.ref b4, .int 0])), (b3, .inl (t 0, 64, .inl (fun _ => 0))), (r3, .inr (2, [.ref b3, .int 0])), (b2, .inl (t 0, 64, .inl (fun _ => 0))), (r2, .inr (2, [.ref b2, .int 0])), (b1, .inl (t 0, 64, .inl (fun _ => 0))), (r1, .inr (2, [.ref b1, .int 0])), (se, .inl (t 2, 4, .inr (.inl (fun _ => 0)))), (l5, .inr (7, [.int 0, .ref d, .int 0])), (l4, .inr (7, [.int 0, .ref d, .int 0])), (l3, .inr (7, [.int 0, .ref d, .int 0])), (l2, .inr (7, [.int 0, .ref d, .int 0])), (l1, .inr (7, [.int 0, .ref d, .int 0])), (wt, .inl (t 4, 8, .inr (.inr (.inr (.inr (fun _ => none)))))), (da, .inl (t 6, 80, .inr (.inr (.inr (.inr fd))))), (dk, .inr (6, [.ref da, .int 0])), (la, .inl (t 6, 80, .inr (.inr (.inr (.inr fl))))), (lv, .inr (6, [.ref la, .int 0])), (ro, .inl (t 1, 4, .inl (fun _ => 0))), (ca, .inl (t 5, 6, .inr (.inr (.inr (.inr f))))), (tb, .inl (t 0, 64, .inl (fun _ => 0))), (tp, .inr (2, [.ref tb, .int 0])), (h0, .inr (1, [.ref tp, .ref ca, .ref ro, .ref lv, .ref dk, .ref wt, .int 0, .long 0, .ref l1, .ref l2, .ref l3, .ref l4, .ref l5, .ref se, .ref r1, .ref r2, .ref r3, .ref r4]))] ++ (T ++ Tr) ∧ connsIn t T f i) (fun i => 503 + 6 * i) (fun i => 4691 + 163 * i) 6 hl ⟨_, [], rfl, connsIn_0⟩ hP hD hS (fun i hi ws ls H locs hJ hl hP hD hS ih => ?_) (fun ws ls H locs hJ hl hP hD hS => ?_)
  · obtain ⟨f, T, rfl, hT⟩ := hJ
    have hl : lv_has ls 2 [(1, .int (nI i)), (0, .ref h0)] := hl
    refine lv_iload_n hx hb dX11_init_170 rfl (lv_at hl 0 rfl) ?_
    refine lv_aload_n hx hb dX11_init_171 rfl (lv_at hl 1 rfl) ?_
    refine r_get hF ci_X11 fl_X11_18 dX11_init_172 hP (q0 := 23) rfl rfl ?_
    refine r_alen (v := 6) hF dX11_init_175 hP (q0 := 20) rfl (t0 := 5) rfl rfl ?_
    refine lv_icmp_ge (tgt := 198) hx hb dX11_init_176 rfl (fun h => absurd h (nI_ge hi (by decide))) (fun _ => ?_)
    refine lv_aload_n hx hb dX11_init_179 rfl (lv_at hl 1 rfl) ?_
    refine r_get hF ci_X11 fl_X11_18 dX11_init_180 hP (q0 := 23) rfl rfl ?_
    refine lv_iload_n hx hb dX11_init_183 rfl (lv_at hl 0 rfl) ?_
    refine r_new (fs := [.int 0, .int 0, .null, .long 0, .null, .null, .int 0, .long 0, .int 0, .int 0, .long 0, .long 0, .int 0, .long 0, .long 0]) hF ci_X2 dX11_init_184 (wb 38 rfl) (wb 54 rfl) (wb 53 rfl) hP hD hS hA def_X2 (show 503 + 6 * i + 1 ≤ 563 by omega) (show 4691 + 163 * i + 15 ≤ 5885 by omega) (fun q H hP hD hS => ?_)
    refine lv_dup hx hb dX11_init_187 rfl ?_
    refine r_cWN (wc := [(q, .inr (3, [.int 0, .int 0, .null, .long 0, .null, .null, .int 0, .long 0, .int 0, .int 0, .long 0, .long 0, .int 0, .long 0, .long 0]))]) (X := [(b4, .inl (t 0, 64, .inl (fun _ => 0))), (r4, .inr (2, [.ref b4, .int 0])), (b3, .inl (t 0, 64, .inl (fun _ => 0))), (r3, .inr (2, [.ref b3, .int 0])), (b2, .inl (t 0, 64, .inl (fun _ => 0))), (r2, .inr (2, [.ref b2, .int 0])), (b1, .inl (t 0, 64, .inl (fun _ => 0))), (r1, .inr (2, [.ref b1, .int 0])), (se, .inl (t 2, 4, .inr (.inl (fun _ => 0)))), (l5, .inr (7, [.int 0, .ref d, .int 0])), (l4, .inr (7, [.int 0, .ref d, .int 0])), (l3, .inr (7, [.int 0, .ref d, .int 0])), (l2, .inr (7, [.int 0, .ref d, .int 0])), (l1, .inr (7, [.int 0, .ref d, .int 0])), (wt, .inl (t 4, 8, .inr (.inr (.inr (.inr (fun _ => none)))))), (da, .inl (t 6, 80, .inr (.inr (.inr (.inr fd))))), (dk, .inr (6, [.ref da, .int 0])), (la, .inl (t 6, 80, .inr (.inr (.inr (.inr fl))))), (lv, .inr (6, [.ref la, .int 0])), (ro, .inl (t 1, 4, .inl (fun _ => 0))), (ca, .inl (t 5, 6, .inr (.inr (.inr (.inr f))))), (tb, .inl (t 0, 64, .inl (fun _ => 0))), (tp, .inr (2, [.ref tb, .int 0])), (h0, .inr (1, [.ref tp, .ref ca, .ref ro, .ref lv, .ref dk, .ref wt, .int 0, .long 0, .ref l1, .ref l2, .ref l3, .ref l4, .ref l5, .ref se, .ref r1, .ref r2, .ref r3, .ref r4]))] ++ (T ++ Tr)) (As := []) (rest := [.ref q, .int (nI i), .ref ca]) hF nC mn_X11_77 (c_X2_init l D t q _) (fun _ _ _ _ h => nw_call rfl h) (fun _ _ hW => va_Nw.warmM hW nK) dX11_init_188 rfl rfl (by decide) rfl hl.1 (Nat.le_of_ble_eq_true rfl) hP hD hS hA ⟨show 503 + 6 * i + 1 + 5 ≤ 563 by omega, show 4691 + 163 * i + 15 + 148 ≤ 5885 by omega⟩ rfl (fun w1 H locs hI hP hD hS => ?_)
    obtain ⟨kc, kcb, ks, ksb, kf, rfl⟩ := hI
    have hP := P_perm (perm_mv0 _ _ _) hP
    have hD := D_perm (perm_mv0 _ _ _) hD
    refine r_astq (t0 := 5) (q0 := 20) (qk := 29) hF ci_X2 dX11_init_191 hP hD hS rfl rfl rfl (vp_in_nI hi (by decide)) (fun H locs hP hD hS => ?_)
    refine lv_iinc (lv' := [(1, .int (nI (i + 1))), (0, .ref h0)]) (k := 0) (v := (nI (i + 1))) hx hb dX11_init_192 hl rfl (nI_1 i) (by decide) rfl (fun ls hl => ?_)
    refine lv_goto (tgt := 170) hx hb dX11_init_195 rfl ?_
    refine W.widen (k := 503 + 6 * (i + 1)) (n := 4691 + 163 * (i + 1)) (by omega) (by omega) ?_
    refine ih _ ls H locs ⟨va_up f i (some q), [(kf, .inl (t 2, 16, .inr (.inl (fun _ => 0)))), (ksb, .inl (t 0, 64, .inl (fun _ => 0))), (ks, eRow ksb), (kcb, .inl (t 0, 64, .inl (fun _ => 0))), (kc, eRow kcb), (q, eConn kc ks kf)] ++ T, ?_, connsIn_s hT⟩ hl hP hD hS
    rw [nI_clamp (by omega)]
    rfl
  · obtain ⟨fc, Tc, rfl, hTc⟩ := hJ
    have hl : lv_has ls 2 [(1, .int (nI 6)), (0, .ref h0)] := hl
    replace hP : va_P D cl1 ([(b4, .inl (t 0, 64, .inl (fun _ => 0))), (r4, .inr (2, [.ref b4, .int 0])), (b3, .inl (t 0, 64, .inl (fun _ => 0))), (r3, .inr (2, [.ref b3, .int 0])), (b2, .inl (t 0, 64, .inl (fun _ => 0))), (r2, .inr (2, [.ref b2, .int 0])), (b1, .inl (t 0, 64, .inl (fun _ => 0))), (r1, .inr (2, [.ref b1, .int 0])), (se, .inl (t 2, 4, .inr (.inl (fun _ => 0)))), (l5, .inr (7, [.int 0, .ref d, .int 0])), (l4, .inr (7, [.int 0, .ref d, .int 0])), (l3, .inr (7, [.int 0, .ref d, .int 0])), (l2, .inr (7, [.int 0, .ref d, .int 0])), (l1, .inr (7, [.int 0, .ref d, .int 0])), (wt, .inl (t 4, 8, .inr (.inr (.inr (.inr (fun _ => none)))))), (da, .inl (t 6, 80, .inr (.inr (.inr (.inr fd))))), (dk, .inr (6, [.ref da, .int 0])), (la, .inl (t 6, 80, .inr (.inr (.inr (.inr fl))))), (lv, .inr (6, [.ref la, .int 0])), (ro, .inl (t 1, 4, .inl (fun _ => 0))), (ca, .inl (t 5, 6, .inr (.inr (.inr (.inr fc))))), (tb, .inl (t 0, 64, .inl (fun _ => 0))), (tp, .inr (2, [.ref tb, .int 0])), (h0, .inr (1, [.ref tp, .ref ca, .ref ro, .ref lv, .ref dk, .ref wt, .int 0, .long 0, .ref l1, .ref l2, .ref l3, .ref l4, .ref l5, .ref se, .ref r1, .ref r2, .ref r3, .ref r4]))] ++ (Tc ++ Tr)) H := hP
    replace hD : va_D A ([(b4, .inl (t 0, 64, .inl (fun _ => 0))), (r4, .inr (2, [.ref b4, .int 0])), (b3, .inl (t 0, 64, .inl (fun _ => 0))), (r3, .inr (2, [.ref b3, .int 0])), (b2, .inl (t 0, 64, .inl (fun _ => 0))), (r2, .inr (2, [.ref b2, .int 0])), (b1, .inl (t 0, 64, .inl (fun _ => 0))), (r1, .inr (2, [.ref b1, .int 0])), (se, .inl (t 2, 4, .inr (.inl (fun _ => 0)))), (l5, .inr (7, [.int 0, .ref d, .int 0])), (l4, .inr (7, [.int 0, .ref d, .int 0])), (l3, .inr (7, [.int 0, .ref d, .int 0])), (l2, .inr (7, [.int 0, .ref d, .int 0])), (l1, .inr (7, [.int 0, .ref d, .int 0])), (wt, .inl (t 4, 8, .inr (.inr (.inr (.inr (fun _ => none)))))), (da, .inl (t 6, 80, .inr (.inr (.inr (.inr fd))))), (dk, .inr (6, [.ref da, .int 0])), (la, .inl (t 6, 80, .inr (.inr (.inr (.inr fl))))), (lv, .inr (6, [.ref la, .int 0])), (ro, .inl (t 1, 4, .inl (fun _ => 0))), (ca, .inl (t 5, 6, .inr (.inr (.inr (.inr fc))))), (tb, .inl (t 0, 64, .inl (fun _ => 0))), (tp, .inr (2, [.ref tb, .int 0])), (h0, .inr (1, [.ref tp, .ref ca, .ref ro, .ref lv, .ref dk, .ref wt, .int 0, .long 0, .ref l1, .ref l2, .ref l3, .ref l4, .ref l5, .ref se, .ref r1, .ref r2, .ref r3, .ref r4]))] ++ (Tc ++ Tr)) := hD
    refine lv_iload_n hx hb dX11_init_170 rfl (lv_at hl 0 rfl) ?_
    refine lv_aload_n hx hb dX11_init_171 rfl (lv_at hl 1 rfl) ?_
    refine r_get hF ci_X11 fl_X11_18 dX11_init_172 hP (q0 := 23) rfl rfl ?_
    refine r_alen (v := 6) hF dX11_init_175 hP (q0 := 20) rfl (t0 := 5) rfl rfl ?_
    refine lv_icmp_ge (tgt := 198) hx hb dX11_init_176 rfl (fun _ => ?_) (fun h => absurd (nI_le (Nat.le_refl 6) (by decide)) h)
    refine lv_iconst (v := 0) hx hb dX11_init_198 (by decide) ?_
    refine lv_istore_n (lv' := [(1, .int 0), (0, .ref h0)]) hx hb dX11_init_199 rfl hl (by decide) rfl (fun ls hl => ?_)
    have hl : lv_has ls 2 [(1, .int 0), (0, .ref h0)] := lv_sub hl [0, 1] rfl
    refine W.widen (k := 539) (n := 5669) (by decide) (by decide) ?_
    generalize hTr2 : Tc ++ Tr = Tr2 at hP hD
    refine r_loopW (L0 := fun i => [(1, .int (nI i)), (0, .ref h0)]) (J := fun i ws => ∃ (f : Nat → Option Nat) (T : va_W), ws = [(b4, .inl (t 0, 64, .inl (fun _ => 0))), (r4, .inr (2, [.ref b4, .int 0])), (b3, .inl (t 0, 64, .inl (fun _ => 0))), (r3, .inr (2, [.ref b3, .int 0])), (b2, .inl (t 0, 64, .inl (fun _ => 0))), (r2, .inr (2, [.ref b2, .int 0])), (b1, .inl (t 0, 64, .inl (fun _ => 0))), (r1, .inr (2, [.ref b1, .int 0])), (se, .inl (t 2, 4, .inr (.inl (fun _ => 0)))), (l5, .inr (7, [.int 0, .ref d, .int 0])), (l4, .inr (7, [.int 0, .ref d, .int 0])), (l3, .inr (7, [.int 0, .ref d, .int 0])), (l2, .inr (7, [.int 0, .ref d, .int 0])), (l1, .inr (7, [.int 0, .ref d, .int 0])), (wt, .inl (t 4, 8, .inr (.inr (.inr (.inr f))))), (da, .inl (t 6, 80, .inr (.inr (.inr (.inr fd))))), (dk, .inr (6, [.ref da, .int 0])), (la, .inl (t 6, 80, .inr (.inr (.inr (.inr fl))))), (lv, .inr (6, [.ref la, .int 0])), (ro, .inl (t 1, 4, .inl (fun _ => 0))), (ca, .inl (t 5, 6, .inr (.inr (.inr (.inr fc))))), (tb, .inl (t 0, 64, .inl (fun _ => 0))), (tp, .inr (2, [.ref tb, .int 0])), (h0, .inr (1, [.ref tp, .ref ca, .ref ro, .ref lv, .ref dk, .ref wt, .int 0, .long 0, .ref l1, .ref l2, .ref l3, .ref l4, .ref l5, .ref se, .ref r1, .ref r2, .ref r3, .ref r4]))] ++ (T ++ Tr2) ∧ True) (fun i => 539 + 3 * i) (fun i => 5669 + 27 * i) 8 hl ⟨_, [], rfl, trivial⟩ hP hD hS (fun i hi ws ls H locs hJ hl hP hD hS ih => ?_) (fun ws ls H locs hJ hl hP hD hS => ?_)
    · obtain ⟨f, T, rfl, hT⟩ := hJ
      have hl : lv_has ls 2 [(1, .int (nI i)), (0, .ref h0)] := hl
      refine lv_iload_n hx hb dX11_init_200 rfl (lv_at hl 0 rfl) ?_
      refine lv_aload_n hx hb dX11_init_201 rfl (lv_at hl 1 rfl) ?_
      refine r_get hF ci_X11 fl_X11_38 dX11_init_202 hP (q0 := 23) rfl rfl ?_
      refine r_alen (v := 8) hF dX11_init_205 hP (q0 := 14) rfl (t0 := 4) rfl rfl ?_
      refine lv_icmp_ge (tgt := 228) hx hb dX11_init_206 rfl (fun h => absurd h (nI_ge hi (by decide))) (fun _ => ?_)
      refine lv_aload_n hx hb dX11_init_209 rfl (lv_at hl 1 rfl) ?_
      refine r_get hF ci_X11 fl_X11_38 dX11_init_210 hP (q0 := 23) rfl rfl ?_
      refine lv_iload_n hx hb dX11_init_213 rfl (lv_at hl 0 rfl) ?_
      refine r_new (fs := [.int 0, .int 0, .int 0, .int 0, .null, .int 0, .int 0, .long 0, .long 0, .long 0, .long 0, .int 0, .int 0, .int 0, .null]) hF ci_X1 dX11_init_214 (wb 46 rfl) (wb 158 rfl) (wb 57 rfl) hP hD hS hA def_X1 (show 539 + 3 * i + 1 ≤ 563 by omega) (show 5669 + 27 * i + 15 ≤ 5885 by omega) (fun q H hP hD hS => ?_)
      refine lv_dup hx hb dX11_init_217 rfl ?_
      refine r_cWN (wc := [(q, .inr (4, [.int 0, .int 0, .int 0, .int 0, .null, .int 0, .int 0, .long 0, .long 0, .long 0, .long 0, .int 0, .int 0, .int 0, .null]))]) (X := [(b4, .inl (t 0, 64, .inl (fun _ => 0))), (r4, .inr (2, [.ref b4, .int 0])), (b3, .inl (t 0, 64, .inl (fun _ => 0))), (r3, .inr (2, [.ref b3, .int 0])), (b2, .inl (t 0, 64, .inl (fun _ => 0))), (r2, .inr (2, [.ref b2, .int 0])), (b1, .inl (t 0, 64, .inl (fun _ => 0))), (r1, .inr (2, [.ref b1, .int 0])), (se, .inl (t 2, 4, .inr (.inl (fun _ => 0)))), (l5, .inr (7, [.int 0, .ref d, .int 0])), (l4, .inr (7, [.int 0, .ref d, .int 0])), (l3, .inr (7, [.int 0, .ref d, .int 0])), (l2, .inr (7, [.int 0, .ref d, .int 0])), (l1, .inr (7, [.int 0, .ref d, .int 0])), (wt, .inl (t 4, 8, .inr (.inr (.inr (.inr f))))), (da, .inl (t 6, 80, .inr (.inr (.inr (.inr fd))))), (dk, .inr (6, [.ref da, .int 0])), (la, .inl (t 6, 80, .inr (.inr (.inr (.inr fl))))), (lv, .inr (6, [.ref la, .int 0])), (ro, .inl (t 1, 4, .inl (fun _ => 0))), (ca, .inl (t 5, 6, .inr (.inr (.inr (.inr fc))))), (tb, .inl (t 0, 64, .inl (fun _ => 0))), (tp, .inr (2, [.ref tb, .int 0])), (h0, .inr (1, [.ref tp, .ref ca, .ref ro, .ref lv, .ref dk, .ref wt, .int 0, .long 0, .ref l1, .ref l2, .ref l3, .ref l4, .ref l5, .ref se, .ref r1, .ref r2, .ref r3, .ref r4]))] ++ (T ++ Tr2)) (As := []) (rest := [.ref q, .int (nI i), .ref wt]) hF nH mn_X11_78 (c_X1_init l D t q _) (fun _ _ _ _ h => h) (fun _ _ _ => trivial) dX11_init_218 rfl rfl (by decide) rfl hl.1 (Nat.le_of_ble_eq_true rfl) hP hD hS hA ⟨show 539 + 3 * i + 1 + 2 ≤ 563 by omega, show 5669 + 27 * i + 15 + 12 ≤ 5885 by omega⟩ rfl (fun w1 H locs hI hP hD hS => ?_)
      obtain ⟨nm, bt, rfl⟩ := hI
      have hP := P_perm (perm_mv0 _ _ _) hP
      have hD := D_perm (perm_mv0 _ _ _) hD
      refine r_astq (t0 := 4) (q0 := 14) (qk := 26) hF ci_X1 dX11_init_221 hP hD hS rfl rfl rfl (vp_in_nI hi (by decide)) (fun H locs hP hD hS => ?_)
      refine lv_iinc (lv' := [(1, .int (nI (i + 1))), (0, .ref h0)]) (k := 0) (v := (nI (i + 1))) hx hb dX11_init_222 hl rfl (nI_1 i) (by decide) rfl (fun ls hl => ?_)
      refine lv_goto (tgt := 200) hx hb dX11_init_225 rfl ?_
      refine W.widen (k := 539 + 3 * (i + 1)) (n := 5669 + 27 * (i + 1)) (by omega) (by omega) ?_
      refine ih _ ls H locs ⟨va_up f i (some q), [(bt, .inl (t 0, 0, .inl (fun _ => 0))), (nm, .inl (t 0, 12, .inl (fun _ => 0))), (q, .inr (4, [.int 0, .int 0, .int 0, .int 0, .ref nm, .int 0, .int 0, .long 0, .long 0, .long 0, .long 0, .int 0, .int 0, .int 0, .ref bt]))] ++ T, ?_, trivial⟩ hl hP hD hS
      rw [nI_clamp (by omega)]
      rfl
    · obtain ⟨fw, Tw, rfl, -⟩ := hJ
      have hl : lv_has ls 2 [(1, .int (nI 8)), (0, .ref h0)] := hl
      replace hP : va_P D cl1 ([(b4, .inl (t 0, 64, .inl (fun _ => 0))), (r4, .inr (2, [.ref b4, .int 0])), (b3, .inl (t 0, 64, .inl (fun _ => 0))), (r3, .inr (2, [.ref b3, .int 0])), (b2, .inl (t 0, 64, .inl (fun _ => 0))), (r2, .inr (2, [.ref b2, .int 0])), (b1, .inl (t 0, 64, .inl (fun _ => 0))), (r1, .inr (2, [.ref b1, .int 0])), (se, .inl (t 2, 4, .inr (.inl (fun _ => 0)))), (l5, .inr (7, [.int 0, .ref d, .int 0])), (l4, .inr (7, [.int 0, .ref d, .int 0])), (l3, .inr (7, [.int 0, .ref d, .int 0])), (l2, .inr (7, [.int 0, .ref d, .int 0])), (l1, .inr (7, [.int 0, .ref d, .int 0])), (wt, .inl (t 4, 8, .inr (.inr (.inr (.inr fw))))), (da, .inl (t 6, 80, .inr (.inr (.inr (.inr fd))))), (dk, .inr (6, [.ref da, .int 0])), (la, .inl (t 6, 80, .inr (.inr (.inr (.inr fl))))), (lv, .inr (6, [.ref la, .int 0])), (ro, .inl (t 1, 4, .inl (fun _ => 0))), (ca, .inl (t 5, 6, .inr (.inr (.inr (.inr fc))))), (tb, .inl (t 0, 64, .inl (fun _ => 0))), (tp, .inr (2, [.ref tb, .int 0])), (h0, .inr (1, [.ref tp, .ref ca, .ref ro, .ref lv, .ref dk, .ref wt, .int 0, .long 0, .ref l1, .ref l2, .ref l3, .ref l4, .ref l5, .ref se, .ref r1, .ref r2, .ref r3, .ref r4]))] ++ (Tw ++ Tr2)) H := hP
      replace hD : va_D A ([(b4, .inl (t 0, 64, .inl (fun _ => 0))), (r4, .inr (2, [.ref b4, .int 0])), (b3, .inl (t 0, 64, .inl (fun _ => 0))), (r3, .inr (2, [.ref b3, .int 0])), (b2, .inl (t 0, 64, .inl (fun _ => 0))), (r2, .inr (2, [.ref b2, .int 0])), (b1, .inl (t 0, 64, .inl (fun _ => 0))), (r1, .inr (2, [.ref b1, .int 0])), (se, .inl (t 2, 4, .inr (.inl (fun _ => 0)))), (l5, .inr (7, [.int 0, .ref d, .int 0])), (l4, .inr (7, [.int 0, .ref d, .int 0])), (l3, .inr (7, [.int 0, .ref d, .int 0])), (l2, .inr (7, [.int 0, .ref d, .int 0])), (l1, .inr (7, [.int 0, .ref d, .int 0])), (wt, .inl (t 4, 8, .inr (.inr (.inr (.inr fw))))), (da, .inl (t 6, 80, .inr (.inr (.inr (.inr fd))))), (dk, .inr (6, [.ref da, .int 0])), (la, .inl (t 6, 80, .inr (.inr (.inr (.inr fl))))), (lv, .inr (6, [.ref la, .int 0])), (ro, .inl (t 1, 4, .inl (fun _ => 0))), (ca, .inl (t 5, 6, .inr (.inr (.inr (.inr fc))))), (tb, .inl (t 0, 64, .inl (fun _ => 0))), (tp, .inr (2, [.ref tb, .int 0])), (h0, .inr (1, [.ref tp, .ref ca, .ref ro, .ref lv, .ref dk, .ref wt, .int 0, .long 0, .ref l1, .ref l2, .ref l3, .ref l4, .ref l5, .ref se, .ref r1, .ref r2, .ref r3, .ref r4]))] ++ (Tw ++ Tr2)) := hD
      refine lv_iload_n hx hb dX11_init_200 rfl (lv_at hl 0 rfl) ?_
      refine lv_aload_n hx hb dX11_init_201 rfl (lv_at hl 1 rfl) ?_
      refine r_get hF ci_X11 fl_X11_38 dX11_init_202 hP (q0 := 23) rfl rfl ?_
      refine r_alen (v := 8) hF dX11_init_205 hP (q0 := 14) rfl (t0 := 4) rfl rfl ?_
      refine lv_icmp_ge (tgt := 228) hx hb dX11_init_206 rfl (fun _ => ?_) (fun h => absurd (nI_le (Nat.le_refl 8) (by decide)) h)
      refine lv_aload_n hx hb dX11_init_228 rfl (lv_at hl 1 rfl) ?_
      refine r_get hF ci_X11 fl_X11_22 dX11_init_229 hP (q0 := 23) rfl rfl ?_
      refine lv_iconst (v := (-1)) hx hb dX11_init_232 (by decide) ?_
      refine r_cWS (As := [.ref ro, .int (-1)]) (rest := []) hF ms_X11_79 (c_J7_fill_I l D t _ 19 ro 4 (fun _ => 0) (-1) rfl (by decide) _) dX11_init_233 rfl rfl (by decide) rfl hl.1 (Nat.le_of_ble_eq_true rfl) hP hD hS hA (by decide) rfl (fun w1 H locs hI hP hD hS => ?_)
      obtain ⟨fr, hfr, rfl⟩ := hI
      replace hP : va_P D cl1 ([(b4, .inl (t 0, 64, .inl (fun _ => 0))), (r4, .inr (2, [.ref b4, .int 0])), (b3, .inl (t 0, 64, .inl (fun _ => 0))), (r3, .inr (2, [.ref b3, .int 0])), (b2, .inl (t 0, 64, .inl (fun _ => 0))), (r2, .inr (2, [.ref b2, .int 0])), (b1, .inl (t 0, 64, .inl (fun _ => 0))), (r1, .inr (2, [.ref b1, .int 0])), (se, .inl (t 2, 4, .inr (.inl (fun _ => 0)))), (l5, .inr (7, [.int 0, .ref d, .int 0])), (l4, .inr (7, [.int 0, .ref d, .int 0])), (l3, .inr (7, [.int 0, .ref d, .int 0])), (l2, .inr (7, [.int 0, .ref d, .int 0])), (l1, .inr (7, [.int 0, .ref d, .int 0])), (wt, .inl (t 4, 8, .inr (.inr (.inr (.inr fw))))), (da, .inl (t 6, 80, .inr (.inr (.inr (.inr fd))))), (dk, .inr (6, [.ref da, .int 0])), (la, .inl (t 6, 80, .inr (.inr (.inr (.inr fl))))), (lv, .inr (6, [.ref la, .int 0])), (ro, .inl (t 1, 4, .inl fr)), (ca, .inl (t 5, 6, .inr (.inr (.inr (.inr fc))))), (tb, .inl (t 0, 64, .inl (fun _ => 0))), (tp, .inr (2, [.ref tb, .int 0])), (h0, .inr (1, [.ref tp, .ref ca, .ref ro, .ref lv, .ref dk, .ref wt, .int 0, .long 0, .ref l1, .ref l2, .ref l3, .ref l4, .ref l5, .ref se, .ref r1, .ref r2, .ref r3, .ref r4]))] ++ (Tw ++ Tr2)) H := hP
      replace hD : va_D A ([(b4, .inl (t 0, 64, .inl (fun _ => 0))), (r4, .inr (2, [.ref b4, .int 0])), (b3, .inl (t 0, 64, .inl (fun _ => 0))), (r3, .inr (2, [.ref b3, .int 0])), (b2, .inl (t 0, 64, .inl (fun _ => 0))), (r2, .inr (2, [.ref b2, .int 0])), (b1, .inl (t 0, 64, .inl (fun _ => 0))), (r1, .inr (2, [.ref b1, .int 0])), (se, .inl (t 2, 4, .inr (.inl (fun _ => 0)))), (l5, .inr (7, [.int 0, .ref d, .int 0])), (l4, .inr (7, [.int 0, .ref d, .int 0])), (l3, .inr (7, [.int 0, .ref d, .int 0])), (l2, .inr (7, [.int 0, .ref d, .int 0])), (l1, .inr (7, [.int 0, .ref d, .int 0])), (wt, .inl (t 4, 8, .inr (.inr (.inr (.inr fw))))), (da, .inl (t 6, 80, .inr (.inr (.inr (.inr fd))))), (dk, .inr (6, [.ref da, .int 0])), (la, .inl (t 6, 80, .inr (.inr (.inr (.inr fl))))), (lv, .inr (6, [.ref la, .int 0])), (ro, .inl (t 1, 4, .inl fr)), (ca, .inl (t 5, 6, .inr (.inr (.inr (.inr fc))))), (tb, .inl (t 0, 64, .inl (fun _ => 0))), (tp, .inr (2, [.ref tb, .int 0])), (h0, .inr (1, [.ref tp, .ref ca, .ref ro, .ref lv, .ref dk, .ref wt, .int 0, .long 0, .ref l1, .ref l2, .ref l3, .ref l4, .ref l5, .ref se, .ref r1, .ref r2, .ref r3, .ref r4]))] ++ (Tw ++ Tr2)) := hD
      refine W.widen (k := 563) (n := 5885) (by decide) (by decide) ?_
      subst hTr2
      subst hTr
      refine r_retW hF hr hlk dX11_init_236 hP hD hS ⟨fun j => [tp, tb, ca, ro, lv, la, dk, da, wt, l1, l2, l3, l4, l5, se, r1, b1, r2, b2, r3, b3, r4, b4].getD j 0, fc, fl, fd, fw, fr, _, rfl, ?_, ?_, ?_, hfr⟩
      · exact connsIn_mono hTc (fun q h => List.mem_append_right _ (List.mem_append_left _ h))
      · exact nodesIn_mono hTl (fun q h => List.mem_append_right _ (List.mem_append_right _ (List.mem_append_right _ (List.mem_append_left _ h))))
      · exact nodesIn_mono hTd (fun q h => List.mem_append_right _ (List.mem_append_right _ (List.mem_append_left _ h)))
end
section
/-! calls that give a reference and keep the world; copies that change nothing; a void call of which nothing is kept -/
abbrev KQ (l : Launch) (D : va_G) (t : Nat → ClassId) (y : MethodName) (bytes : ByteArray) (maxL : Nat) (ret : Option FieldType) (rm : Room) (ws : va_W) (sz : Nat) (av : List Value) (v : Option Nat) : Prop := Met l y (Cond.code y bytes maxL ret :: big) rm (PC D t ws sz av) (va_Qq (fun r (_ : Unit) => r = v) (fun _ u => va_P D cl1 ws u.heap) (va_A ws sz)) 0 0 (va_A ws sz)
abbrev AV (l : Launch) (D : va_G) (t : Nat → ClassId) (y : MethodName) (bytes : ByteArray) (maxL : Nat) (rm : Room) (ws : va_W) (sz : Nat) (av : List Value) : Prop := Met l y (Cond.code y bytes maxL none :: big) rm (PC D t ws sz av) (va_Qv (fun (_ : Unit) => True) (fun _ _ => True) (va_A ws sz)) 0 0 (va_A ws sz)
section H22
variable {p : Program} {l : Launch} {e : Env} {R : Room} {s : State} {m : MethodId} {args : Array Value} {below : List Frame} {meth : Method} {c : Code} {H : Heap} {locs : List Loc} {cells slots : Nat} {Q : State → Prop} {cc : ByteArray} {pc : Nat} {ls : Array Slot} {rest : List Value} {D : va_G} {t : Nat → ClassId} {A : Nat → Prop} {H0 : Heap} {ws : va_W} {own : String} {nL : Nat}
variable {C : String} {y : MethodName} {bytes : ByteArray} {maxL n index : Nat} {ret : Option FieldType} {rm : Room} {As st0 : List Value} {b q0 ci N : Nat} {fs : List Value} {T : u_T} {ty : Nat → FieldType}
theorem r_cKQ {v : Option Nat} (hF : FX p m c cc nL s args own D t) (hm : MV own index C y bytes maxL ret n) (hC : CI ci C T N ty) (hM : ∀ sz, KQ l D t y bytes maxL ret rm ws sz (.ref b :: As) v) (hdg : decode cc pc = .ok (.invokevirtual index, 3)) (hrc : rm.cells = 0) (hrs : rm.slots = 0) (hR : rm.frames + 1 ≤ R.frames ∧ 8 + (maxL + 11) + rm.locals ≤ R.locals) (hn : As.length = n) (hls : ls.size = nL) (hW : (rest.map fun v => v.category).sum ≤ 8) (hP : va_P D cl1 ws H) (hD : va_D A ws) (hS : va_S A H0 H locs) (hA : ∀ q, H0.size ≤ q → A q) (he : ws[q0]? = some (b, .inr (ci, fs))) (hf : cells ≤ R.cells ∧ slots ≤ R.slots) (hst : st0 = As.reverse ++ .ref b :: rest)
    (kk : ∀ (H1 : Heap) (locs1 : List Loc), va_P D cl1 ws H1 → va_S A H0 H1 locs1 → W p l e R s m args below meth c H1 locs1 cells slots Q (F0 m (pc + 3) ls (va_rf v :: rest))) : W p l e R s m args below meth c H locs cells slots Q (F0 m pc ls st0) := by
  refine va_callq (r_runV hF hm hC (hM H.size) hdg hrc hrs hR hn hls hW hP hD he hf hst) hS (fun q _ h => a_in hD hS hA q h) (a_in hD hS hA) (fun r u t1 H1 locs1 ht _ hw hB _ _ hS1 => ?_)
  subst hw
  have hB : va_P D cl1 ws t1.heap := hB
  rw [ht] at hB
  exact kk H1 locs1 hB hS1
theorem r_cAV (hF : FX p m c cc nL s args own D t) (hm : MV own index C y bytes maxL none n) (hC : CI ci C T N ty) (hM : ∀ sz, AV l D t y bytes maxL rm ws sz (.ref b :: As)) (hdg : decode cc pc = .ok (.invokevirtual index, 3)) (hrc : rm.cells = 0) (hrs : rm.slots = 0) (hR : rm.frames + 1 ≤ R.frames ∧ 8 + (maxL + 11) + rm.locals ≤ R.locals) (hn : As.length = n) (hls : ls.size = nL) (hW : (rest.map fun v => v.category).sum ≤ 8) (hP : va_P D cl1 ws H) (hD : va_D A ws) (hS : va_S A H0 H locs) (hA : ∀ q, H0.size ≤ q → A q) (he : ws[q0]? = some (b, .inr (ci, fs))) (hf : cells ≤ R.cells ∧ slots ≤ R.slots) (hst : st0 = As.reverse ++ .ref b :: rest)
    (kk : ∀ (H1 : Heap) (locs1 : List Loc), va_S A H0 H1 locs1 → W p l e R s m args below meth c H1 locs1 cells slots Q (F0 m (pc + 3) ls rest)) : W p l e R s m args below meth c H locs cells slots Q (F0 m pc ls st0) :=
  va_callv (r_runV hF hm hC (hM H.size) hdg hrc hrs hR hn hls hW hP hD he hf hst) hS (fun q _ h => a_in hD hS hA q h) (a_in hD hS hA) (fun u t1 H1 locs1 _ _ _ _ _ _ hS1 => kk H1 locs1 hS1)
theorem r_retQ {v : Option Nat} {C : String} (hF : FX p m c cc nL s args own D t) (hr : meth.sig.returnType = some (.object C)) (hlk : meth.locks = false) (hdg : decode cc pc = .ok (.areturn, 1)) (hP : va_P D cl1 ws H) (hS : va_S A s.heap H locs) : W p l e R s m args below meth c H locs cells slots (MQ below (va_Qq (fun r (_ : Unit) => r = v) (fun _ u => va_P D cl1 ws u.heap) A) args s cells slots A) (F0 m pc ls [va_rf v]) :=
  W.aret hF.1.1 hF.1.2.1 hr (Or.inl ⟨C, rfl⟩) (by cases v with
    | none => exact Or.inl rfl
    | some x => exact Or.inr ⟨x, rfl⟩) (fun t1 ht _ => ⟨⟨v, (), rfl, rfl, by show va_P D cl1 ws t1.heap; rw [ht]; exact hP⟩, hS.F ht⟩) hS.2.2 hdg hlk
theorem r_retAV (hF : FX p m c cc nL s args own D t) (hr : meth.sig.returnType = none) (hlk : meth.locks = false) (hdg : decode cc pc = .ok (.return_, 1)) (hS : va_S A s.heap H locs) : W p l e R s m args below meth c H locs cells slots (MQ below (va_Qv (fun (_ : Unit) => True) (fun _ _ => True) A) args s cells slots A) (F0 m pc ls []) :=
  W.vret hF.1.1 hF.1.2.1 hr (fun t1 ht _ => ⟨⟨(), rfl, trivial, trivial⟩, hS.F ht⟩) hS.2.2 hdg hlk
/-- bytes copied over bytes that are the same -/
theorem r_copy0 {q1 a a0 n0 n1 : Nat} {f g : Nat → Int32} {sp dp nn : Int32} (hF : FX p m c cc nL s args own D t) (hls : ls.size = nL) (w1 : Cond.methodLink own index arraycopyName ∈ big) (w2 : Cond.native arraycopyName ∈ big) (w3 : Cond.static arraycopyName ∈ big) (w4 : Cond.initialized "java/lang/System" ∈ big) (hdg : decode cc pc = .ok (.invokestatic index, 3)) (hP : va_P D cl1 ws H) (hD : va_D A ws) (hS : va_S A H0 H locs) (ha0 : ws[q0]? = some (a0, .inl (t 0, n0, .inl f))) (ha1 : ws[q1]? = some (a, .inl (t 0, n1, .inl g)))
    (h1 : ¬ sp < 0) (h2 : ¬ dp < 0) (h3 : ¬ nn < 0) (h4 : sp.toNatClampNeg + nn.toNatClampNeg ≤ n0) (h5 : dp.toNatClampNeg + nn.toNatClampNeg ≤ n1) (hfit : ∀ i, i < nn.toNatClampNeg → fits .byte (.int (f (sp.toNatClampNeg + i))) = true) (hsame : ∀ i, i < nn.toNatClampNeg → f (sp.toNatClampNeg + i) = g (dp.toNatClampNeg + i))
    (hframes : 1 ≤ R.frames) (hlocals : (rest.map fun v => v.category).sum + (nativeFrameWords "java/lang/System" "arraycopy" 5 + 11) ≤ R.locals)
    (kk : ∀ (H1 : Heap) (locs1 : List Loc), va_P D cl1 ws H1 → va_S A H0 H1 locs1 → W p l e R s m args below meth c H1 locs1 cells slots Q (F0 m (pc + 3) ls rest)) : W p l e R s m args below meth c H locs cells slots Q (F0 m pc ls (.int nn :: .int dp :: .ref a :: .int sp :: .ref a0 :: rest)) :=
  va_copyi hF.1.1 hF.1.2.1 (hF.1.2.2.1.trans hls.symm) hF.1.2.2.2.1 (hF.1.2.2.2.2 _ w1) (hF.1.2.2.2.2 _ w2) (hF.1.2.2.2.2 _ w3) (hF.1.2.2.2.2 _ w4) hF.2 hP hD hS q0 q1 0 0 ha0 ha1 rfl rfl rfl h1 h2 h3 h4 h5 hfit hframes hlocals hdg (fun H1 l1 p1 _ p3 => kk H1 l1 (by rw [cpy_id hsame, set_id ha1] at p1; exact p1) p3)
end H22
theorem set_ne' {ws : va_W} {i j : Nat} {x : Nat × va_E} (h : i ≠ j) : (ws.set i x)[j]? = ws[j]? := List.getElem?_set_ne h
theorem ne_kind {ws : va_W} {i j a b ci cj : Nat} {fs gs : List Value} (hi : ws[i]? = some (a, .inr (ci, fs))) (hj : ws[j]? = some (b, .inr (cj, gs))) (h : ci ≠ cj) : i ≠ j := by
  intro z
  subst z
  have := Option.some.inj (hi.symm.trans hj)
  have h2 := Sum.inr.inj (Prod.mk.inj this).2
  exact h (Prod.mk.inj h2).1
theorem ne_arr {ws : va_W} {i j a b ci : Nat} {fs : List Value} {x : ClassId × vp_A} (hi : ws[i]? = some (a, .inr (ci, fs))) (hj : ws[j]? = some (b, .inl x)) : i ≠ j := by
  intro z
  subst z
  have := Option.some.inj (hi.symm.trans hj)
  cases (Prod.mk.inj this).2
end
section
set_option maxRecDepth 100000 in
set_option maxHeartbeats 4000000 in
theorem c_Jx4a65c_size_8abf5 (l : Launch) (D : va_G) (t : Nat → ClassId) (ws : va_W) (h0 q : Nat) (mc ed : Value) (he : ws[q]? = some (h0, .inr (7, [mc, ed, .int 0]))) (sz : Nat) : KI l D t yJx4a65c_size_8abf5 cJx4a65c_size_8abf5 1 (some .int) ({ frames := 0, cells := 0, slots := 0, locals := 0 }) ws sz [.ref h0] 0 := by
  refine go (by decide) (Nat.le_of_ble_eq_true rfl) ?_
  intro p e s m below meth c ls A hF hr hlk hin hsz hAe hP hD hS hA hl
  rw [hAe]
  clear hAe hsz
  have hF : FX p m c cJx4a65c_size_8abf5 1 s _ RJx4a65c D t := hF
  have hx := hF.1.1
  have hb := hF.1.2.1
  have hls := hl.1
  have hl : lv_has ls 1 [(0, .ref h0)] := hl
  refine lv_aload_n hx hb dJx4a65c_size_8abf5_0 rfl (lv_at hl 0 rfl) ?_
  refine r_get hF ci_Jx4a65c fl_Jx4a65c_48 dJx4a65c_size_8abf5_1 hP he rfl ?_
  exact r_retK hF hr hlk rfl dJx4a65c_size_8abf5_4 hP hS rfl
set_option maxRecDepth 100000 in
set_option maxHeartbeats 4000000 in
theorem c_X11_connection (l : Launch) (D : va_G) (t : Nat → ClassId) (ws : va_W) (h0 ca q0 q1 : Nat) (fs : List Value) (f : Nat → Option Nat) (he0 : ws[q0]? = some (h0, .inr (1, fs))) (hv : fs[1]? = some (.ref ca)) (he1 : ws[q1]? = some (ca, .inl (t 5, 6, .inr (.inr (.inr (.inr f)))))) (k : Int32) (v : Option Nat) (hk : (k < 0 ∨ 6 ≤ k) ∧ v = none ∨ ∃ j, j < 6 ∧ k = nI j ∧ f j = v) (sz : Nat) : KQ l D t yX11_connection cX11_connection 2 (some (.object "ShareHouse$Conn")) ({ frames := 0, cells := 0, slots := 0, locals := 0 }) ws sz [.ref h0, .int k] v := by
  refine go (by decide) (Nat.le_of_ble_eq_true rfl) ?_
  intro p e s m below meth c ls A hF hr hlk hin hsz hAe hP hD hS hA hl
  rw [hAe]
  clear hAe hsz
  have hF : FX p m c cX11_connection 2 s _ RX11 D t := hF
  have hx := hF.1.1
  have hb := hF.1.2.1
  have hls := hl.1
  have hl : lv_has ls 2 [(0, .ref h0), (1, .int k)] := hl
  rcases hk with ⟨hk | hk, rfl⟩ | ⟨j, hj, hkj, hfj⟩
  · refine lv_iload_n hx hb dX11_connection_0 rfl (lv_at hl 1 rfl) ?_
    refine lv_if_lt (tgt := 22) hx hb dX11_connection_1 rfl (fun _ => ?_) (fun h => absurd hk h)
    refine lv_null hx hb dX11_connection_22 ?_
    exact r_retQ (v := none) hF hr hlk dX11_connection_23 hP hS
  · refine lv_iload_n hx hb dX11_connection_0 rfl (lv_at hl 1 rfl) ?_
    refine lv_if_lt (tgt := 22) hx hb dX11_connection_1 rfl (fun h => absurd h (Int32.not_lt.mpr (Int32.le_trans (by decide) hk))) (fun _ => ?_)
    refine lv_iload_n hx hb dX11_connection_4 rfl (lv_at hl 1 rfl) ?_
    refine lv_aload_n hx hb dX11_connection_5 rfl (lv_at hl 0 rfl) ?_
    refine r_get hF ci_X11 fl_X11_18 dX11_connection_6 hP he0 hv ?_
    refine r_alen (v := 6) hF dX11_connection_9 hP he1 (t0 := 5) rfl rfl ?_
    refine lv_icmp_ge (tgt := 22) hx hb dX11_connection_10 rfl (fun _ => ?_) (fun h => absurd hk h)
    refine lv_null hx hb dX11_connection_22 ?_
    exact r_retQ (v := none) hF hr hlk dX11_connection_23 hP hS
  · refine lv_iload_n hx hb dX11_connection_0 rfl (lv_at hl 1 rfl) ?_
    refine lv_if_lt (tgt := 22) hx hb dX11_connection_1 rfl (fun h => absurd h (by rw [hkj]; exact nI_pos (by omega))) (fun _ => ?_)
    refine lv_iload_n hx hb dX11_connection_4 rfl (lv_at hl 1 rfl) ?_
    refine lv_aload_n hx hb dX11_connection_5 rfl (lv_at hl 0 rfl) ?_
    refine r_get hF ci_X11 fl_X11_18 dX11_connection_6 hP he0 hv ?_
    refine r_alen (v := 6) hF dX11_connection_9 hP he1 (t0 := 5) rfl rfl ?_
    refine lv_icmp_ge (tgt := 22) hx hb dX11_connection_10 rfl (fun h => absurd h (by rw [hkj]; exact nI_ge (b := 6) hj (by decide))) (fun _ => ?_)
    refine lv_aload_n hx hb dX11_connection_13 rfl (lv_at hl 0 rfl) ?_
    refine r_get hF ci_X11 fl_X11_18 dX11_connection_14 hP he0 hv ?_
    refine lv_iload_n hx hb dX11_connection_17 rfl (lv_at hl 1 rfl) ?_
    refine r_aldq (v := va_rf v) (t0 := 5) hF dX11_connection_18 hP he1 rfl (by rw [hkj]; exact vp_in_nI hj (by decide)) (by rw [hkj, nI_clamp (by omega), hfj]) ?_
    refine lv_goto (tgt := 23) hx hb dX11_connection_19 rfl ?_
    exact r_retQ hF hr hlk dX11_connection_23 hP hS
set_option maxRecDepth 100000 in
set_option maxHeartbeats 4000000 in
theorem c_X11_tapeIsShareName (l : Launch) (D : va_G) (t : Nat → ClassId) (ws : va_W) (h0 tp tb q0 q1 : Nat) (fs : List Value) (he0 : ws[q0]? = some (h0, .inr (1, fs))) (hv : fs[0]? = some (.ref tp)) (he1 : ws[q1]? = some (tp, .inr (2, [.ref tb, .int 0]))) (sz : Nat) : KI l D t yX11_tapeIsShareName cX11_tapeIsShareName 4 (some .boolean) ({ frames := 0, cells := 0, slots := 0, locals := 0 }) ws sz [.ref h0] 0 := by
  refine go (by decide) (Nat.le_of_ble_eq_true rfl) ?_
  intro p e s m below meth c ls A hF hr hlk hin hsz hAe hP hD hS hA hl
  rw [hAe]
  clear hAe hsz
  have hF : FX p m c cX11_tapeIsShareName 4 s _ RX11 D t := hF
  have hx := hF.1.1
  have hb := hF.1.2.1
  have hls := hl.1
  have hl : lv_has ls 4 [(0, .ref h0)] := hl
  refine lv_aload_n hx hb dX11_tapeIsShareName_0 rfl (lv_at hl 0 rfl) ?_
  refine r_get hF ci_X11 fl_X11_10 dX11_tapeIsShareName_1 hP he0 hv ?_
  refine r_get hF ci_X6 fl_X11_85 dX11_tapeIsShareName_4 hP he1 rfl ?_
  refine lv_iconst (v := 1) hx hb dX11_tapeIsShareName_7 (by decide) ?_
  refine lv_icmp_lt (tgt := 23) hx hb dX11_tapeIsShareName_8 rfl (fun _ => ?_) (fun h => absurd (by decide) h)
  refine lv_iconst (v := 0) hx hb dX11_tapeIsShareName_23 (by decide) ?_
  exact r_retK hF hr hlk rfl dX11_tapeIsShareName_24 hP hS rfl
set_option maxRecDepth 100000 in
set_option maxHeartbeats 4000000 in
theorem c_X11_comeToDisk (l : Launch) (D : va_G) (t : Nat → ClassId) (ws : va_W) (h0 q0 : Nat) (fs : List Value) (he0 : ws[q0]? = some (h0, .inr (1, fs))) (hv : fs[6]? = some (.int 0)) (sz : Nat) : KV l D t yX11_comeToDisk cX11_comeToDisk 2 ({ frames := 0, cells := 0, slots := 0, locals := 0 }) ws sz [.ref h0] := by
  refine go (by decide) (Nat.le_of_ble_eq_true rfl) ?_
  intro p e s m below meth c ls A hF hr hlk hin hsz hAe hP hD hS hA hl
  rw [hAe]
  clear hAe hsz
  have hF : FX p m c cX11_comeToDisk 2 s _ RX11 D t := hF
  have hx := hF.1.1
  have hb := hF.1.2.1
  have hls := hl.1
  have hl : lv_has ls 2 [(0, .ref h0)] := hl
  refine lv_iconst (v := 0) hx hb dX11_comeToDisk_0 (by decide) ?_
  refine lv_istore_n (lv' := [(1, .int 0), (0, .ref h0)]) hx hb dX11_comeToDisk_1 rfl hl (by decide) rfl (fun ls hl => ?_)
  refine lv_iload_n hx hb dX11_comeToDisk_2 rfl (lv_at hl 0 rfl) ?_
  refine lv_aload_n hx hb dX11_comeToDisk_3 rfl (lv_at hl 1 rfl) ?_
  refine r_get hF ci_X11 fl_X11_182 dX11_comeToDisk_4 hP he0 hv ?_
  refine lv_icmp_ge (tgt := 38) hx hb dX11_comeToDisk_7 rfl (fun _ => ?_) (fun h => absurd (by decide) h)
  refine lv_aload_n hx hb dX11_comeToDisk_38 rfl (lv_at hl 1 rfl) ?_
  refine lv_iconst (v := 0) hx hb dX11_comeToDisk_39 (by decide) ?_
  refine r_put0 hF ci_X11 fl_X11_182 dX11_comeToDisk_40 hP hD hS he0 hv rfl rfl rfl (fun H locs hP hS => ?_)
  exact r_retV hF hr hlk dX11_comeToDisk_43 hP hS
set_option maxRecDepth 100000 in
set_option maxHeartbeats 4000000 in
theorem c_X2_vanish (l : Launch) (D : va_G) (t : Nat → ClassId) (ws : va_W) (h0 kc kcb ks ksb kf q0 q1 q2 : Nat) (he0 : ws[q0]? = some (h0, eConn kc ks kf)) (he1 : ws[q1]? = some (kc, eRow kcb)) (he2 : ws[q2]? = some (ks, eRow ksb)) (sz : Nat) : KV l D t yX2_vanish cX2_vanish 1 ({ frames := 0, cells := 0, slots := 0, locals := 0 }) ws sz [.ref h0] := by
  refine go (by decide) (Nat.le_of_ble_eq_true rfl) ?_
  intro p e s m below meth c ls A hF hr hlk hin hsz hAe hP hD hS hA hl
  rw [hAe]
  clear hAe hsz
  have hF : FX p m c cX2_vanish 1 s _ RX2 D t := hF
  have hx := hF.1.1
  have hb := hF.1.2.1
  have hls := hl.1
  have hl : lv_has ls 1 [(0, .ref h0)] := hl
  refine lv_aload_n hx hb dX2_vanish_0 rfl (lv_at hl 0 rfl) ?_
  refine lv_iconst (v := 0) hx hb dX2_vanish_1 (by decide) ?_
  refine r_put0 hF ci_X2 fl_X2_25 dX2_vanish_2 hP hD hS he0 rfl rfl rfl rfl (fun H locs hP hS => ?_)
  refine lv_aload_n hx hb dX2_vanish_5 rfl (lv_at hl 0 rfl) ?_
  refine r_get hF ci_X2 fl_X2_12 dX2_vanish_6 hP he0 rfl ?_
  refine lv_iconst (v := 0) hx hb dX2_vanish_9 (by decide) ?_
  refine r_put0 hF ci_X6 fl_X2_32 dX2_vanish_10 hP hD hS he1 rfl rfl rfl rfl (fun H locs hP hS => ?_)
  refine lv_aload_n hx hb dX2_vanish_13 rfl (lv_at hl 0 rfl) ?_
  refine r_get hF ci_X2 fl_X2_18 dX2_vanish_14 hP he0 rfl ?_
  refine lv_iconst (v := 0) hx hb dX2_vanish_17 (by decide) ?_
  refine r_put0 hF ci_X6 fl_X2_32 dX2_vanish_18 hP hD hS he2 rfl rfl rfl rfl (fun H locs hP hS => ?_)
  exact r_retV hF hr hlk dX2_vanish_21 hP hS
set_option maxRecDepth 100000 in
set_option maxHeartbeats 4000000 in
theorem c_X2_begin (l : Launch) (D : va_G) (t : Nat → ClassId) (ws : va_W) (h0 kc kcb ks ksb kf q0 q1 q2 : Nat) (he0 : ws[q0]? = some (h0, eConn kc ks kf)) (he1 : ws[q1]? = some (kc, eRow kcb)) (he2 : ws[q2]? = some (ks, eRow ksb)) (q3 : Nat) (he3 : ws[q3]? = some (kf, .inl (t 2, 16, .inr (.inl (fun _ => 0))))) (sz : Nat) : AV l D t yX2_begin cX2_begin 1 ({ frames := 0, cells := 0, slots := 0, locals := 0 }) ws sz [.ref h0] := by
  refine go (by decide) (Nat.le_of_ble_eq_true rfl) ?_
  intro p e s m below meth c ls A hF hr hlk hin hsz hAe hP hD hS hA hl
  rw [hAe]
  clear hAe hsz
  have hF : FX p m c cX2_begin 1 s _ RX2 D t := hF
  have hx := hF.1.1
  have hb := hF.1.2.1
  have hls := hl.1
  have hl : lv_has ls 1 [(0, .ref h0)] := hl
  have hq := (List.getElem?_eq_some_iff.mp he0).1
  have n1 := ne_kind he0 he1 (by decide)
  have n2 := ne_kind he0 he2 (by decide)
  have n3 := ne_arr he0 he3
  refine lv_aload_n hx hb dX2_begin_0 rfl (lv_at hl 0 rfl) ?_
  refine lv_iconst (v := 1) hx hb dX2_begin_1 (by decide) ?_
  refine r_put hF ci_X2 fl_X2_25 dX2_begin_2 hP hD hS he0 rfl rfl rfl (Nat.le_of_ble_eq_true rfl) (fun H locs hP hD hS => ?_)
  have he0 := List.getElem?_set_self (a := (h0, (.inr (3, [.int 1, .int 0, .ref kc, .long 0, .ref ks, .ref kf, .int 0, .long 0, .int 0, .int 0, .long 0, .long 0, .int 0, .long 0, .long 0]) : va_E))) hq
  have he1 := (set_ne' (x := (h0, (.inr (3, [.int 1, .int 0, .ref kc, .long 0, .ref ks, .ref kf, .int 0, .long 0, .int 0, .int 0, .long 0, .long 0, .int 0, .long 0, .long 0]) : va_E))) n1).trans he1
  have he2 := (set_ne' (x := (h0, (.inr (3, [.int 1, .int 0, .ref kc, .long 0, .ref ks, .ref kf, .int 0, .long 0, .int 0, .int 0, .long 0, .long 0, .int 0, .long 0, .long 0]) : va_E))) n2).trans he2
  have he3 := (set_ne' (x := (h0, (.inr (3, [.int 1, .int 0, .ref kc, .long 0, .ref ks, .ref kf, .int 0, .long 0, .int 0, .int 0, .long 0, .long 0, .int 0, .long 0, .long 0]) : va_E))) n3).trans he3
  refine lv_aload_n hx hb dX2_begin_5 rfl (lv_at hl 0 rfl) ?_
  refine lv_iconst (v := 0) hx hb dX2_begin_6 (by decide) ?_
  refine r_put0 hF ci_X2 fl_X2_29 dX2_begin_7 hP hD hS he0 rfl rfl rfl rfl (fun H locs hP hS => ?_)
  refine lv_aload_n hx hb dX2_begin_10 rfl (lv_at hl 0 rfl) ?_
  refine r_get hF ci_X2 fl_X2_12 dX2_begin_11 hP he0 rfl ?_
  refine lv_iconst (v := 0) hx hb dX2_begin_14 (by decide) ?_
  refine r_put0 hF ci_X6 fl_X2_32 dX2_begin_15 hP hD hS he1 rfl rfl rfl rfl (fun H locs hP hS => ?_)
  refine lv_aload_n hx hb dX2_begin_18 rfl (lv_at hl 0 rfl) ?_
  refine r_get hF ci_X2 fl_X2_18 dX2_begin_19 hP he0 rfl ?_
  refine lv_iconst (v := 0) hx hb dX2_begin_22 (by decide) ?_
  refine r_put0 hF ci_X6 fl_X2_32 dX2_begin_23 hP hD hS he2 rfl rfl rfl rfl (fun H locs hP hS => ?_)
  refine lv_aload_n hx hb dX2_begin_26 rfl (lv_at hl 0 rfl) ?_
  refine r_get hF ci_X2 fl_X2_21 dX2_begin_27 hP he0 rfl ?_
  refine lv_iconst (v := 0) hx hb dX2_begin_30 (by decide) ?_
  refine lv_lconst (v := 0) hx hb dX2_begin_31 (by decide) ?_
  refine r_last0 hF dX2_begin_32 hP hD hS he3 (vp_in_nI (n := 0) (by decide) (by decide)) rfl (fun H locs hP hS => ?_)
  refine lv_aload_n hx hb dX2_begin_33 rfl (lv_at hl 0 rfl) ?_
  refine lv_iconst (v := 1) hx hb dX2_begin_34 (by decide) ?_
  refine r_put hF ci_X2 fl_X2_36 dX2_begin_35 hP hD hS he0 rfl rfl rfl (Nat.le_of_ble_eq_true rfl) (fun H locs hP hD hS => ?_)
  have he0 := List.getElem?_set_self (a := (h0, (.inr (3, [.int 1, .int 0, .ref kc, .long 0, .ref ks, .ref kf, .int 1, .long 0, .int 0, .int 0, .long 0, .long 0, .int 0, .long 0, .long 0]) : va_E))) (List.getElem?_eq_some_iff.mp he0).1
  refine lv_aload_n hx hb dX2_begin_38 rfl (lv_at hl 0 rfl) ?_
  refine lv_lconst (v := 0) hx hb dX2_begin_39 (by decide) ?_
  refine r_put0 hF ci_X2 fl_X2_39 dX2_begin_40 hP hD hS he0 rfl rfl rfl rfl (fun H locs hP hS => ?_)
  exact r_retAV hF hr hlk dX2_begin_43 hS
theorem line_cases2 (k : Int32) : ((k < 0 ∨ 6 ≤ k) ∧ ∀ a b, lineA k a b = b) ∨ ∃ j : Nat, j < 6 ∧ k = nI j ∧ ∀ a b, lineA k a b = a := by
  by_cases h : k < 0
  · exact Or.inl ⟨Or.inl h, fun a b => by unfold lineA; rw [if_pos h]⟩
  · by_cases h2 : 6 ≤ k
    · exact Or.inl ⟨Or.inr h2, fun a b => by unfold lineA; rw [if_neg h, if_pos h2]⟩
    · rcases pk_ix k (n := 6) (by decide) with h3 | h3 | ⟨j, hj, e⟩
      · exact absurd h3 h
      · exact absurd h3 h2
      · exact Or.inr ⟨j, hj, e, fun a b => by unfold lineA; rw [if_neg h, if_neg h2]⟩
set_option maxRecDepth 100000 in
set_option maxHeartbeats 4000000 in
theorem c_X11_outs (l : Launch) (D : va_G) (t : Nat → ClassId) (d : Nat) (h0 : Nat) (a : Nat → Nat) (fc fl fd fw : Nat → Option Nat) (fr : Nat → Int32) (T : va_W) (hcn : connsIn t T fc 6) (k : Int32) (sz : Nat) : AI l D t yX11_outs cX11_outs 3 (some .int) ({ frames := 1, cells := 0, slots := 0, locals := 21 }) (hW t d h0 a fc fl fd fw fr T) sz [.ref h0, .int k] (lineA k 0 (-1)) := by
  refine go (by decide) (Nat.le_of_ble_eq_true rfl) ?_
  intro p e s m below meth c ls A hF hr hlk hin hsz hAe hP hD hS hA hl
  rw [hAe]
  clear hAe hsz
  have hF : FX p m c cX11_outs 3 s _ RX11 D t := hF
  have hx := hF.1.1
  have hb := hF.1.2.1
  have hls := hl.1
  have hl : lv_has ls 3 [(0, .ref h0), (1, .int k)] := hl
  rcases line_cases2 k with ⟨hko, hk⟩ | ⟨j, hj, hkj, hk⟩
  · refine lv_aload_n hx hb dX11_outs_0 rfl (lv_at hl 0 rfl) ?_
    refine lv_iload_n hx hb dX11_outs_1 rfl (lv_at hl 1 rfl) ?_
    refine r_cKQ (v := none) (As := [.int k]) (rest := []) hF mv_X11_108 ci_X11 (fun sz => c_X11_connection l D t (hW t d h0 a fc fl fd fw fr T) h0 _ 23 20 _ fc rfl rfl rfl _ _ (Or.inl ⟨hko, rfl⟩) sz) dX11_outs_2 rfl rfl (by decide) rfl hl.1 (Nat.le_of_ble_eq_true rfl) hP hD hS hA (q0 := 23) rfl (by decide) rfl (fun H locs hP hS => ?_)
    refine W.eq (g2 := F0 m 5 ls [.null]) rfl ?_
    refine lv_astore_nN (lv' := [(2, .null), (0, .ref h0), (1, .int k)]) hx hb dX11_outs_5 rfl hl (by decide) rfl (fun ls hl => ?_)
    refine lv_aload_nN hx hb dX11_outs_6 rfl (lv_at hl 0 rfl) ?_
    refine lv_ifnonnullN hx hb dX11_outs_7 ?_
    refine lv_iconst (v := (-1)) hx hb dX11_outs_10 (by decide) ?_
    refine lv_goto (tgt := 21) hx hb dX11_outs_11 rfl ?_
    exact r_retA hF hr hlk rfl dX11_outs_21 hS (hk 0 (-1)).symm
  · obtain ⟨kk, kc, kcb, ks, ksb, kf, hfk, m0, m1, m2, m3⟩ := hcn j hj
    obtain ⟨q0, he0⟩ := List.getElem?_of_mem (l := (hW t d h0 a fc fl fd fw fr T)) (List.mem_append_right _ m0)
    obtain ⟨q1, he1⟩ := List.getElem?_of_mem (l := (hW t d h0 a fc fl fd fw fr T)) (List.mem_append_right _ m1)
    obtain ⟨q2, he2⟩ := List.getElem?_of_mem (l := (hW t d h0 a fc fl fd fw fr T)) (List.mem_append_right _ m2)
    obtain ⟨q3, he3⟩ := List.getElem?_of_mem (l := (hW t d h0 a fc fl fd fw fr T)) (List.mem_append_right _ m3)
    refine lv_aload_n hx hb dX11_outs_0 rfl (lv_at hl 0 rfl) ?_
    refine lv_iload_n hx hb dX11_outs_1 rfl (lv_at hl 1 rfl) ?_
    refine r_cKQ (v := (some kk)) (As := [.int k]) (rest := []) hF mv_X11_108 ci_X11 (fun sz => c_X11_connection l D t (hW t d h0 a fc fl fd fw fr T) h0 _ 23 20 _ fc rfl rfl rfl _ _ (Or.inr ⟨j, hj, hkj, hfk⟩) sz) dX11_outs_2 rfl rfl (by decide) rfl hl.1 (Nat.le_of_ble_eq_true rfl) hP hD hS hA (q0 := 23) rfl (by decide) rfl (fun H locs hP hS => ?_)
    refine W.eq (g2 := F0 m 5 ls [.ref kk]) rfl ?_
    refine lv_astore_n (lv' := [(2, .ref kk), (0, .ref h0), (1, .int k)]) hx hb dX11_outs_5 rfl hl (by decide) rfl (fun ls hl => ?_)
    refine lv_aload_n hx hb dX11_outs_6 rfl (lv_at hl 0 rfl) ?_
    refine lv_ifnonnull (tgt := 14) hx hb dX11_outs_7 rfl ?_
    refine lv_aload_n hx hb dX11_outs_14 rfl (lv_at hl 0 rfl) ?_
    refine r_get hF ci_X2 fl_X11_201 dX11_outs_15 hP he0 rfl ?_
    refine r_get hF ci_X6 fl_X11_85 dX11_outs_18 hP he2 rfl ?_
    exact r_retA hF hr hlk rfl dX11_outs_21 hS (hk 0 (-1)).symm
set_option maxRecDepth 100000 in
set_option maxHeartbeats 4000000 in
theorem c_X11_drop (l : Launch) (D : va_G) (t : Nat → ClassId) (d : Nat) (h0 : Nat) (a : Nat → Nat) (fc fl fd fw : Nat → Option Nat) (fr : Nat → Int32) (T : va_W) (hcn : connsIn t T fc 6) (k : Int32) (sz : Nat) : AI l D t yX11_drop cX11_drop 4 (some .int) ({ frames := 1, cells := 0, slots := 0, locals := 21 }) (hW t d h0 a fc fl fd fw fr T) sz [.ref h0, .int k] (lineA k 0 (-1)) := by
  refine go (by decide) (Nat.le_of_ble_eq_true rfl) ?_
  intro p e s m below meth c ls A hF hr hlk hin hsz hAe hP hD hS hA hl
  rw [hAe]
  clear hAe hsz
  have hF : FX p m c cX11_drop 4 s _ RX11 D t := hF
  have hx := hF.1.1
  have hb := hF.1.2.1
  have hls := hl.1
  have hl : lv_has ls 4 [(0, .ref h0), (1, .int k)] := hl
  rcases line_cases2 k with ⟨hko, hk⟩ | ⟨j, hj, hkj, hk⟩
  · refine lv_aload_n hx hb dX11_drop_0 rfl (lv_at hl 0 rfl) ?_
    refine lv_iload_n hx hb dX11_drop_1 rfl (lv_at hl 1 rfl) ?_
    refine r_cKQ (v := none) (As := [.int k]) (rest := []) hF mv_X11_108 ci_X11 (fun sz => c_X11_connection l D t (hW t d h0 a fc fl fd fw fr T) h0 _ 23 20 _ fc rfl rfl rfl _ _ (Or.inl ⟨hko, rfl⟩) sz) dX11_drop_2 rfl rfl (by decide) rfl hl.1 (Nat.le_of_ble_eq_true rfl) hP hD hS hA (q0 := 23) rfl (by decide) rfl (fun H locs hP hS => ?_)
    refine W.eq (g2 := F0 m 5 ls [.null]) rfl ?_
    refine lv_astore_nN (lv' := [(2, .null), (0, .ref h0), (1, .int k)]) hx hb dX11_drop_5 rfl hl (by decide) rfl (fun ls hl => ?_)
    refine lv_aload_nN hx hb dX11_drop_6 rfl (lv_at hl 0 rfl) ?_
    refine lv_ifnonnullN hx hb dX11_drop_7 ?_
    refine lv_iconst (v := (-1)) hx hb dX11_drop_10 (by decide) ?_
    exact r_retA hF hr hlk rfl dX11_drop_11 hS (hk 0 (-1)).symm
  · obtain ⟨kk, kc, kcb, ks, ksb, kf, hfk, m0, m1, m2, m3⟩ := hcn j hj
    obtain ⟨q0, he0⟩ := List.getElem?_of_mem (l := (hW t d h0 a fc fl fd fw fr T)) (List.mem_append_right _ m0)
    obtain ⟨q1, he1⟩ := List.getElem?_of_mem (l := (hW t d h0 a fc fl fd fw fr T)) (List.mem_append_right _ m1)
    obtain ⟨q2, he2⟩ := List.getElem?_of_mem (l := (hW t d h0 a fc fl fd fw fr T)) (List.mem_append_right _ m2)
    obtain ⟨q3, he3⟩ := List.getElem?_of_mem (l := (hW t d h0 a fc fl fd fw fr T)) (List.mem_append_right _ m3)
    refine lv_aload_n hx hb dX11_drop_0 rfl (lv_at hl 0 rfl) ?_
    refine lv_iload_n hx hb dX11_drop_1 rfl (lv_at hl 1 rfl) ?_
    refine r_cKQ (v := (some kk)) (As := [.int k]) (rest := []) hF mv_X11_108 ci_X11 (fun sz => c_X11_connection l D t (hW t d h0 a fc fl fd fw fr T) h0 _ 23 20 _ fc rfl rfl rfl _ _ (Or.inr ⟨j, hj, hkj, hfk⟩) sz) dX11_drop_2 rfl rfl (by decide) rfl hl.1 (Nat.le_of_ble_eq_true rfl) hP hD hS hA (q0 := 23) rfl (by decide) rfl (fun H locs hP hS => ?_)
    refine W.eq (g2 := F0 m 5 ls [.ref kk]) rfl ?_
    refine lv_astore_n (lv' := [(2, .ref kk), (0, .ref h0), (1, .int k)]) hx hb dX11_drop_5 rfl hl (by decide) rfl (fun ls hl => ?_)
    refine lv_aload_n hx hb dX11_drop_6 rfl (lv_at hl 0 rfl) ?_
    refine lv_ifnonnull (tgt := 12) hx hb dX11_drop_7 rfl ?_
    refine lv_aload_n hx hb dX11_drop_12 rfl (lv_at hl 0 rfl) ?_
    refine r_get hF ci_X2 fl_X11_201 dX11_drop_13 hP he0 rfl ?_
    refine r_get hF ci_X6 fl_X11_85 dX11_drop_16 hP he2 rfl ?_
    refine lv_istore_n (lv' := [(3, .int 0), (2, .ref kk), (0, .ref h0), (1, .int k)]) hx hb dX11_drop_19 rfl hl (by decide) rfl (fun ls hl => ?_)
    refine lv_aload_n hx hb dX11_drop_20 rfl (lv_at hl 1 rfl) ?_
    refine r_get hF ci_X2 fl_X11_201 dX11_drop_21 hP he0 rfl ?_
    refine lv_iconst (v := 0) hx hb dX11_drop_24 (by decide) ?_
    refine r_put0 hF ci_X6 fl_X11_85 dX11_drop_25 hP hD hS he2 rfl rfl rfl rfl (fun H locs hP hS => ?_)
    refine lv_iload_n hx hb dX11_drop_28 rfl (lv_at hl 0 rfl) ?_
    exact r_retA hF hr hlk rfl dX11_drop_29 hS (hk 0 (-1)).symm
set_option maxRecDepth 100000 in
set_option maxHeartbeats 4000000 in
theorem c_X11_out (l : Launch) (D : va_G) (t : Nat → ClassId) (d : Nat) (h0 : Nat) (a : Nat → Nat) (fc fl fd fw : Nat → Option Nat) (fr : Nat → Int32) (T : va_W) (hcn : connsIn t T fc 6) (k : Int32) (k2 : Int32) (sz : Nat) : AI l D t yX11_out cX11_out 4 (some .int) ({ frames := 1, cells := 0, slots := 0, locals := 21 }) (hW t d h0 a fc fl fd fw fr T) sz [.ref h0, .int k, .int k2] (-1) := by
  refine go (by decide) (Nat.le_of_ble_eq_true rfl) ?_
  intro p e s m below meth c ls A hF hr hlk hin hsz hAe hP hD hS hA hl
  rw [hAe]
  clear hAe hsz
  have hF : FX p m c cX11_out 4 s _ RX11 D t := hF
  have hx := hF.1.1
  have hb := hF.1.2.1
  have hls := hl.1
  have hl : lv_has ls 4 [(0, .ref h0), (1, .int k), (2, .int k2)] := hl
  rcases line_cases2 k with ⟨hko, hk⟩ | ⟨j, hj, hkj, hk⟩
  · refine lv_aload_n hx hb dX11_out_0 rfl (lv_at hl 0 rfl) ?_
    refine lv_iload_n hx hb dX11_out_1 rfl (lv_at hl 1 rfl) ?_
    refine r_cKQ (v := none) (As := [.int k]) (rest := []) hF mv_X11_108 ci_X11 (fun sz => c_X11_connection l D t (hW t d h0 a fc fl fd fw fr T) h0 _ 23 20 _ fc rfl rfl rfl _ _ (Or.inl ⟨hko, rfl⟩) sz) dX11_out_2 rfl rfl (by decide) rfl hl.1 (Nat.le_of_ble_eq_true rfl) hP hD hS hA (q0 := 23) rfl (by decide) rfl (fun H locs hP hS => ?_)
    refine W.eq (g2 := F0 m 5 ls [.null]) rfl ?_
    refine lv_astore_nN (lv' := [(3, .null), (0, .ref h0), (1, .int k), (2, .int k2)]) hx hb dX11_out_5 rfl hl (by decide) rfl (fun ls hl => ?_)
    refine lv_aload_nN hx hb dX11_out_6 rfl (lv_at hl 0 rfl) ?_
    refine lv_ifnullN (tgt := 25) hx hb dX11_out_7 rfl ?_
    refine lv_iconst (v := (-1)) hx hb dX11_out_25 (by decide) ?_
    exact r_retA hF hr hlk rfl dX11_out_26 hS rfl
  · obtain ⟨kk, kc, kcb, ks, ksb, kf, hfk, m0, m1, m2, m3⟩ := hcn j hj
    obtain ⟨q0, he0⟩ := List.getElem?_of_mem (l := (hW t d h0 a fc fl fd fw fr T)) (List.mem_append_right _ m0)
    obtain ⟨q1, he1⟩ := List.getElem?_of_mem (l := (hW t d h0 a fc fl fd fw fr T)) (List.mem_append_right _ m1)
    obtain ⟨q2, he2⟩ := List.getElem?_of_mem (l := (hW t d h0 a fc fl fd fw fr T)) (List.mem_append_right _ m2)
    obtain ⟨q3, he3⟩ := List.getElem?_of_mem (l := (hW t d h0 a fc fl fd fw fr T)) (List.mem_append_right _ m3)
    refine lv_aload_n hx hb dX11_out_0 rfl (lv_at hl 0 rfl) ?_
    refine lv_iload_n hx hb dX11_out_1 rfl (lv_at hl 1 rfl) ?_
    refine r_cKQ (v := (some kk)) (As := [.int k]) (rest := []) hF mv_X11_108 ci_X11 (fun sz => c_X11_connection l D t (hW t d h0 a fc fl fd fw fr T) h0 _ 23 20 _ fc rfl rfl rfl _ _ (Or.inr ⟨j, hj, hkj, hfk⟩) sz) dX11_out_2 rfl rfl (by decide) rfl hl.1 (Nat.le_of_ble_eq_true rfl) hP hD hS hA (q0 := 23) rfl (by decide) rfl (fun H locs hP hS => ?_)
    refine W.eq (g2 := F0 m 5 ls [.ref kk]) rfl ?_
    refine lv_astore_n (lv' := [(3, .ref kk), (0, .ref h0), (1, .int k), (2, .int k2)]) hx hb dX11_out_5 rfl hl (by decide) rfl (fun ls hl => ?_)
    refine lv_aload_n hx hb dX11_out_6 rfl (lv_at hl 0 rfl) ?_
    refine lv_ifnull hx hb dX11_out_7 ?_
    refine lv_iload_n hx hb dX11_out_10 rfl (lv_at hl 3 rfl) ?_
    refine lv_if_lt (tgt := 25) hx hb dX11_out_11 rfl (fun h1 => ?_) (fun h1 => ?_)
    · refine lv_iconst (v := (-1)) hx hb dX11_out_25 (by decide) ?_
      exact r_retA hF hr hlk rfl dX11_out_26 hS rfl
    · refine lv_iload_n hx hb dX11_out_14 rfl (lv_at hl 3 rfl) ?_
      refine lv_aload_n hx hb dX11_out_15 rfl (lv_at hl 0 rfl) ?_
      refine r_get hF ci_X2 fl_X11_201 dX11_out_16 hP he0 rfl ?_
      refine r_get hF ci_X6 fl_X11_85 dX11_out_19 hP he2 rfl ?_
      refine lv_icmp_lt (tgt := 27) hx hb dX11_out_22 rfl (fun h => absurd h (fun z => h1 z)) (fun _ => ?_)
      refine lv_iconst (v := (-1)) hx hb dX11_out_25 (by decide) ?_
      exact r_retA hF hr hlk rfl dX11_out_26 hS rfl
set_option maxRecDepth 100000 in
set_option maxHeartbeats 4000000 in
theorem c_X11_hang (l : Launch) (D : va_G) (t : Nat → ClassId) (d : Nat) (h0 : Nat) (a : Nat → Nat) (fc fl fd fw : Nat → Option Nat) (fr : Nat → Int32) (T : va_W) (hcn : connsIn t T fc 6) (k : Int32) (sz : Nat) : AI l D t yX11_hang cX11_hang 3 (some .boolean) ({ frames := 1, cells := 0, slots := 0, locals := 21 }) (hW t d h0 a fc fl fd fw fr T) sz [.ref h0, .int k] 0 := by
  refine go (by decide) (Nat.le_of_ble_eq_true rfl) ?_
  intro p e s m below meth c ls A hF hr hlk hin hsz hAe hP hD hS hA hl
  rw [hAe]
  clear hAe hsz
  have hF : FX p m c cX11_hang 3 s _ RX11 D t := hF
  have hx := hF.1.1
  have hb := hF.1.2.1
  have hls := hl.1
  have hl : lv_has ls 3 [(0, .ref h0), (1, .int k)] := hl
  rcases line_cases2 k with ⟨hko, hk⟩ | ⟨j, hj, hkj, hk⟩
  · refine lv_aload_n hx hb dX11_hang_0 rfl (lv_at hl 0 rfl) ?_
    refine lv_iload_n hx hb dX11_hang_1 rfl (lv_at hl 1 rfl) ?_
    refine r_cKQ (v := none) (As := [.int k]) (rest := []) hF mv_X11_108 ci_X11 (fun sz => c_X11_connection l D t (hW t d h0 a fc fl fd fw fr T) h0 _ 23 20 _ fc rfl rfl rfl _ _ (Or.inl ⟨hko, rfl⟩) sz) dX11_hang_2 rfl rfl (by decide) rfl hl.1 (Nat.le_of_ble_eq_true rfl) hP hD hS hA (q0 := 23) rfl (by decide) rfl (fun H locs hP hS => ?_)
    refine W.eq (g2 := F0 m 5 ls [.null]) rfl ?_
    refine lv_astore_nN (lv' := [(2, .null), (0, .ref h0), (1, .int k)]) hx hb dX11_hang_5 rfl hl (by decide) rfl (fun ls hl => ?_)
    refine lv_aload_nN hx hb dX11_hang_6 rfl (lv_at hl 0 rfl) ?_
    refine lv_ifnullN (tgt := 17) hx hb dX11_hang_7 rfl ?_
    refine lv_iconst (v := 0) hx hb dX11_hang_17 (by decide) ?_
    exact r_retA hF hr hlk rfl dX11_hang_18 hS rfl
  · obtain ⟨kk, kc, kcb, ks, ksb, kf, hfk, m0, m1, m2, m3⟩ := hcn j hj
    obtain ⟨q0, he0⟩ := List.getElem?_of_mem (l := (hW t d h0 a fc fl fd fw fr T)) (List.mem_append_right _ m0)
    obtain ⟨q1, he1⟩ := List.getElem?_of_mem (l := (hW t d h0 a fc fl fd fw fr T)) (List.mem_append_right _ m1)
    obtain ⟨q2, he2⟩ := List.getElem?_of_mem (l := (hW t d h0 a fc fl fd fw fr T)) (List.mem_append_right _ m2)
    obtain ⟨q3, he3⟩ := List.getElem?_of_mem (l := (hW t d h0 a fc fl fd fw fr T)) (List.mem_append_right _ m3)
    refine lv_aload_n hx hb dX11_hang_0 rfl (lv_at hl 0 rfl) ?_
    refine lv_iload_n hx hb dX11_hang_1 rfl (lv_at hl 1 rfl) ?_
    refine r_cKQ (v := (some kk)) (As := [.int k]) (rest := []) hF mv_X11_108 ci_X11 (fun sz => c_X11_connection l D t (hW t d h0 a fc fl fd fw fr T) h0 _ 23 20 _ fc rfl rfl rfl _ _ (Or.inr ⟨j, hj, hkj, hfk⟩) sz) dX11_hang_2 rfl rfl (by decide) rfl hl.1 (Nat.le_of_ble_eq_true rfl) hP hD hS hA (q0 := 23) rfl (by decide) rfl (fun H locs hP hS => ?_)
    refine W.eq (g2 := F0 m 5 ls [.ref kk]) rfl ?_
    refine lv_astore_n (lv' := [(2, .ref kk), (0, .ref h0), (1, .int k)]) hx hb dX11_hang_5 rfl hl (by decide) rfl (fun ls hl => ?_)
    refine lv_aload_n hx hb dX11_hang_6 rfl (lv_at hl 0 rfl) ?_
    refine lv_ifnull hx hb dX11_hang_7 ?_
    refine lv_aload_n hx hb dX11_hang_10 rfl (lv_at hl 0 rfl) ?_
    refine r_get hF ci_X2 fl_X11_112 dX11_hang_11 hP he0 rfl ?_
    refine lv_if_ne (tgt := 19) hx hb dX11_hang_14 rfl (fun h => absurd h (by decide)) (fun _ => ?_)
    refine lv_iconst (v := 0) hx hb dX11_hang_17 (by decide) ?_
    exact r_retA hF hr hlk rfl dX11_hang_18 hS rfl
set_option maxRecDepth 100000 in
set_option maxHeartbeats 4000000 in
theorem c_X11_isOpen (l : Launch) (D : va_G) (t : Nat → ClassId) (d : Nat) (h0 : Nat) (a : Nat → Nat) (fc fl fd fw : Nat → Option Nat) (fr : Nat → Int32) (T : va_W) (hcn : connsIn t T fc 6) (k : Int32) (sz : Nat) : AI l D t yX11_isOpen cX11_isOpen 3 (some .boolean) ({ frames := 1, cells := 0, slots := 0, locals := 21 }) (hW t d h0 a fc fl fd fw fr T) sz [.ref h0, .int k] 0 := by
  refine go (by decide) (Nat.le_of_ble_eq_true rfl) ?_
  intro p e s m below meth c ls A hF hr hlk hin hsz hAe hP hD hS hA hl
  rw [hAe]
  clear hAe hsz
  have hF : FX p m c cX11_isOpen 3 s _ RX11 D t := hF
  have hx := hF.1.1
  have hb := hF.1.2.1
  have hls := hl.1
  have hl : lv_has ls 3 [(0, .ref h0), (1, .int k)] := hl
  rcases line_cases2 k with ⟨hko, hk⟩ | ⟨j, hj, hkj, hk⟩
  · refine lv_aload_n hx hb dX11_isOpen_0 rfl (lv_at hl 0 rfl) ?_
    refine lv_iload_n hx hb dX11_isOpen_1 rfl (lv_at hl 1 rfl) ?_
    refine r_cKQ (v := none) (As := [.int k]) (rest := []) hF mv_X11_108 ci_X11 (fun sz => c_X11_connection l D t (hW t d h0 a fc fl fd fw fr T) h0 _ 23 20 _ fc rfl rfl rfl _ _ (Or.inl ⟨hko, rfl⟩) sz) dX11_isOpen_2 rfl rfl (by decide) rfl hl.1 (Nat.le_of_ble_eq_true rfl) hP hD hS hA (q0 := 23) rfl (by decide) rfl (fun H locs hP hS => ?_)
    refine W.eq (g2 := F0 m 5 ls [.null]) rfl ?_
    refine lv_astore_nN (lv' := [(2, .null), (0, .ref h0), (1, .int k)]) hx hb dX11_isOpen_5 rfl hl (by decide) rfl (fun ls hl => ?_)
    refine lv_aload_nN hx hb dX11_isOpen_6 rfl (lv_at hl 0 rfl) ?_
    refine lv_ifnullN (tgt := 21) hx hb dX11_isOpen_7 rfl ?_
    refine lv_iconst (v := 0) hx hb dX11_isOpen_21 (by decide) ?_
    exact r_retA hF hr hlk rfl dX11_isOpen_22 hS rfl
  · obtain ⟨kk, kc, kcb, ks, ksb, kf, hfk, m0, m1, m2, m3⟩ := hcn j hj
    obtain ⟨q0, he0⟩ := List.getElem?_of_mem (l := (hW t d h0 a fc fl fd fw fr T)) (List.mem_append_right _ m0)
    obtain ⟨q1, he1⟩ := List.getElem?_of_mem (l := (hW t d h0 a fc fl fd fw fr T)) (List.mem_append_right _ m1)
    obtain ⟨q2, he2⟩ := List.getElem?_of_mem (l := (hW t d h0 a fc fl fd fw fr T)) (List.mem_append_right _ m2)
    obtain ⟨q3, he3⟩ := List.getElem?_of_mem (l := (hW t d h0 a fc fl fd fw fr T)) (List.mem_append_right _ m3)
    refine lv_aload_n hx hb dX11_isOpen_0 rfl (lv_at hl 0 rfl) ?_
    refine lv_iload_n hx hb dX11_isOpen_1 rfl (lv_at hl 1 rfl) ?_
    refine r_cKQ (v := (some kk)) (As := [.int k]) (rest := []) hF mv_X11_108 ci_X11 (fun sz => c_X11_connection l D t (hW t d h0 a fc fl fd fw fr T) h0 _ 23 20 _ fc rfl rfl rfl _ _ (Or.inr ⟨j, hj, hkj, hfk⟩) sz) dX11_isOpen_2 rfl rfl (by decide) rfl hl.1 (Nat.le_of_ble_eq_true rfl) hP hD hS hA (q0 := 23) rfl (by decide) rfl (fun H locs hP hS => ?_)
    refine W.eq (g2 := F0 m 5 ls [.ref kk]) rfl ?_
    refine lv_astore_n (lv' := [(2, .ref kk), (0, .ref h0), (1, .int k)]) hx hb dX11_isOpen_5 rfl hl (by decide) rfl (fun ls hl => ?_)
    refine lv_aload_n hx hb dX11_isOpen_6 rfl (lv_at hl 0 rfl) ?_
    refine lv_ifnull hx hb dX11_isOpen_7 ?_
    refine lv_aload_n hx hb dX11_isOpen_10 rfl (lv_at hl 0 rfl) ?_
    refine r_get hF ci_X2 fl_X11_112 dX11_isOpen_11 hP he0 rfl ?_
    refine lv_if_eq (tgt := 21) hx hb dX11_isOpen_14 rfl (fun _ => ?_) (fun h => absurd rfl h)
    refine lv_iconst (v := 0) hx hb dX11_isOpen_21 (by decide) ?_
    exact r_retA hF hr hlk rfl dX11_isOpen_22 hS rfl
set_option maxRecDepth 100000 in
set_option maxHeartbeats 4000000 in
theorem c_X11_connect (l : Launch) (D : va_G) (t : Nat → ClassId) (d : Nat) (h0 : Nat) (a : Nat → Nat) (fc fl fd fw : Nat → Option Nat) (fr : Nat → Int32) (T : va_W) (hcn : connsIn t T fc 6) (k : Int32) (sz : Nat) : AI l D t yX11_connect cX11_connect 3 (some .boolean) ({ frames := 1, cells := 0, slots := 0, locals := 21 }) (hW t d h0 a fc fl fd fw fr T) sz [.ref h0, .int k] (lineA k 1 0) := by
  refine go (by decide) (Nat.le_of_ble_eq_true rfl) ?_
  intro p e s m below meth c ls A hF hr hlk hin hsz hAe hP hD hS hA hl
  rw [hAe]
  clear hAe hsz
  have hF : FX p m c cX11_connect 3 s _ RX11 D t := hF
  have hx := hF.1.1
  have hb := hF.1.2.1
  have hls := hl.1
  have hl : lv_has ls 3 [(0, .ref h0), (1, .int k)] := hl
  rcases line_cases2 k with ⟨hko, hk⟩ | ⟨j, hj, hkj, hk⟩
  · refine lv_aload_n hx hb dX11_connect_0 rfl (lv_at hl 0 rfl) ?_
    refine lv_iload_n hx hb dX11_connect_1 rfl (lv_at hl 1 rfl) ?_
    refine r_cKQ (v := none) (As := [.int k]) (rest := []) hF mv_X11_108 ci_X11 (fun sz => c_X11_connection l D t (hW t d h0 a fc fl fd fw fr T) h0 _ 23 20 _ fc rfl rfl rfl _ _ (Or.inl ⟨hko, rfl⟩) sz) dX11_connect_2 rfl rfl (by decide) rfl hl.1 (Nat.le_of_ble_eq_true rfl) hP hD hS hA (q0 := 23) rfl (by decide) rfl (fun H locs hP hS => ?_)
    refine W.eq (g2 := F0 m 5 ls [.null]) rfl ?_
    refine lv_astore_nN (lv' := [(2, .null), (0, .ref h0), (1, .int k)]) hx hb dX11_connect_5 rfl hl (by decide) rfl (fun ls hl => ?_)
    refine lv_aload_nN hx hb dX11_connect_6 rfl (lv_at hl 0 rfl) ?_
    refine lv_ifnullN (tgt := 17) hx hb dX11_connect_7 rfl ?_
    refine lv_iconst (v := 0) hx hb dX11_connect_17 (by decide) ?_
    exact r_retA hF hr hlk rfl dX11_connect_18 hS (hk 1 0).symm
  · obtain ⟨kk, kc, kcb, ks, ksb, kf, hfk, m0, m1, m2, m3⟩ := hcn j hj
    obtain ⟨q0, he0⟩ := List.getElem?_of_mem (l := (hW t d h0 a fc fl fd fw fr T)) (List.mem_append_right _ m0)
    obtain ⟨q1, he1⟩ := List.getElem?_of_mem (l := (hW t d h0 a fc fl fd fw fr T)) (List.mem_append_right _ m1)
    obtain ⟨q2, he2⟩ := List.getElem?_of_mem (l := (hW t d h0 a fc fl fd fw fr T)) (List.mem_append_right _ m2)
    obtain ⟨q3, he3⟩ := List.getElem?_of_mem (l := (hW t d h0 a fc fl fd fw fr T)) (List.mem_append_right _ m3)
    refine lv_aload_n hx hb dX11_connect_0 rfl (lv_at hl 0 rfl) ?_
    refine lv_iload_n hx hb dX11_connect_1 rfl (lv_at hl 1 rfl) ?_
    refine r_cKQ (v := (some kk)) (As := [.int k]) (rest := []) hF mv_X11_108 ci_X11 (fun sz => c_X11_connection l D t (hW t d h0 a fc fl fd fw fr T) h0 _ 23 20 _ fc rfl rfl rfl _ _ (Or.inr ⟨j, hj, hkj, hfk⟩) sz) dX11_connect_2 rfl rfl (by decide) rfl hl.1 (Nat.le_of_ble_eq_true rfl) hP hD hS hA (q0 := 23) rfl (by decide) rfl (fun H locs hP hS => ?_)
    refine W.eq (g2 := F0 m 5 ls [.ref kk]) rfl ?_
    refine lv_astore_n (lv' := [(2, .ref kk), (0, .ref h0), (1, .int k)]) hx hb dX11_connect_5 rfl hl (by decide) rfl (fun ls hl => ?_)
    refine lv_aload_n hx hb dX11_connect_6 rfl (lv_at hl 0 rfl) ?_
    refine lv_ifnull hx hb dX11_connect_7 ?_
    refine lv_aload_n hx hb dX11_connect_10 rfl (lv_at hl 0 rfl) ?_
    refine r_get hF ci_X2 fl_X11_112 dX11_connect_11 hP he0 rfl ?_
    refine lv_if_eq (tgt := 19) hx hb dX11_connect_14 rfl (fun _ => ?_) (fun h => absurd rfl h)
    refine lv_aload_n hx hb dX11_connect_19 rfl (lv_at hl 0 rfl) ?_
    refine r_cAV (As := []) (rest := []) hF mv_X11_116 ci_X2 (fun sz => c_X2_begin l D t (hW t d h0 a fc fl fd fw fr T) kk kc kcb ks ksb kf q0 q1 q2 he0 he1 he2 q3 he3 sz) dX11_connect_20 rfl rfl (by decide) rfl hl.1 (Nat.le_of_ble_eq_true rfl) hP hD hS hA he0 (by decide) rfl (fun H locs hS => ?_)
    refine lv_iconst (v := 1) hx hb dX11_connect_23 (by decide) ?_
    exact r_retA hF hr hlk rfl dX11_connect_24 hS (hk 1 0).symm
set_option maxRecDepth 100000 in
set_option maxHeartbeats 4000000 in
theorem c_X11_come (l : Launch) (D : va_G) (t : Nat → ClassId) (d : Nat) (h0 : Nat) (a : Nat → Nat) (fc fl fd fw : Nat → Option Nat) (fr : Nat → Int32) (T : va_W) (hcn : connsIn t T fc 6) (k : Int32) (sz : Nat) : AI l D t yX11_come cX11_come 9 (some .int) ({ frames := 1, cells := 0, slots := 0, locals := 21 }) (hW t d h0 a fc fl fd fw fr T) sz [.ref h0, .int k] (-1) := by
  refine go (by decide) (Nat.le_of_ble_eq_true rfl) ?_
  intro p e s m below meth c ls A hF hr hlk hin hsz hAe hP hD hS hA hl
  rw [hAe]
  clear hAe hsz
  have hF : FX p m c cX11_come 9 s _ RX11 D t := hF
  have hx := hF.1.1
  have hb := hF.1.2.1
  have hls := hl.1
  have hl : lv_has ls 9 [(0, .ref h0), (1, .int k)] := hl
  rcases line_cases2 k with ⟨hko, hk⟩ | ⟨j, hj, hkj, hk⟩
  · refine lv_aload_n hx hb dX11_come_0 rfl (lv_at hl 0 rfl) ?_
    refine r_get hF ci_X11 fl_X11_10 dX11_come_1 hP (q0 := 23) rfl rfl ?_
    refine r_get hF ci_X6 fl_X11_85 dX11_come_4 hP (q0 := 22) rfl rfl ?_
    refine lv_aload_n hx hb dX11_come_7 rfl (lv_at hl 0 rfl) ?_
    refine r_get hF ci_X11 fl_X11_10 dX11_come_8 hP (q0 := 23) rfl rfl ?_
    refine r_get hF ci_X6 fl_X11_126 dX11_come_11 hP (q0 := 22) rfl rfl ?_
    refine r_alen (v := 64) hF dX11_come_14 hP (q0 := 21) rfl (t0 := 0) rfl rfl ?_
    refine va_mmin hx hb (hF.1.2.2.1.trans hl.1.symm) hF.1.2.2.2.1 (hF.1.2.2.2.2 _ (wb 239 rfl)) (hF.1.2.2.2.2 _ (wb 176 rfl)) (hF.1.2.2.2.2 _ (wb 81 rfl)) (hF.1.2.2.2.2 _ (wb 175 rfl)) (by decide) (Nat.le_of_ble_eq_true rfl) (by decide) (by decide) dX11_come_15 ?_
    refine W.eq (g2 := F0 m 18 ls [.int 0]) rfl ?_
    refine lv_istore_n (lv' := [(2, .int 0), (0, .ref h0), (1, .int k)]) hx hb dX11_come_18 rfl hl (by decide) rfl (fun ls hl => ?_)
    refine lv_aload_n hx hb dX11_come_19 rfl (lv_at hl 1 rfl) ?_
    refine r_get hF ci_X11 fl_X11_10 dX11_come_20 hP (q0 := 23) rfl rfl ?_
    refine lv_iconst (v := 0) hx hb dX11_come_23 (by decide) ?_
    refine r_put0 hF ci_X6 fl_X11_85 dX11_come_24 hP hD hS (q0 := 22) rfl rfl rfl rfl rfl (fun H locs hP hS => ?_)
    refine lv_aload_n hx hb dX11_come_27 rfl (lv_at hl 1 rfl) ?_
    refine lv_iload_n hx hb dX11_come_28 rfl (lv_at hl 2 rfl) ?_
    refine r_cKQ (v := none) (As := [.int k]) (rest := []) hF mv_X11_108 ci_X11 (fun sz => c_X11_connection l D t (hW t d h0 a fc fl fd fw fr T) h0 _ 23 20 _ fc rfl rfl rfl _ _ (Or.inl ⟨hko, rfl⟩) sz) dX11_come_29 rfl rfl (by decide) rfl hl.1 (Nat.le_of_ble_eq_true rfl) hP hD hS hA (q0 := 23) rfl (by decide) rfl (fun H locs hP hS => ?_)
    refine W.eq (g2 := F0 m 32 ls [.null]) rfl ?_
    refine lv_astore_nN (lv' := [(3, .null), (2, .int 0), (0, .ref h0), (1, .int k)]) hx hb dX11_come_32 rfl hl (by decide) rfl (fun ls hl => ?_)
    refine lv_aload_nN hx hb dX11_come_33 rfl (lv_at hl 0 rfl) ?_
    refine lv_ifnullN (tgt := 44) hx hb dX11_come_34 rfl ?_
    refine lv_iconst (v := (-1)) hx hb dX11_come_44 (by decide) ?_
    exact r_retA hF hr hlk rfl dX11_come_45 hS rfl
  · obtain ⟨kk, kc, kcb, ks, ksb, kf, hfk, m0, m1, m2, m3⟩ := hcn j hj
    obtain ⟨q0, he0⟩ := List.getElem?_of_mem (l := (hW t d h0 a fc fl fd fw fr T)) (List.mem_append_right _ m0)
    obtain ⟨q1, he1⟩ := List.getElem?_of_mem (l := (hW t d h0 a fc fl fd fw fr T)) (List.mem_append_right _ m1)
    obtain ⟨q2, he2⟩ := List.getElem?_of_mem (l := (hW t d h0 a fc fl fd fw fr T)) (List.mem_append_right _ m2)
    obtain ⟨q3, he3⟩ := List.getElem?_of_mem (l := (hW t d h0 a fc fl fd fw fr T)) (List.mem_append_right _ m3)
    refine lv_aload_n hx hb dX11_come_0 rfl (lv_at hl 0 rfl) ?_
    refine r_get hF ci_X11 fl_X11_10 dX11_come_1 hP (q0 := 23) rfl rfl ?_
    refine r_get hF ci_X6 fl_X11_85 dX11_come_4 hP (q0 := 22) rfl rfl ?_
    refine lv_aload_n hx hb dX11_come_7 rfl (lv_at hl 0 rfl) ?_
    refine r_get hF ci_X11 fl_X11_10 dX11_come_8 hP (q0 := 23) rfl rfl ?_
    refine r_get hF ci_X6 fl_X11_126 dX11_come_11 hP (q0 := 22) rfl rfl ?_
    refine r_alen (v := 64) hF dX11_come_14 hP (q0 := 21) rfl (t0 := 0) rfl rfl ?_
    refine va_mmin hx hb (hF.1.2.2.1.trans hl.1.symm) hF.1.2.2.2.1 (hF.1.2.2.2.2 _ (wb 239 rfl)) (hF.1.2.2.2.2 _ (wb 176 rfl)) (hF.1.2.2.2.2 _ (wb 81 rfl)) (hF.1.2.2.2.2 _ (wb 175 rfl)) (by decide) (Nat.le_of_ble_eq_true rfl) (by decide) (by decide) dX11_come_15 ?_
    refine W.eq (g2 := F0 m 18 ls [.int 0]) rfl ?_
    refine lv_istore_n (lv' := [(2, .int 0), (0, .ref h0), (1, .int k)]) hx hb dX11_come_18 rfl hl (by decide) rfl (fun ls hl => ?_)
    refine lv_aload_n hx hb dX11_come_19 rfl (lv_at hl 1 rfl) ?_
    refine r_get hF ci_X11 fl_X11_10 dX11_come_20 hP (q0 := 23) rfl rfl ?_
    refine lv_iconst (v := 0) hx hb dX11_come_23 (by decide) ?_
    refine r_put0 hF ci_X6 fl_X11_85 dX11_come_24 hP hD hS (q0 := 22) rfl rfl rfl rfl rfl (fun H locs hP hS => ?_)
    refine lv_aload_n hx hb dX11_come_27 rfl (lv_at hl 1 rfl) ?_
    refine lv_iload_n hx hb dX11_come_28 rfl (lv_at hl 2 rfl) ?_
    refine r_cKQ (v := (some kk)) (As := [.int k]) (rest := []) hF mv_X11_108 ci_X11 (fun sz => c_X11_connection l D t (hW t d h0 a fc fl fd fw fr T) h0 _ 23 20 _ fc rfl rfl rfl _ _ (Or.inr ⟨j, hj, hkj, hfk⟩) sz) dX11_come_29 rfl rfl (by decide) rfl hl.1 (Nat.le_of_ble_eq_true rfl) hP hD hS hA (q0 := 23) rfl (by decide) rfl (fun H locs hP hS => ?_)
    refine W.eq (g2 := F0 m 32 ls [.ref kk]) rfl ?_
    refine lv_astore_n (lv' := [(3, .ref kk), (2, .int 0), (0, .ref h0), (1, .int k)]) hx hb dX11_come_32 rfl hl (by decide) rfl (fun ls hl => ?_)
    refine lv_aload_n hx hb dX11_come_33 rfl (lv_at hl 0 rfl) ?_
    refine lv_ifnull hx hb dX11_come_34 ?_
    refine lv_aload_n hx hb dX11_come_37 rfl (lv_at hl 0 rfl) ?_
    refine r_get hF ci_X2 fl_X11_112 dX11_come_38 hP he0 rfl ?_
    refine lv_if_ne (tgt := 46) hx hb dX11_come_41 rfl (fun h => absurd h (by decide)) (fun _ => ?_)
    refine lv_iconst (v := (-1)) hx hb dX11_come_44 (by decide) ?_
    exact r_retA hF hr hlk rfl dX11_come_45 hS rfl
set_option maxRecDepth 100000 in
set_option maxHeartbeats 4000000 in
theorem c_X11_cut (l : Launch) (D : va_G) (t : Nat → ClassId) (d : Nat) (h0 : Nat) (a : Nat → Nat) (fc fl fd fw : Nat → Option Nat) (fr : Nat → Int32) (T : va_W) (k : Int32) (sz : Nat) : AI l D t yX11_cut cX11_cut 3 (some .int) ({ frames := 0, cells := 0, slots := 0, locals := 0 }) (hW t d h0 a fc fl fd fw fr T) sz [.ref h0, .int k] (tapeA k) := by
  refine go (by decide) (Nat.le_of_ble_eq_true rfl) ?_
  intro p e s m below meth c ls A hF hr hlk hin hsz hAe hP hD hS hA hl
  rw [hAe]
  clear hAe hsz
  have hF : FX p m c cX11_cut 3 s _ RX11 D t := hF
  have hx := hF.1.1
  have hb := hF.1.2.1
  have hls := hl.1
  have hl : lv_has ls 3 [(0, .ref h0), (1, .int k)] := hl
  refine lv_iload_n hx hb dX11_cut_0 rfl (lv_at hl 1 rfl) ?_
  refine lv_if_lt (tgt := 15) hx hb dX11_cut_1 rfl (fun h1 => ?_) (fun h1 => ?_)
  · refine lv_iconst (v := (-1)) hx hb dX11_cut_15 (by decide) ?_
    exact r_retA hF hr hlk rfl dX11_cut_16 hS (by unfold tapeA; rw [if_neg (fun z => by subst z; exact absurd h1 (by decide))])
  · refine lv_iload_n hx hb dX11_cut_4 rfl (lv_at hl 1 rfl) ?_
    refine lv_aload_n hx hb dX11_cut_5 rfl (lv_at hl 0 rfl) ?_
    refine r_get hF ci_X11 fl_X11_10 dX11_cut_6 hP (q0 := 23) rfl rfl ?_
    refine r_get hF ci_X6 fl_X11_85 dX11_cut_9 hP (q0 := 22) rfl rfl ?_
    refine lv_icmp_le (tgt := 17) hx hb dX11_cut_12 rfl (fun h2 => ?_) (fun h2 => ?_)
    · have hk0 : k = 0 := by rcases pk_ix k (n := 1) (by decide) with h3 | h3 | ⟨j3, hj3, e3⟩; exact absurd h3 h1; exact absurd (Int32.le_trans h3 h2) (by decide); exact (by have z3 : j3 = 0 := (by omega); subst z3; exact e3)
      subst hk0
      refine lv_aload_n hx hb dX11_cut_17 rfl (lv_at hl 0 rfl) ?_
      refine r_get hF ci_X11 fl_X11_10 dX11_cut_18 hP (q0 := 23) rfl rfl ?_
      refine r_get hF ci_X6 fl_X11_85 dX11_cut_21 hP (q0 := 22) rfl rfl ?_
      refine lv_iload_n hx hb dX11_cut_24 rfl (lv_at hl 1 rfl) ?_
      refine lv_isub hx hb dX11_cut_25 ?_
      refine lv_istore_n (lv' := [(2, .int (0 - 0)), (0, .ref h0), (1, .int 0)]) hx hb dX11_cut_26 rfl hl (by decide) rfl (fun ls hl => ?_)
      refine lv_aload_n hx hb dX11_cut_27 rfl (lv_at hl 1 rfl) ?_
      refine r_get hF ci_X11 fl_X11_10 dX11_cut_28 hP (q0 := 23) rfl rfl ?_
      refine lv_iload_n hx hb dX11_cut_31 rfl (lv_at hl 2 rfl) ?_
      refine r_put0 hF ci_X6 fl_X11_85 dX11_cut_32 hP hD hS (q0 := 22) rfl rfl rfl rfl rfl (fun H locs hP hS => ?_)
      refine lv_iload_n hx hb dX11_cut_35 rfl (lv_at hl 0 rfl) ?_
      exact r_retA hF hr hlk rfl dX11_cut_36 hS (by decide)
    · refine lv_iconst (v := (-1)) hx hb dX11_cut_15 (by decide) ?_
      exact r_retA hF hr hlk rfl dX11_cut_16 hS (by unfold tapeA; rw [if_neg (fun z => h2 (by rw [z]; exact Int32.le_refl 0))])
set_option maxRecDepth 100000 in
set_option maxHeartbeats 4000000 in
theorem c_X11_share (l : Launch) (D : va_G) (t : Nat → ClassId) (d : Nat) (h0 : Nat) (a : Nat → Nat) (fc fl fd fw : Nat → Option Nat) (fr : Nat → Int32) (T : va_W) (hfr : ∀ i, i < 4 → fr i = -1) (k : Int32) (sz : Nat) : AI l D t yX11_share cX11_share 3 (some .boolean) ({ frames := 1, cells := 0, slots := 0, locals := 23 }) (hW t d h0 a fc fl fd fw fr T) sz [.ref h0, .int k] 0 := by
  refine go (by decide) (Nat.le_of_ble_eq_true rfl) ?_
  intro p e s m below meth c ls A hF hr hlk hin hsz hAe hP hD hS hA hl
  rw [hAe]
  clear hAe hsz
  have hF : FX p m c cX11_share 3 s _ RX11 D t := hF
  have hx := hF.1.1
  have hb := hF.1.2.1
  have hls := hl.1
  have hl : lv_has ls 3 [(0, .ref h0), (1, .int k)] := hl
  refine lv_iload_n hx hb dX11_share_0 rfl (lv_at hl 1 rfl) ?_
  refine lv_if_lt (tgt := 66) hx hb dX11_share_1 rfl (fun h1 => ?_) (fun h1 => ?_)
  · refine lv_iconst (v := 0) hx hb dX11_share_66 (by decide) ?_
    refine lv_istore_n (lv' := [(2, .int 0), (0, .ref h0), (1, .int k)]) hx hb dX11_share_67 rfl hl (by decide) rfl (fun ls hl => ?_)
    refine lv_iload_n hx hb dX11_share_68 rfl (lv_at hl 0 rfl) ?_
    refine lv_if_eq (tgt := 82) hx hb dX11_share_69 rfl (fun _ => ?_) (fun h => absurd rfl h)
    refine lv_aload_n hx hb dX11_share_82 rfl (lv_at hl 1 rfl) ?_
    refine r_get hF ci_X11 fl_X11_10 dX11_share_83 hP (q0 := 23) rfl rfl ?_
    refine lv_iconst (v := 0) hx hb dX11_share_86 (by decide) ?_
    refine r_put0 hF ci_X6 fl_X11_85 dX11_share_87 hP hD hS (q0 := 22) rfl rfl rfl rfl rfl (fun H locs hP hS => ?_)
    refine lv_iload_n hx hb dX11_share_90 rfl (lv_at hl 0 rfl) ?_
    exact r_retA hF hr hlk rfl dX11_share_91 hS rfl
  · refine lv_iload_n hx hb dX11_share_4 rfl (lv_at hl 1 rfl) ?_
    refine lv_aload_n hx hb dX11_share_5 rfl (lv_at hl 0 rfl) ?_
    refine r_get hF ci_X11 fl_X11_22 dX11_share_6 hP (q0 := 23) rfl rfl ?_
    refine r_alen (v := 4) hF dX11_share_9 hP (q0 := 19) rfl (t0 := 1) rfl rfl ?_
    refine lv_icmp_ge (tgt := 66) hx hb dX11_share_10 rfl (fun h2 => ?_) (fun h2 => ?_)
    · refine lv_iconst (v := 0) hx hb dX11_share_66 (by decide) ?_
      refine lv_istore_n (lv' := [(2, .int 0), (0, .ref h0), (1, .int k)]) hx hb dX11_share_67 rfl hl (by decide) rfl (fun ls hl => ?_)
      refine lv_iload_n hx hb dX11_share_68 rfl (lv_at hl 0 rfl) ?_
      refine lv_if_eq (tgt := 82) hx hb dX11_share_69 rfl (fun _ => ?_) (fun h => absurd rfl h)
      refine lv_aload_n hx hb dX11_share_82 rfl (lv_at hl 1 rfl) ?_
      refine r_get hF ci_X11 fl_X11_10 dX11_share_83 hP (q0 := 23) rfl rfl ?_
      refine lv_iconst (v := 0) hx hb dX11_share_86 (by decide) ?_
      refine r_put0 hF ci_X6 fl_X11_85 dX11_share_87 hP hD hS (q0 := 22) rfl rfl rfl rfl rfl (fun H locs hP hS => ?_)
      refine lv_iload_n hx hb dX11_share_90 rfl (lv_at hl 0 rfl) ?_
      exact r_retA hF hr hlk rfl dX11_share_91 hS rfl
    · obtain ⟨j, hj, hkj⟩ : ∃ j : Nat, j < 4 ∧ k = nI j := by rcases pk_ix k (n := 4) (by decide) with h3 | h3 | h3; exact absurd h3 h1; exact absurd h3 h2; exact h3
      refine lv_aload_n hx hb dX11_share_13 rfl (lv_at hl 0 rfl) ?_
      refine r_get hF ci_X11 fl_X11_22 dX11_share_14 hP (q0 := 23) rfl rfl ?_
      refine lv_iload_n hx hb dX11_share_17 rfl (lv_at hl 1 rfl) ?_
      refine r_iald (v := (-1)) hF dX11_share_18 hP (q0 := 19) rfl (by rw [hkj]; exact vp_in_nI hj (by decide)) (by rw [hkj, nI_clamp (by omega)]; exact hfr j hj) ?_
      refine lv_iconst (v := (-1)) hx hb dX11_share_19 (by decide) ?_
      refine lv_icmp_ne (tgt := 66) hx hb dX11_share_20 rfl (fun h => absurd h (by decide)) (fun _ => ?_)
      refine lv_aload_n hx hb dX11_share_23 rfl (lv_at hl 0 rfl) ?_
      refine r_cKI (v := 0) (As := []) (rest := []) hF mv_X11_93 ci_X11 (fun sz => c_X11_tapeIsShareName l D t (hW t d h0 a fc fl fd fw fr T) h0 _ _ 23 22 _ rfl rfl rfl sz) dX11_share_24 rfl rfl (by decide) rfl hl.1 (Nat.le_of_ble_eq_true rfl) hP hD hS hA (q0 := 23) rfl (by decide) rfl (fun H locs hP hS => ?_)
      refine lv_if_eq (tgt := 66) hx hb dX11_share_27 rfl (fun _ => ?_) (fun h => absurd rfl h)
      refine lv_iconst (v := 0) hx hb dX11_share_66 (by decide) ?_
      refine lv_istore_n (lv' := [(2, .int 0), (0, .ref h0), (1, .int k)]) hx hb dX11_share_67 rfl hl (by decide) rfl (fun ls hl => ?_)
      refine lv_iload_n hx hb dX11_share_68 rfl (lv_at hl 0 rfl) ?_
      refine lv_if_eq (tgt := 82) hx hb dX11_share_69 rfl (fun _ => ?_) (fun h => absurd rfl h)
      refine lv_aload_n hx hb dX11_share_82 rfl (lv_at hl 1 rfl) ?_
      refine r_get hF ci_X11 fl_X11_10 dX11_share_83 hP (q0 := 23) rfl rfl ?_
      refine lv_iconst (v := 0) hx hb dX11_share_86 (by decide) ?_
      refine r_put0 hF ci_X6 fl_X11_85 dX11_share_87 hP hD hS (q0 := 22) rfl rfl rfl rfl rfl (fun H locs hP hS => ?_)
      refine lv_iload_n hx hb dX11_share_90 rfl (lv_at hl 0 rfl) ?_
      exact r_retA hF hr hlk rfl dX11_share_91 hS rfl
set_option maxRecDepth 100000 in
set_option maxHeartbeats 4000000 in
theorem c_X11_tick (l : Launch) (D : va_G) (t : Nat → ClassId) (d : Nat) (h0 : Nat) (a : Nat → Nat) (fc fl fd fw : Nat → Option Nat) (fr : Nat → Int32) (T : va_W) (k : Int32) (sz : Nat) : AI l D t yX11_tick cX11_tick 4 (some .boolean) ({ frames := 1, cells := 0, slots := 0, locals := 20 }) (hW t d h0 a fc fl fd fw fr T) sz [.ref h0, .int k] (tickA k) := by
  refine go (by decide) (Nat.le_of_ble_eq_true rfl) ?_
  intro p e s m below meth c ls A hF hr hlk hin hsz hAe hP hD hS hA hl
  rw [hAe]
  clear hAe hsz
  have hF : FX p m c cX11_tick 4 s _ RX11 D t := hF
  have hx := hF.1.1
  have hb := hF.1.2.1
  have hls := hl.1
  have hl : lv_has ls 4 [(0, .ref h0), (1, .int k)] := hl
  have hP : va_P D cl1 [(h0, .inr (1, [.ref (a 0), .ref (a 2), .ref (a 3), .ref (a 4), .ref (a 6), .ref (a 8), .int 0, .long 0, .ref (a 9), .ref (a 10), .ref (a 11), .ref (a 12), .ref (a 13), .ref (a 14), .ref (a 15), .ref (a 17), .ref (a 19), .ref (a 21)])), ((a 11), .inr (7, [.int 0, .ref d, .int 0]))] s.heap := hP.sub [23, 11] rfl
  have hD : va_D A [(h0, .inr (1, [.ref (a 0), .ref (a 2), .ref (a 3), .ref (a 4), .ref (a 6), .ref (a 8), .int 0, .long 0, .ref (a 9), .ref (a 10), .ref (a 11), .ref (a 12), .ref (a 13), .ref (a 14), .ref (a 15), .ref (a 17), .ref (a 19), .ref (a 21)])), ((a 11), .inr (7, [.int 0, .ref d, .int 0]))] := hD.sub [23, 11] (by decide) rfl
  refine lv_iload_n hx hb dX11_tick_0 rfl (lv_at hl 1 rfl) ?_
  refine lv_if_lt (tgt := 10) hx hb dX11_tick_1 rfl (fun h1 => ?_) (fun h1 => ?_)
  · refine lv_iconst (v := 0) hx hb dX11_tick_10 (by decide) ?_
    exact r_retA hF hr hlk rfl dX11_tick_11 hS (by unfold tickA; rw [if_pos h1])
  · refine lv_iload_n hx hb dX11_tick_4 rfl (lv_at hl 1 rfl) ?_
    refine lv_ldc (v := 1000000) hx hb hF.1.2.2.2.1 (hF.1.2.2.2.2 _ (wb 240 rfl)) dX11_tick_5 ?_
    refine lv_icmp_le (tgt := 12) hx hb dX11_tick_7 rfl (fun h2 => ?_) (fun h2 => ?_)
    · refine lv_aload_n hx hb dX11_tick_12 rfl (lv_at hl 0 rfl) ?_
      refine lv_dup hx hb dX11_tick_13 rfl ?_
      refine r_get hF ci_X11 fl_X11_157 dX11_tick_14 hP (q0 := 0) rfl rfl ?_
      refine lv_iload_n hx hb dX11_tick_17 rfl (lv_at hl 1 rfl) ?_
      refine lv_i2l (v := k.toInt64) hx hb dX11_tick_18 rfl ?_
      refine lv_ladd hx hb dX11_tick_19 ?_
      refine r_put hF ci_X11 fl_X11_157 dX11_tick_20 hP hD hS (q0 := 0) rfl rfl rfl rfl (Nat.le_of_ble_eq_true rfl) (fun H locs hP hD hS => ?_)
      replace hP : va_P D cl1 ([(h0, .inr (1, [.ref (a 0), .ref (a 2), .ref (a 3), .ref (a 4), .ref (a 6), .ref (a 8), .int 0, .long (0 + k.toInt64), .ref (a 9), .ref (a 10), .ref (a 11), .ref (a 12), .ref (a 13), .ref (a 14), .ref (a 15), .ref (a 17), .ref (a 19), .ref (a 21)])), ((a 11), .inr (7, [.int 0, .ref d, .int 0]))]) H := hP
      replace hD : va_D A ([(h0, .inr (1, [.ref (a 0), .ref (a 2), .ref (a 3), .ref (a 4), .ref (a 6), .ref (a 8), .int 0, .long (0 + k.toInt64), .ref (a 9), .ref (a 10), .ref (a 11), .ref (a 12), .ref (a 13), .ref (a 14), .ref (a 15), .ref (a 17), .ref (a 19), .ref (a 21)])), ((a 11), .inr (7, [.int 0, .ref d, .int 0]))]) := hD
      refine lv_iconst (v := 0) hx hb dX11_tick_23 (by decide) ?_
      refine lv_istore_n (lv' := [(2, .int 0), (0, .ref h0), (1, .int k)]) hx hb dX11_tick_24 rfl hl (by decide) rfl (fun ls hl => ?_)
      refine lv_iload_n hx hb dX11_tick_25 rfl (lv_at hl 0 rfl) ?_
      refine lv_aload_n hx hb dX11_tick_26 rfl (lv_at hl 1 rfl) ?_
      refine r_get hF ci_X11 fl_X11_52 dX11_tick_27 hP (q0 := 0) rfl rfl ?_
      refine r_cKI (v := 0) (As := []) (rest := [.int 0]) hF mv_X11_161 ci_Jx4a65c (fun sz => c_Jx4a65c_size_8abf5 l D t _ _ 1 _ _ rfl sz) dX11_tick_30 rfl rfl (by decide) rfl hl.1 (Nat.le_of_ble_eq_true rfl) hP hD hS hA (q0 := 1) rfl (by decide) rfl (fun H locs hP hS => ?_)
      refine lv_icmp_ge (tgt := 87) hx hb dX11_tick_33 rfl (fun _ => ?_) (fun h => absurd (by decide) h)
      refine lv_iconst (v := 1) hx hb dX11_tick_87 (by decide) ?_
      exact r_retA hF hr hlk rfl dX11_tick_88 hS (by unfold tickA; rw [if_neg h1, if_neg (Int32.not_lt.mpr h2)])
    · refine lv_iconst (v := 0) hx hb dX11_tick_10 (by decide) ?_
      exact r_retA hF hr hlk rfl dX11_tick_11 hS (by unfold tickA; rw [if_neg h1, if_pos (Int32.not_le.mp h2)])
set_option maxRecDepth 100000 in
set_option maxHeartbeats 4000000 in
theorem c_X11_told (l : Launch) (D : va_G) (t : Nat → ClassId) (d : Nat) (h0 : Nat) (a : Nat → Nat) (fc fl fd fw : Nat → Option Nat) (fr : Nat → Int32) (T : va_W) (k : Int32) (sz : Nat) : AI l D t yX11_told cX11_told 2 (some .int) ({ frames := 1, cells := 0, slots := 0, locals := 20 }) (hW t d h0 a fc fl fd fw fr T) sz [.ref h0, .int k] (toldA k) := by
  refine go (by decide) (Nat.le_of_ble_eq_true rfl) ?_
  intro p e s m below meth c ls A hF hr hlk hin hsz hAe hP hD hS hA hl
  rw [hAe]
  clear hAe hsz
  have hF : FX p m c cX11_told 2 s _ RX11 D t := hF
  have hx := hF.1.1
  have hb := hF.1.2.1
  have hls := hl.1
  have hl : lv_has ls 2 [(0, .ref h0), (1, .int k)] := hl
  rcases pk_ix k (n := 9) (by decide) with h1 | h1 | ⟨j, hj, hkj⟩
  · have hk : toldA k = -1 := by unfold toldA; rw [if_pos h1]
    refine lv_iload_n hx hb dX11_told_0 rfl (lv_at hl 1 rfl) ?_
    refine lv_tableOut (tgt := 119) hx hb dX11_told_1 (Or.inl (Int32.lt_iff_toInt_lt.mp h1)) rfl ?_
    refine lv_iconst (v := (-1)) hx hb dX11_told_119 (by decide) ?_
    exact r_retA hF hr hlk rfl dX11_told_120 hS hk.symm
  · have h8 : (8 : Int32) < k := Int32.lt_of_lt_of_le (by decide) h1
    have hk : toldA k = -1 := by unfold toldA; rw [if_pos h8]; exact ite_self _
    refine lv_iload_n hx hb dX11_told_0 rfl (lv_at hl 1 rfl) ?_
    refine lv_tableOut (tgt := 119) hx hb dX11_told_1 (Or.inr (Int32.lt_iff_toInt_lt.mp h8)) rfl ?_
    refine lv_iconst (v := (-1)) hx hb dX11_told_119 (by decide) ?_
    exact r_retA hF hr hlk rfl dX11_told_120 hS hk.symm
  · rcases (show j = 0 ∨ j = 1 ∨ j = 2 ∨ j = 3 ∨ j = 4 ∨ j = 5 ∨ j = 6 ∨ j = 7 ∨ j = 8 by omega) with z | z | z | z | z | z | z | z | z
    · subst z
      subst hkj
      refine lv_iload_n hx hb dX11_told_0 rfl (lv_at hl 1 rfl) ?_
      refine lv_tableIn (off := 51) (tgt := 52) hx hb dX11_told_1 (by decide) (by decide) rfl rfl ?_
      refine lv_aload_n hx hb dX11_told_52 rfl (lv_at hl 0 rfl) ?_
      refine r_get hF ci_X11 fl_X11_157 dX11_told_53 hP (q0 := 23) rfl rfl ?_
      refine lv_l2i (v := 0) hx hb dX11_told_56 (by decide) ?_
      exact r_retA hF hr hlk rfl dX11_told_57 hS (by decide)
    · subst z
      subst hkj
      refine lv_iload_n hx hb dX11_told_0 rfl (lv_at hl 1 rfl) ?_
      refine lv_tableIn (off := 57) (tgt := 58) hx hb dX11_told_1 (by decide) (by decide) rfl rfl ?_
      refine lv_aload_n hx hb dX11_told_58 rfl (lv_at hl 0 rfl) ?_
      refine r_get hF ci_X11 fl_X11_182 dX11_told_59 hP (q0 := 23) rfl rfl ?_
      exact r_retA hF hr hlk rfl dX11_told_62 hS (by decide)
    · subst z
      subst hkj
      refine lv_iload_n hx hb dX11_told_0 rfl (lv_at hl 1 rfl) ?_
      refine lv_tableIn (off := 62) (tgt := 63) hx hb dX11_told_1 (by decide) (by decide) rfl rfl ?_
      refine lv_aload_n hx hb dX11_told_63 rfl (lv_at hl 0 rfl) ?_
      refine r_get hF ci_X11 fl_X11_29 dX11_told_64 hP (q0 := 23) rfl rfl ?_
      refine r_get hF ci_X9 fl_X11_101 dX11_told_67 hP (q0 := 18) rfl rfl ?_
      exact r_retA hF hr hlk rfl dX11_told_70 hS (by decide)
    · subst z
      subst hkj
      refine lv_iload_n hx hb dX11_told_0 rfl (lv_at hl 1 rfl) ?_
      refine lv_tableIn (off := 70) (tgt := 71) hx hb dX11_told_1 (by decide) (by decide) rfl rfl ?_
      refine lv_aload_n hx hb dX11_told_71 rfl (lv_at hl 0 rfl) ?_
      refine r_get hF ci_X11 fl_X11_52 dX11_told_72 hP (q0 := 23) rfl rfl ?_
      refine r_cKI (v := 0) (As := []) (rest := []) hF mv_X11_161 ci_Jx4a65c (fun sz => c_Jx4a65c_size_8abf5 l D t (hW t d h0 a fc fl fd fw fr T) _ 11 _ _ rfl sz) dX11_told_75 rfl rfl (by decide) rfl hl.1 (Nat.le_of_ble_eq_true rfl) hP hD hS hA (q0 := 11) rfl (by decide) rfl (fun H locs hP hS => ?_)
      exact r_retA hF hr hlk rfl dX11_told_78 hS (by decide)
    · subst z
      subst hkj
      refine lv_iload_n hx hb dX11_told_0 rfl (lv_at hl 1 rfl) ?_
      refine lv_tableIn (off := 78) (tgt := 79) hx hb dX11_told_1 (by decide) (by decide) rfl rfl ?_
      refine lv_aload_n hx hb dX11_told_79 rfl (lv_at hl 0 rfl) ?_
      refine r_get hF ci_X11 fl_X11_55 dX11_told_80 hP (q0 := 23) rfl rfl ?_
      refine r_cKI (v := 0) (As := []) (rest := []) hF mv_X11_161 ci_Jx4a65c (fun sz => c_Jx4a65c_size_8abf5 l D t (hW t d h0 a fc fl fd fw fr T) _ 10 _ _ rfl sz) dX11_told_83 rfl rfl (by decide) rfl hl.1 (Nat.le_of_ble_eq_true rfl) hP hD hS hA (q0 := 10) rfl (by decide) rfl (fun H locs hP hS => ?_)
      exact r_retA hF hr hlk rfl dX11_told_86 hS (by decide)
    · subst z
      subst hkj
      refine lv_iload_n hx hb dX11_told_0 rfl (lv_at hl 1 rfl) ?_
      refine lv_tableIn (off := 86) (tgt := 87) hx hb dX11_told_1 (by decide) (by decide) rfl rfl ?_
      refine lv_aload_n hx hb dX11_told_87 rfl (lv_at hl 0 rfl) ?_
      refine r_get hF ci_X11 fl_X11_58 dX11_told_88 hP (q0 := 23) rfl rfl ?_
      refine r_cKI (v := 0) (As := []) (rest := []) hF mv_X11_161 ci_Jx4a65c (fun sz => c_Jx4a65c_size_8abf5 l D t (hW t d h0 a fc fl fd fw fr T) _ 9 _ _ rfl sz) dX11_told_91 rfl rfl (by decide) rfl hl.1 (Nat.le_of_ble_eq_true rfl) hP hD hS hA (q0 := 9) rfl (by decide) rfl (fun H locs hP hS => ?_)
      exact r_retA hF hr hlk rfl dX11_told_94 hS (by decide)
    · subst z
      subst hkj
      refine lv_iload_n hx hb dX11_told_0 rfl (lv_at hl 1 rfl) ?_
      refine lv_tableIn (off := 94) (tgt := 95) hx hb dX11_told_1 (by decide) (by decide) rfl rfl ?_
      refine lv_aload_n hx hb dX11_told_95 rfl (lv_at hl 0 rfl) ?_
      refine r_get hF ci_X11 fl_X11_45 dX11_told_96 hP (q0 := 23) rfl rfl ?_
      refine r_cKI (v := 0) (As := []) (rest := []) hF mv_X11_161 ci_Jx4a65c (fun sz => c_Jx4a65c_size_8abf5 l D t (hW t d h0 a fc fl fd fw fr T) _ 13 _ _ rfl sz) dX11_told_99 rfl rfl (by decide) rfl hl.1 (Nat.le_of_ble_eq_true rfl) hP hD hS hA (q0 := 13) rfl (by decide) rfl (fun H locs hP hS => ?_)
      exact r_retA hF hr hlk rfl dX11_told_102 hS (by decide)
    · subst z
      subst hkj
      refine lv_iload_n hx hb dX11_told_0 rfl (lv_at hl 1 rfl) ?_
      refine lv_tableIn (off := 102) (tgt := 103) hx hb dX11_told_1 (by decide) (by decide) rfl rfl ?_
      refine lv_aload_n hx hb dX11_told_103 rfl (lv_at hl 0 rfl) ?_
      refine r_get hF ci_X11 fl_X11_49 dX11_told_104 hP (q0 := 23) rfl rfl ?_
      refine r_cKI (v := 0) (As := []) (rest := []) hF mv_X11_161 ci_Jx4a65c (fun sz => c_Jx4a65c_size_8abf5 l D t (hW t d h0 a fc fl fd fw fr T) _ 12 _ _ rfl sz) dX11_told_107 rfl rfl (by decide) rfl hl.1 (Nat.le_of_ble_eq_true rfl) hP hD hS hA (q0 := 12) rfl (by decide) rfl (fun H locs hP hS => ?_)
      exact r_retA hF hr hlk rfl dX11_told_110 hS (by decide)
    · subst z
      subst hkj
      refine lv_iload_n hx hb dX11_told_0 rfl (lv_at hl 1 rfl) ?_
      refine lv_tableIn (off := 110) (tgt := 111) hx hb dX11_told_1 (by decide) (by decide) rfl rfl ?_
      refine lv_aload_n hx hb dX11_told_111 rfl (lv_at hl 0 rfl) ?_
      refine r_get hF ci_X11 fl_X11_33 dX11_told_112 hP (q0 := 23) rfl rfl ?_
      refine r_get hF ci_X9 fl_X11_101 dX11_told_115 hP (q0 := 16) rfl rfl ?_
      exact r_retA hF hr hlk rfl dX11_told_118 hS (by decide)
end
section
abbrev rW (t : Nat → ClassId) (z : Nat × va_E) (r b n : Nat) (f : Nat → Int32) : va_W := [z, (r, .inr (2, [.ref b, .int (nI n)])), (b, .inl (t 0, 64, .inl f))]
def rI (t : Nat → ClassId) (z : Nat × va_E) (r b n : Nat) (w1 : va_W) : Prop := ∃ f : Nat → Int32, w1 = rW t z r b n f
set_option maxRecDepth 100000 in
set_option maxHeartbeats 4000000 in
theorem c_X6_add (l : Launch) (D : va_G) (t : Nat → ClassId) (z : Nat × va_E) (r b n : Nat) (f : Nat → Int32) (hn : n < 64) (v : Int32) (sz : Nat) : WV l D t yX6_add cX6_add 2 ({ frames := 0, cells := 0, slots := 0, locals := 0 }) (rW t z r b n f) sz [.ref r, .int v] 0 0 (fun _ => True) (rI t z r b (n + 1)) := by
  refine goE (by decide) (Nat.le_of_ble_eq_true rfl) ?_
  intro p e s m below meth c ls A hF hr hlk hin hsz hAe hP hD hS hA hl hE
  rw [hAe]
  have hF : FX p m c cX6_add 2 s _ RX6 D t := hF
  have hx := hF.1.1
  have hb := hF.1.2.1
  have hl : lv_has ls 2 [(0, .ref r), (1, .int v)] := hl
  refine lv_aload_n hx hb dX6_add_0 rfl (lv_at hl 0 rfl) ?_
  refine r_get hF ci_X6 fl_X6_25 dX6_add_1 hP (q0 := 1) rfl rfl ?_
  refine lv_aload_n hx hb dX6_add_4 rfl (lv_at hl 0 rfl) ?_
  refine r_get hF ci_X6 fl_X6_7 dX6_add_5 hP (q0 := 1) rfl rfl ?_
  refine r_alen (v := 64) hF dX6_add_8 hP (q0 := 2) rfl (t0 := 0) rfl rfl ?_
  refine lv_icmp_lt (tgt := 32) hx hb dX6_add_9 rfl (fun _ => ?_) (fun h => absurd (nI_lt (b := 64) hn (by decide)) h)
  refine lv_aload_n hx hb dX6_add_32 rfl (lv_at hl 0 rfl) ?_
  refine r_get hF ci_X6 fl_X6_7 dX6_add_33 hP (q0 := 1) rfl rfl ?_
  refine lv_aload_n hx hb dX6_add_36 rfl (lv_at hl 0 rfl) ?_
  refine r_get hF ci_X6 fl_X6_25 dX6_add_37 hP (q0 := 1) rfl rfl ?_
  refine lv_iload_n hx hb dX6_add_40 rfl (lv_at hl 1 rfl) ?_
  refine lv_i2b hx hb dX6_add_41 rfl ?_
  refine r_bast hF dX6_add_42 hP hD hS (q0 := 2) rfl (vp_in_nI hn (by decide)) (fun H locs hP hD hS => ?_)
  refine lv_aload_n hx hb dX6_add_43 rfl (lv_at hl 0 rfl) ?_
  refine lv_dup hx hb dX6_add_44 rfl ?_
  refine r_get hF ci_X6 fl_X6_25 dX6_add_45 hP (q0 := 1) rfl rfl ?_
  refine lv_iconst (v := 1) hx hb dX6_add_48 (by decide) ?_
  refine lv_iadd hx hb dX6_add_49 ?_
  rw [show nI n + 1 = nI (n + 1) from nI_1 n]
  refine r_put hF ci_X6 fl_X6_25 dX6_add_50 hP hD hS (q0 := 1) rfl rfl rfl rfl (Nat.le_of_ble_eq_true rfl) (fun H locs hP hD hS => ?_)
  exact r_retW hF hr hlk dX6_add_53 hP hD hS ⟨_, rfl⟩
set_option maxRecDepth 100000 in
set_option maxHeartbeats 4000000 in
theorem c_X6_addH (l : Launch) (D : va_G) (t : Nat → ClassId) (z : Nat × va_E) (r b n : Nat) (f : Nat → Int32) (hn : n + 4 ≤ 64) (v : Int32) (sz : Nat) : WV l D t yX6_addHighestFirst cX6_addHighestFirst 2 ({ frames := 1, cells := 0, slots := 0, locals := 21 }) (rW t z r b n f) sz [.ref r, .int v] 0 0 (fun _ => True) (rI t z r b (n + 4)) := by
  refine goE (by decide) (Nat.le_of_ble_eq_true rfl) ?_
  intro p e s m below meth c ls A hF hr hlk hin hsz hAe hP hD hS hA hl hE
  rw [hAe]
  have hF : FX p m c cX6_addHighestFirst 2 s _ RX6 D t := hF
  have hx := hF.1.1
  have hb := hF.1.2.1
  have hl : lv_has ls 2 [(0, .ref r), (1, .int v)] := hl
  refine lv_aload_n hx hb dX6_addHighestFirst_0 rfl (lv_at hl 0 rfl) ?_
  refine lv_iload_n hx hb dX6_addHighestFirst_1 rfl (lv_at hl 1 rfl) ?_
  refine lv_bipush (v := 24) hx hb dX6_addHighestFirst_2 (by decide) ?_
  refine lv_ishr hx hb dX6_addHighestFirst_4 ?_
  refine r_cWV (As := [.int (v >>> (24 &&& 31))]) (rest := []) hF mv_X6_33 ci_X6 (c_X6_add l D t z r b n f (by omega) (v >>> (24 &&& 31)) _) dX6_addHighestFirst_5 rfl rfl (by decide) rfl hl.1 (Nat.le_of_ble_eq_true rfl) hP hD hS hA (q0 := 1) rfl (by decide) rfl (fun w1 H locs hI hP hD hS => ?_)
  obtain ⟨f, rfl⟩ := hI
  refine lv_aload_n hx hb dX6_addHighestFirst_8 rfl (lv_at hl 0 rfl) ?_
  refine lv_iload_n hx hb dX6_addHighestFirst_9 rfl (lv_at hl 1 rfl) ?_
  refine lv_bipush (v := 16) hx hb dX6_addHighestFirst_10 (by decide) ?_
  refine lv_ishr hx hb dX6_addHighestFirst_12 ?_
  refine r_cWV (As := [.int (v >>> (16 &&& 31))]) (rest := []) hF mv_X6_33 ci_X6 (c_X6_add l D t z r b (n + 1) f (by omega) (v >>> (16 &&& 31)) _) dX6_addHighestFirst_13 rfl rfl (by decide) rfl hl.1 (Nat.le_of_ble_eq_true rfl) hP hD hS hA (q0 := 1) rfl (by decide) rfl (fun w1 H locs hI hP hD hS => ?_)
  obtain ⟨f, rfl⟩ := hI
  refine lv_aload_n hx hb dX6_addHighestFirst_16 rfl (lv_at hl 0 rfl) ?_
  refine lv_iload_n hx hb dX6_addHighestFirst_17 rfl (lv_at hl 1 rfl) ?_
  refine lv_bipush (v := 8) hx hb dX6_addHighestFirst_18 (by decide) ?_
  refine lv_ishr hx hb dX6_addHighestFirst_20 ?_
  refine r_cWV (As := [.int (v >>> (8 &&& 31))]) (rest := []) hF mv_X6_33 ci_X6 (c_X6_add l D t z r b (n + 2) f (by omega) (v >>> (8 &&& 31)) _) dX6_addHighestFirst_21 rfl rfl (by decide) rfl hl.1 (Nat.le_of_ble_eq_true rfl) hP hD hS hA (q0 := 1) rfl (by decide) rfl (fun w1 H locs hI hP hD hS => ?_)
  obtain ⟨f, rfl⟩ := hI
  refine lv_aload_n hx hb dX6_addHighestFirst_24 rfl (lv_at hl 0 rfl) ?_
  refine lv_iload_n hx hb dX6_addHighestFirst_25 rfl (lv_at hl 1 rfl) ?_
  refine r_cWV (As := [.int v]) (rest := []) hF mv_X6_33 ci_X6 (c_X6_add l D t z r b (n + 3) f (by omega) v _) dX6_addHighestFirst_26 rfl rfl (by decide) rfl hl.1 (Nat.le_of_ble_eq_true rfl) hP hD hS hA (q0 := 1) rfl (by decide) rfl (fun w1 H locs hI hP hD hS => ?_)
  obtain ⟨f, rfl⟩ := hI
  exact r_retW hF hr hlk dX6_addHighestFirst_29 hP hD hS ⟨f, rfl⟩
set_option maxRecDepth 100000 in
set_option maxHeartbeats 4000000 in
theorem c_X11_feed (l : Launch) (D : va_G) (t : Nat → ClassId) (d : Nat) (h0 : Nat) (a : Nat → Nat) (fc fl fd fw : Nat → Option Nat) (fr : Nat → Int32) (T : va_W) (k1 k2 k3 k4 k5 : Int32) (sz : Nat) : AI l D t yX11_feed cX11_feed 6 (some .int) ({ frames := 2, cells := 0, slots := 0, locals := 42 }) (hW t d h0 a fc fl fd fw fr T) sz [.ref h0, .int k1, .int k2, .int k3, .int k4, .int k5] 20 := by
  refine go (by decide) (Nat.le_of_ble_eq_true rfl) ?_
  intro p e s m below meth c ls A hF hr hlk hin hsz hAe hP hD hS hA hl
  rw [hAe]
  clear hAe hsz
  have hF : FX p m c cX11_feed 6 s _ RX11 D t := hF
  have hx := hF.1.1
  have hb := hF.1.2.1
  have hls := hl.1
  have hl : lv_has ls 6 [(0, .ref h0), (1, .int k1), (2, .int k2), (3, .int k3), (4, .int k4), (5, .int k5)] := hl
  have hP : va_P D cl1 [(h0, .inr (1, [.ref (a 0), .ref (a 2), .ref (a 3), .ref (a 4), .ref (a 6), .ref (a 8), .int 0, .long 0, .ref (a 9), .ref (a 10), .ref (a 11), .ref (a 12), .ref (a 13), .ref (a 14), .ref (a 15), .ref (a 17), .ref (a 19), .ref (a 21)])), ((a 0), .inr (2, [.ref (a 1), .int 0])), ((a 1), .inl (t 0, 64, .inl (fun _ => 0)))] s.heap := hP.sub [23, 22, 21] rfl
  have hD : va_D A [(h0, .inr (1, [.ref (a 0), .ref (a 2), .ref (a 3), .ref (a 4), .ref (a 6), .ref (a 8), .int 0, .long 0, .ref (a 9), .ref (a 10), .ref (a 11), .ref (a 12), .ref (a 13), .ref (a 14), .ref (a 15), .ref (a 17), .ref (a 19), .ref (a 21)])), ((a 0), .inr (2, [.ref (a 1), .int 0])), ((a 1), .inl (t 0, 64, .inl (fun _ => 0)))] := hD.sub [23, 22, 21] (by decide) rfl
  refine lv_aload_n hx hb dX11_feed_0 rfl (lv_at hl 0 rfl) ?_
  refine r_get hF ci_X11 fl_X11_10 dX11_feed_1 hP (q0 := 0) rfl rfl ?_
  refine r_get hF ci_X6 fl_X11_85 dX11_feed_4 hP (q0 := 1) rfl rfl ?_
  refine lv_bipush (v := 20) hx hb dX11_feed_7 (by decide) ?_
  refine lv_iadd hx hb dX11_feed_9 ?_
  refine lv_sipush (v := 8000) hx hb dX11_feed_10 (by decide) ?_
  refine lv_icmp_le (tgt := 18) hx hb dX11_feed_13 rfl (fun _ => ?_) (fun h => absurd (by decide) h)
  generalize hz : ((h0, .inr (1, [.ref (a 0), .ref (a 2), .ref (a 3), .ref (a 4), .ref (a 6), .ref (a 8), .int 0, .long 0, .ref (a 9), .ref (a 10), .ref (a 11), .ref (a 12), .ref (a 13), .ref (a 14), .ref (a 15), .ref (a 17), .ref (a 19), .ref (a 21)])) : Nat × va_E) = z at hP hD
  have hP : va_P D cl1 (rW t z (a 0) (a 1) 0 (fun _ => 0)) _ := hP
  have hD : va_D A (rW t z (a 0) (a 1) 0 (fun _ => 0)) := hD
  generalize (fun _ => 0 : Nat → Int32) = f at hP hD
  refine lv_aload_n hx hb dX11_feed_18 rfl (lv_at hl 0 rfl) ?_
  refine r_get hF ci_X11 fl_X11_10 dX11_feed_19 hP (q0 := 0) (congrArg some hz.symm) rfl ?_
  refine lv_iload_n hx hb dX11_feed_22 rfl (lv_at hl 1 rfl) ?_
  refine r_cWV (As := [.int k1]) (rest := []) hF mv_X11_89 ci_X6 (c_X6_addH l D t z (a 0) (a 1) 0 f (by decide) k1 _) dX11_feed_23 rfl rfl (by decide) rfl hl.1 (Nat.le_of_ble_eq_true rfl) hP hD hS hA (q0 := 1) rfl (by decide) rfl (fun w1 H locs hI hP hD hS => ?_)
  obtain ⟨f, rfl⟩ := hI
  refine lv_aload_n hx hb dX11_feed_26 rfl (lv_at hl 0 rfl) ?_
  refine r_get hF ci_X11 fl_X11_10 dX11_feed_27 hP (q0 := 0) (congrArg some hz.symm) rfl ?_
  refine lv_iload_n hx hb dX11_feed_30 rfl (lv_at hl 2 rfl) ?_
  refine r_cWV (As := [.int k2]) (rest := []) hF mv_X11_89 ci_X6 (c_X6_addH l D t z (a 0) (a 1) 4 f (by decide) k2 _) dX11_feed_31 rfl rfl (by decide) rfl hl.1 (Nat.le_of_ble_eq_true rfl) hP hD hS hA (q0 := 1) rfl (by decide) rfl (fun w1 H locs hI hP hD hS => ?_)
  obtain ⟨f, rfl⟩ := hI
  refine lv_aload_n hx hb dX11_feed_34 rfl (lv_at hl 0 rfl) ?_
  refine r_get hF ci_X11 fl_X11_10 dX11_feed_35 hP (q0 := 0) (congrArg some hz.symm) rfl ?_
  refine lv_iload_n hx hb dX11_feed_38 rfl (lv_at hl 3 rfl) ?_
  refine r_cWV (As := [.int k3]) (rest := []) hF mv_X11_89 ci_X6 (c_X6_addH l D t z (a 0) (a 1) 8 f (by decide) k3 _) dX11_feed_39 rfl rfl (by decide) rfl hl.1 (Nat.le_of_ble_eq_true rfl) hP hD hS hA (q0 := 1) rfl (by decide) rfl (fun w1 H locs hI hP hD hS => ?_)
  obtain ⟨f, rfl⟩ := hI
  refine lv_aload_n hx hb dX11_feed_42 rfl (lv_at hl 0 rfl) ?_
  refine r_get hF ci_X11 fl_X11_10 dX11_feed_43 hP (q0 := 0) (congrArg some hz.symm) rfl ?_
  refine lv_iload hx hb dX11_feed_46 (lv_at hl 4 rfl) ?_
  refine r_cWV (As := [.int k4]) (rest := []) hF mv_X11_89 ci_X6 (c_X6_addH l D t z (a 0) (a 1) 12 f (by decide) k4 _) dX11_feed_48 rfl rfl (by decide) rfl hl.1 (Nat.le_of_ble_eq_true rfl) hP hD hS hA (q0 := 1) rfl (by decide) rfl (fun w1 H locs hI hP hD hS => ?_)
  obtain ⟨f, rfl⟩ := hI
  refine lv_aload_n hx hb dX11_feed_51 rfl (lv_at hl 0 rfl) ?_
  refine r_get hF ci_X11 fl_X11_10 dX11_feed_52 hP (q0 := 0) (congrArg some hz.symm) rfl ?_
  refine lv_iload hx hb dX11_feed_55 (lv_at hl 5 rfl) ?_
  refine r_cWV (As := [.int k5]) (rest := []) hF mv_X11_89 ci_X6 (c_X6_addH l D t z (a 0) (a 1) 16 f (by decide) k5 _) dX11_feed_57 rfl rfl (by decide) rfl hl.1 (Nat.le_of_ble_eq_true rfl) hP hD hS hA (q0 := 1) rfl (by decide) rfl (fun w1 H locs hI hP hD hS => ?_)
  obtain ⟨f, rfl⟩ := hI
  refine lv_aload_n hx hb dX11_feed_60 rfl (lv_at hl 0 rfl) ?_
  refine r_get hF ci_X11 fl_X11_10 dX11_feed_61 hP (q0 := 0) (congrArg some hz.symm) rfl ?_
  refine r_get hF ci_X6 fl_X11_85 dX11_feed_64 hP (q0 := 1) rfl rfl ?_
  exact r_retA hF hr hlk rfl dX11_feed_67 hS rfl
set_option maxRecDepth 100000 in
set_option maxHeartbeats 4000000 in
theorem c_X4_copyFrom (l : Launch) (D : va_G) (t : Nat → ClassId) (ws : va_W) (h0 h1 q0 q1 q2 q3 q4 q5 : Nat) (i i1 : Int32) (nm dt nm1 dt1 : Nat) (he0 : ws[q0]? = some (h0, eNode i nm dt)) (he1 : ws[q1]? = some (h1, eNode i1 nm1 dt1)) (he2 : ws[q2]? = some (nm, .inl (t 0, 12, .inl (fun _ => 0)))) (he3 : ws[q3]? = some (dt, .inl (t 0, 0, .inl (fun _ => 0)))) (he4 : ws[q4]? = some (nm1, .inl (t 0, 12, .inl (fun _ => 0)))) (he5 : ws[q5]? = some (dt1, .inl (t 0, 0, .inl (fun _ => 0)))) (sz : Nat) : KV l D t yX4_copyFrom cX4_copyFrom 2 ({ frames := 1, cells := 0, slots := 0, locals := 60 }) ws sz [.ref h0, .ref h1] := by
  refine go (by decide) (Nat.le_of_ble_eq_true rfl) ?_
  intro p e s m below meth c ls A hF hr hlk hin hsz hAe hP hD hS hA hl
  rw [hAe]
  clear hAe hsz
  have hF : FX p m c cX4_copyFrom 2 s _ RX4 D t := hF
  have hx := hF.1.1
  have hb := hF.1.2.1
  have hls := hl.1
  have hl : lv_has ls 2 [(0, .ref h0), (1, .ref h1)] := hl
  refine lv_aload_n hx hb dX4_copyFrom_0 rfl (lv_at hl 0 rfl) ?_
  refine lv_aload_n hx hb dX4_copyFrom_1 rfl (lv_at hl 1 rfl) ?_
  refine r_get hF ci_X4 fl_X4_77 dX4_copyFrom_2 hP he1 rfl ?_
  refine r_put0 hF ci_X4 fl_X4_77 dX4_copyFrom_5 hP hD hS he0 rfl rfl rfl rfl (fun H locs hP hS => ?_)
  refine lv_aload_n hx hb dX4_copyFrom_8 rfl (lv_at hl 0 rfl) ?_
  refine lv_aload_n hx hb dX4_copyFrom_9 rfl (lv_at hl 1 rfl) ?_
  refine r_get hF ci_X4 fl_X4_28 dX4_copyFrom_10 hP he1 rfl ?_
  refine r_put0 hF ci_X4 fl_X4_28 dX4_copyFrom_13 hP hD hS he0 rfl rfl rfl rfl (fun H locs hP hS => ?_)
  refine lv_aload_n hx hb dX4_copyFrom_16 rfl (lv_at hl 0 rfl) ?_
  refine lv_iconst (v := 0) hx hb dX4_copyFrom_17 (by decide) ?_
  refine r_put0 hF ci_X4 fl_X4_61 dX4_copyFrom_18 hP hD hS he0 rfl rfl rfl rfl (fun H locs hP hS => ?_)
  refine lv_aload_n hx hb dX4_copyFrom_21 rfl (lv_at hl 0 rfl) ?_
  refine lv_aload_n hx hb dX4_copyFrom_22 rfl (lv_at hl 1 rfl) ?_
  refine r_get hF ci_X4 fl_X4_9 dX4_copyFrom_23 hP he1 rfl ?_
  refine r_put0 hF ci_X4 fl_X4_9 dX4_copyFrom_26 hP hD hS he0 rfl rfl rfl rfl (fun H locs hP hS => ?_)
  refine lv_aload_n hx hb dX4_copyFrom_29 rfl (lv_at hl 0 rfl) ?_
  refine lv_aload_n hx hb dX4_copyFrom_30 rfl (lv_at hl 1 rfl) ?_
  refine r_get hF ci_X4 fl_X4_64 dX4_copyFrom_31 hP he1 rfl ?_
  refine r_put0 hF ci_X4 fl_X4_64 dX4_copyFrom_34 hP hD hS he0 rfl rfl rfl rfl (fun H locs hP hS => ?_)
  refine lv_aload_n hx hb dX4_copyFrom_37 rfl (lv_at hl 1 rfl) ?_
  refine r_get hF ci_X4 fl_X4_15 dX4_copyFrom_38 hP he1 rfl ?_
  refine lv_iconst (v := 0) hx hb dX4_copyFrom_41 (by decide) ?_
  refine lv_aload_n hx hb dX4_copyFrom_42 rfl (lv_at hl 0 rfl) ?_
  refine r_get hF ci_X4 fl_X4_15 dX4_copyFrom_43 hP he0 rfl ?_
  refine lv_iconst (v := 0) hx hb dX4_copyFrom_46 (by decide) ?_
  refine lv_aload_n hx hb dX4_copyFrom_47 rfl (lv_at hl 0 rfl) ?_
  refine r_get hF ci_X4 fl_X4_15 dX4_copyFrom_48 hP he0 rfl ?_
  refine r_alen (v := 12) hF dX4_copyFrom_51 hP he2 (t0 := 0) rfl rfl ?_
  refine r_copy0 hF hl.1 (wb 276 rfl) (wb 182 rfl) (wb 183 rfl) (wb 88 rfl) dX4_copyFrom_52 hP hD hS he4 he2 (by decide) (by decide) (by decide) (by decide) (by decide) (fun _ _ => rfl) (fun _ _ => rfl) (by decide) (Nat.le_of_ble_eq_true rfl) (fun H locs hP hS => ?_)
  refine lv_aload_n hx hb dX4_copyFrom_55 rfl (lv_at hl 0 rfl) ?_
  refine lv_aload_n hx hb dX4_copyFrom_56 rfl (lv_at hl 1 rfl) ?_
  refine r_get hF ci_X4 fl_X4_25 dX4_copyFrom_57 hP he1 rfl ?_
  refine r_put0 hF ci_X4 fl_X4_25 dX4_copyFrom_60 hP hD hS he0 rfl rfl rfl rfl (fun H locs hP hS => ?_)
  refine lv_aload_n hx hb dX4_copyFrom_63 rfl (lv_at hl 0 rfl) ?_
  refine lv_aload_n hx hb dX4_copyFrom_64 rfl (lv_at hl 1 rfl) ?_
  refine r_get hF ci_X4 fl_X4_35 dX4_copyFrom_65 hP he1 rfl ?_
  refine r_put0 hF ci_X4 fl_X4_35 dX4_copyFrom_68 hP hD hS he0 rfl rfl rfl rfl (fun H locs hP hS => ?_)
  refine lv_aload_n hx hb dX4_copyFrom_71 rfl (lv_at hl 0 rfl) ?_
  refine lv_aload_n hx hb dX4_copyFrom_72 rfl (lv_at hl 1 rfl) ?_
  refine r_get hF ci_X4 fl_X4_45 dX4_copyFrom_73 hP he1 rfl ?_
  refine r_put0 hF ci_X4 fl_X4_45 dX4_copyFrom_76 hP hD hS he0 rfl rfl rfl rfl (fun H locs hP hS => ?_)
  refine lv_aload_n hx hb dX4_copyFrom_79 rfl (lv_at hl 0 rfl) ?_
  refine lv_aload_n hx hb dX4_copyFrom_80 rfl (lv_at hl 1 rfl) ?_
  refine r_get hF ci_X4 fl_X4_48 dX4_copyFrom_81 hP he1 rfl ?_
  refine r_put0 hF ci_X4 fl_X4_48 dX4_copyFrom_84 hP hD hS he0 rfl rfl rfl rfl (fun H locs hP hS => ?_)
  refine lv_aload_n hx hb dX4_copyFrom_87 rfl (lv_at hl 0 rfl) ?_
  refine lv_aload_n hx hb dX4_copyFrom_88 rfl (lv_at hl 1 rfl) ?_
  refine r_get hF ci_X4 fl_X4_51 dX4_copyFrom_89 hP he1 rfl ?_
  refine r_put0 hF ci_X4 fl_X4_51 dX4_copyFrom_92 hP hD hS he0 rfl rfl rfl rfl (fun H locs hP hS => ?_)
  refine lv_aload_n hx hb dX4_copyFrom_95 rfl (lv_at hl 0 rfl) ?_
  refine lv_aload_n hx hb dX4_copyFrom_96 rfl (lv_at hl 1 rfl) ?_
  refine r_get hF ci_X4 fl_X4_32 dX4_copyFrom_97 hP he1 rfl ?_
  refine r_put0 hF ci_X4 fl_X4_32 dX4_copyFrom_100 hP hD hS he0 rfl rfl rfl rfl (fun H locs hP hS => ?_)
  refine lv_aload_n hx hb dX4_copyFrom_103 rfl (lv_at hl 0 rfl) ?_
  refine r_get hF ci_X4 fl_X4_19 dX4_copyFrom_104 hP he0 rfl ?_
  refine r_alen (v := 0) hF dX4_copyFrom_107 hP he3 (t0 := 0) rfl rfl ?_
  refine lv_aload_n hx hb dX4_copyFrom_108 rfl (lv_at hl 0 rfl) ?_
  refine r_get hF ci_X4 fl_X4_32 dX4_copyFrom_109 hP he0 rfl ?_
  refine lv_icmp_ge (tgt := 126) hx hb dX4_copyFrom_112 rfl (fun _ => ?_) (fun h => absurd (by decide) h)
  refine lv_aload_n hx hb dX4_copyFrom_126 rfl (lv_at hl 1 rfl) ?_
  refine r_get hF ci_X4 fl_X4_19 dX4_copyFrom_127 hP he1 rfl ?_
  refine lv_iconst (v := 0) hx hb dX4_copyFrom_130 (by decide) ?_
  refine lv_aload_n hx hb dX4_copyFrom_131 rfl (lv_at hl 0 rfl) ?_
  refine r_get hF ci_X4 fl_X4_19 dX4_copyFrom_132 hP he0 rfl ?_
  refine lv_iconst (v := 0) hx hb dX4_copyFrom_135 (by decide) ?_
  refine lv_aload_n hx hb dX4_copyFrom_136 rfl (lv_at hl 0 rfl) ?_
  refine r_get hF ci_X4 fl_X4_32 dX4_copyFrom_137 hP he0 rfl ?_
  refine r_copy0 hF hl.1 (wb 276 rfl) (wb 182 rfl) (wb 183 rfl) (wb 88 rfl) dX4_copyFrom_140 hP hD hS he5 he3 (by decide) (by decide) (by decide) (by decide) (by decide) (fun _ _ => rfl) (fun _ _ => rfl) (by decide) (Nat.le_of_ble_eq_true rfl) (fun H locs hP hS => ?_)
  exact r_retV hF hr hlk dX4_copyFrom_143 hP hS
set_option maxRecDepth 100000 in
set_option maxHeartbeats 4000000 in
theorem c_X9_copyFrom (l : Launch) (D : va_G) (t : Nat → ClassId) (ws : va_W) (T : va_W) (hT : ∀ q ∈ T, q ∈ ws) (h0 h1 an an1 q0 q1 q2 q3 : Nat) (f f1 : Nat → Option Nat) (he0 : ws[q0]? = some (h0, .inr (6, [.ref an, .int 0]))) (he1 : ws[q1]? = some (h1, .inr (6, [.ref an1, .int 0]))) (he2 : ws[q2]? = some (an, .inl (t 6, 80, .inr (.inr (.inr (.inr f)))))) (he3 : ws[q3]? = some (an1, .inl (t 6, 80, .inr (.inr (.inr (.inr f1)))))) (hN : nodesIn t T f 80) (hN1 : nodesIn t T f1 80) (sz : Nat) : KV l D t yX9_copyFrom cX9_copyFrom 3 ({ frames := 2, cells := 0, slots := 0, locals := 81 }) ws sz [.ref h0, .ref h1] := by
  refine go (by decide) (Nat.le_of_ble_eq_true rfl) ?_
  intro p e s m below meth c ls A hF hr hlk hin hsz hAe hP hD hS hA hl
  rw [hAe]
  clear hAe hsz
  have hF : FX p m c cX9_copyFrom 3 s _ RX9 D t := hF
  have hx := hF.1.1
  have hb := hF.1.2.1
  have hls := hl.1
  have hl : lv_has ls 3 [(0, .ref h0), (1, .ref h1)] := hl
  refine lv_iconst (v := 0) hx hb dX9_copyFrom_0 (by decide) ?_
  refine lv_istore_n (lv' := [(2, .int 0), (0, .ref h0), (1, .ref h1)]) hx hb dX9_copyFrom_1 rfl hl (by decide) rfl (fun ls hl => ?_)
  have hl : lv_has ls 3 [(2, .int 0), (1, .ref h1), (0, .ref h0)] := lv_sub hl [0, 2, 1] rfl
  refine r_loop (L0 := fun i => [(2, .int (nI i)), (1, .ref h1), (0, .ref h0)]) 80 hl hP hS (fun i hi ls H locs hl hP hS ih => ?_) (fun ls H locs hl hP hS => ?_)
  · have hl : lv_has ls 3 [(2, .int (nI i)), (1, .ref h1), (0, .ref h0)] := hl
    refine lv_iload_n hx hb dX9_copyFrom_2 rfl (lv_at hl 0 rfl) ?_
    refine lv_aload_n hx hb dX9_copyFrom_3 rfl (lv_at hl 2 rfl) ?_
    refine r_get hF ci_X9 fl_X9_11 dX9_copyFrom_4 hP he0 rfl ?_
    refine r_alen (v := 80) hF dX9_copyFrom_7 hP he2 (t0 := 6) rfl rfl ?_
    refine lv_icmp_ge (tgt := 32) hx hb dX9_copyFrom_8 rfl (fun h => absurd h (nI_ge hi (by decide))) (fun _ => ?_)
    obtain ⟨x, nm, dt, hfx, m0, m1, m2⟩ := hN i hi
    obtain ⟨x1, nm1, dt1, hfx1, m3, m4, m5⟩ := hN1 i hi
    obtain ⟨p0, hp0⟩ := List.getElem?_of_mem (hT _ m0)
    obtain ⟨p1, hp1⟩ := List.getElem?_of_mem (hT _ m1)
    obtain ⟨p2, hp2⟩ := List.getElem?_of_mem (hT _ m2)
    obtain ⟨p3, hp3⟩ := List.getElem?_of_mem (hT _ m3)
    obtain ⟨p4, hp4⟩ := List.getElem?_of_mem (hT _ m4)
    obtain ⟨p5, hp5⟩ := List.getElem?_of_mem (hT _ m5)
    refine lv_aload_n hx hb dX9_copyFrom_11 rfl (lv_at hl 2 rfl) ?_
    refine r_get hF ci_X9 fl_X9_11 dX9_copyFrom_12 hP he0 rfl ?_
    refine lv_iload_n hx hb dX9_copyFrom_15 rfl (lv_at hl 0 rfl) ?_
    refine r_aldq (v := .ref x) (t0 := 6) hF dX9_copyFrom_16 hP he2 rfl (vp_in_nI hi (by decide)) (by rw [nI_clamp (by omega), hfx]; rfl) ?_
    refine lv_aload_n hx hb dX9_copyFrom_17 rfl (lv_at hl 1 rfl) ?_
    refine r_get hF ci_X9 fl_X9_11 dX9_copyFrom_18 hP he1 rfl ?_
    refine lv_iload_n hx hb dX9_copyFrom_21 rfl (lv_at hl 0 rfl) ?_
    refine r_aldq (v := .ref x1) (t0 := 6) hF dX9_copyFrom_22 hP he3 rfl (vp_in_nI hi (by decide)) (by rw [nI_clamp (by omega), hfx1]; rfl) ?_
    refine r_cKV (As := [.ref x1]) (rest := []) hF mv_X9_130 ci_X4 (fun sz => c_X4_copyFrom l D t ws x x1 p0 p3 p1 p2 p4 p5 _ _ nm dt nm1 dt1 hp0 hp3 hp1 hp2 hp4 hp5 sz) dX9_copyFrom_23 rfl rfl (by decide) rfl hl.1 (Nat.le_of_ble_eq_true rfl) hP hD hS hA hp0 (by decide) rfl (fun H locs hP hS => ?_)
    refine lv_iinc (lv' := [(2, .int (nI (i + 1))), (1, .ref h1), (0, .ref h0)]) (k := 0) (v := (nI (i + 1))) hx hb dX9_copyFrom_26 hl rfl (nI_1 i) (by decide) rfl (fun ls hl => ?_)
    refine lv_goto (tgt := 2) hx hb dX9_copyFrom_29 rfl ?_
    exact ih ls H locs hl hP hS
  · have hl : lv_has ls 3 [(2, .int (nI 80)), (1, .ref h1), (0, .ref h0)] := hl
    refine lv_iload_n hx hb dX9_copyFrom_2 rfl (lv_at hl 0 rfl) ?_
    refine lv_aload_n hx hb dX9_copyFrom_3 rfl (lv_at hl 2 rfl) ?_
    refine r_get hF ci_X9 fl_X9_11 dX9_copyFrom_4 hP he0 rfl ?_
    refine r_alen (v := 80) hF dX9_copyFrom_7 hP he2 (t0 := 6) rfl rfl ?_
    refine lv_icmp_ge (tgt := 32) hx hb dX9_copyFrom_8 rfl (fun _ => ?_) (fun h => absurd (nI_le (Nat.le_refl 80) (by decide)) h)
    refine lv_aload_n hx hb dX9_copyFrom_32 rfl (lv_at hl 2 rfl) ?_
    refine lv_aload_n hx hb dX9_copyFrom_33 rfl (lv_at hl 1 rfl) ?_
    refine r_get hF ci_X9 fl_X9_52 dX9_copyFrom_34 hP he1 rfl ?_
    refine r_put0 hF ci_X9 fl_X9_52 dX9_copyFrom_37 hP hD hS he0 rfl rfl rfl rfl (fun H locs hP hS => ?_)
    exact r_retV hF hr hlk dX9_copyFrom_40 hP hS
def clI (ws : va_W) (q h0 d : Nat) (w1 : va_W) : Prop := ∃ v : Int32, w1 = ws.set q (h0, .inr (7, [.int v, .ref d, .int 0]))
set_option maxRecDepth 100000 in
set_option maxHeartbeats 4000000 in
theorem c_clear (l : Launch) (D : va_G) (t : Nat → ClassId) (ws : va_W) (h0 q d : Nat) (mc : Int32) (he : ws[q]? = some (h0, .inr (7, [.int mc, .ref d, .int 0]))) (sz : Nat) : WV l D t yJx4a65c_clear_da8c8 cJx4a65c_clear_da8c8 4 ({ frames := 0, cells := 0, slots := 0, locals := 0 }) ws sz [.ref h0] 0 0 (fun _ => True) (clI ws q h0 d) := by
  refine goE (by decide) (Nat.le_of_ble_eq_true rfl) ?_
  intro p e s m below meth c ls A hF hr hlk hin hsz hAe hP hD hS hA hl hE
  rw [hAe]
  have hF : FX p m c cJx4a65c_clear_da8c8 4 s _ RJx4a65c D t := hF
  have hx := hF.1.1
  have hb := hF.1.2.1
  have hl : lv_has ls 4 [(0, .ref h0)] := hl
  refine lv_aload_n hx hb dJx4a65c_clear_da8c8_0 rfl (lv_at hl 0 rfl) ?_
  refine lv_dup hx hb dJx4a65c_clear_da8c8_1 rfl ?_
  refine va_get (ref := "java/util/ArrayList") (v := .int mc) hx hb hF.1.2.2.2.2 ci_Jx4a65c.2.1 hF.1.2.2.2.1 hF.2 hP q he ci_Jx4a65c.1 0 (by decide) (hF.1.2.2.2.2 _ (wb 95 rfl)) (fun x h => u_same (hF.1.2.2.2.2 _ (wb 104 rfl)) x h) rfl dJx4a65c_clear_da8c8_2 ?_
  refine lv_iconst (v := 1) hx hb dJx4a65c_clear_da8c8_5 (by decide) ?_
  refine lv_iadd hx hb dJx4a65c_clear_da8c8_6 ?_
  refine va_put (ref := "java/util/ArrayList") (v := .int (mc + 1)) (ty := .int) hx hb hF.1.2.2.2.2 ci_Jx4a65c.2.1 tyJx4a65c ci_Jx4a65c.2.2.1 ci_Jx4a65c.2.2.2 hF.1.2.2.2.1 hF.2 hP hD hS q he ci_Jx4a65c.1 0 (by decide) (hF.1.2.2.2.2 _ (wb 95 rfl)) (fun x h => u_same (hF.1.2.2.2.2 _ (wb 104 rfl)) x h) rfl (by decide +kernel) rfl rfl (Nat.le_of_ble_eq_true rfl) dJx4a65c_clear_da8c8_7 (fun H locs hP hD hS => ?_)
  have he := List.getElem?_set_self (a := (h0, (.inr (7, [.int (mc + 1), .ref d, .int 0]) : va_E))) (List.getElem?_eq_some_iff.mp he).1
  refine lv_aload_n hx hb dJx4a65c_clear_da8c8_10 rfl (lv_at hl 0 rfl) ?_
  refine r_get hF ci_Jx4a65c fl_Jx4a65c_9 dJx4a65c_clear_da8c8_11 hP he rfl ?_
  refine lv_astore_n (lv' := [(1, .ref d), (0, .ref h0)]) hx hb dJx4a65c_clear_da8c8_14 rfl hl (by decide) rfl (fun ls hl => ?_)
  refine lv_aload_n hx hb dJx4a65c_clear_da8c8_15 rfl (lv_at hl 1 rfl) ?_
  refine r_get hF ci_Jx4a65c fl_Jx4a65c_48 dJx4a65c_clear_da8c8_16 hP he rfl ?_
  refine lv_istore_n (lv' := [(2, .int 0), (1, .ref d), (0, .ref h0)]) hx hb dJx4a65c_clear_da8c8_19 rfl hl (by decide) rfl (fun ls hl => ?_)
  refine lv_aload_n hx hb dJx4a65c_clear_da8c8_20 rfl (lv_at hl 2 rfl) ?_
  refine lv_iconst (v := 0) hx hb dJx4a65c_clear_da8c8_21 (by decide) ?_
  refine lv_dup_x1 hx hb dJx4a65c_clear_da8c8_22 rfl rfl ?_
  refine r_put0 hF ci_Jx4a65c fl_Jx4a65c_48 dJx4a65c_clear_da8c8_23 hP hD hS he rfl rfl rfl rfl (fun H locs hP hS => ?_)
  refine lv_istore_n (lv' := [(3, .int 0), (2, .int 0), (1, .ref d), (0, .ref h0)]) hx hb dJx4a65c_clear_da8c8_26 rfl hl (by decide) rfl (fun ls hl => ?_)
  refine lv_iload_n hx hb dJx4a65c_clear_da8c8_27 rfl (lv_at hl 0 rfl) ?_
  refine lv_iload_n hx hb dJx4a65c_clear_da8c8_28 rfl (lv_at hl 1 rfl) ?_
  refine lv_icmp_ge (tgt := 42) hx hb dJx4a65c_clear_da8c8_29 rfl (fun _ => ?_) (fun h => absurd (by decide) h)
  exact r_retW hF hr hlk dJx4a65c_clear_da8c8_42 hP hD hS ⟨_, rfl⟩
set_option maxRecDepth 100000 in
set_option maxHeartbeats 4000000 in
theorem c_J7_fill_d0a16 (l : Launch) (D : va_G) (t : Nat → ClassId) (ws : va_W) (a n q : Nat) (he : ws[q]? = some (a, .inl (t 2, n, .inr (.inl (fun _ => 0))))) (hn : n < 1000) (sz : Nat) : KV l D t yJ7_fill_d0a16 cJ7_fill_d0a16 5 ({ frames := 0, cells := 0, slots := 0, locals := 0 }) ws sz [.ref a, .long 0] := by
  refine go (by decide) (Nat.le_of_ble_eq_true rfl) ?_
  intro p e s m below meth c ls A hF hr hlk hin hsz hAe hP hD hS hA hl
  rw [hAe]
  clear hAe hsz
  have hF : FX p m c cJ7_fill_d0a16 5 s _ RJ7 D t := hF
  have hx := hF.1.1
  have hb := hF.1.2.1
  have hls := hl.1
  have hl : lv_has ls 5 [(0, .ref a), (1, .long 0)] := hl
  refine lv_iconst (v := 0) hx hb dJ7_fill_d0a16_0 (by decide) ?_
  refine lv_istore_n (lv' := [(3, .int 0), (0, .ref a), (1, .long 0)]) hx hb dJ7_fill_d0a16_1 rfl hl (by decide) rfl (fun ls hl => ?_)
  refine lv_aload_n hx hb dJ7_fill_d0a16_2 rfl (lv_at hl 1 rfl) ?_
  refine r_alen (v := nI n) hF dJ7_fill_d0a16_3 hP he (t0 := 2) rfl rfl ?_
  refine lv_istore (lv' := [(4, .int (nI n)), (3, .int 0), (0, .ref a), (1, .long 0)]) hx hb dJ7_fill_d0a16_4 hl (by decide) rfl (fun ls hl => ?_)
  have hl : lv_has ls 5 [(3, .int 0), (4, .int (nI n)), (1, .long 0), (0, .ref a)] := lv_sub hl [1, 0, 3, 2] rfl
  refine r_loop (L0 := fun i => [(3, .int (nI i)), (4, .int (nI n)), (1, .long 0), (0, .ref a)]) n hl hP hS (fun i hi ls H locs hl hP hS ih => ?_) (fun ls H locs hl hP hS => ?_)
  · have hl : lv_has ls 5 [(3, .int (nI i)), (4, .int (nI n)), (1, .long 0), (0, .ref a)] := hl
    refine lv_iload_n hx hb dJ7_fill_d0a16_6 rfl (lv_at hl 0 rfl) ?_
    refine lv_iload hx hb dJ7_fill_d0a16_7 (lv_at hl 1 rfl) ?_
    refine lv_icmp_ge (tgt := 22) hx hb dJ7_fill_d0a16_9 rfl (fun h => absurd h (nI_ge hi (by omega))) (fun _ => ?_)
    refine lv_aload_n hx hb dJ7_fill_d0a16_12 rfl (lv_at hl 3 rfl) ?_
    refine lv_iload_n hx hb dJ7_fill_d0a16_13 rfl (lv_at hl 0 rfl) ?_
    refine lv_lload_n hx hb dJ7_fill_d0a16_14 rfl (lv_at hl 2 rfl) ?_
    refine r_last0 hF dJ7_fill_d0a16_15 hP hD hS he (vp_in_nI hi (by omega)) rfl (fun H locs hP hS => ?_)
    refine lv_iinc (lv' := [(3, .int (nI (i + 1))), (4, .int (nI n)), (1, .long 0), (0, .ref a)]) (k := 0) (v := (nI (i + 1))) hx hb dJ7_fill_d0a16_16 hl rfl (nI_1 i) (by decide) rfl (fun ls hl => ?_)
    refine lv_goto (tgt := 6) hx hb dJ7_fill_d0a16_19 rfl ?_
    exact ih ls H locs hl hP hS
  · have hl : lv_has ls 5 [(3, .int (nI n)), (4, .int (nI n)), (1, .long 0), (0, .ref a)] := hl
    refine lv_iload_n hx hb dJ7_fill_d0a16_6 rfl (lv_at hl 0 rfl) ?_
    refine lv_iload hx hb dJ7_fill_d0a16_7 (lv_at hl 1 rfl) ?_
    refine lv_icmp_ge (tgt := 22) hx hb dJ7_fill_d0a16_9 rfl (fun _ => ?_) (fun h => absurd (nI_le (Nat.le_refl _) (by omega)) h)
    exact r_retV hF hr hlk dJ7_fill_d0a16_22 hP hS
set_option maxRecDepth 100000 in
set_option maxHeartbeats 4000000 in
theorem c_X11_crash (l : Launch) (D : va_G) (t : Nat → ClassId) (d : Nat) (h0 : Nat) (a : Nat → Nat) (fc fl fd fw : Nat → Option Nat) (fr : Nat → Int32) (T : va_W) (hcn : connsIn t T fc 6) (hnl : nodesIn t T fl 80) (hnd : nodesIn t T fd 80) (k : Int32) (sz : Nat) : AI l D t yX11_crash cX11_crash 4 (some .int) ({ frames := 3, cells := 0, slots := 0, locals := 103 }) (hW t d h0 a fc fl fd fw fr T) sz [.ref h0, .int k] (tapeA k) := by
  refine go (by decide) (Nat.le_of_ble_eq_true rfl) ?_
  intro p e s m below meth c ls A hF hr hlk hin hsz hAe hP hD hS hA hl
  rw [hAe]
  clear hAe hsz
  have hF : FX p m c cX11_crash 4 s _ RX11 D t := hF
  have hx := hF.1.1
  have hb := hF.1.2.1
  have hls := hl.1
  have hl : lv_has ls 4 [(0, .ref h0), (1, .int k)] := hl
  refine lv_iload_n hx hb dX11_crash_0 rfl (lv_at hl 1 rfl) ?_
  refine lv_if_lt (tgt := 12) hx hb dX11_crash_1 rfl (fun h1 => ?_) (fun h1 => ?_)
  · refine lv_iconst (v := (-1)) hx hb dX11_crash_12 (by decide) ?_
    exact r_retA hF hr hlk rfl dX11_crash_13 hS (by unfold tapeA; rw [if_neg (fun z => by subst z; exact absurd h1 (by decide))])
  · refine lv_iload_n hx hb dX11_crash_4 rfl (lv_at hl 1 rfl) ?_
    refine lv_aload_n hx hb dX11_crash_5 rfl (lv_at hl 0 rfl) ?_
    refine r_get hF ci_X11 fl_X11_182 dX11_crash_6 hP (q0 := 23) rfl rfl ?_
    refine lv_icmp_le (tgt := 14) hx hb dX11_crash_9 rfl (fun h2 => ?_) (fun h2 => ?_)
    · have hk0 : k = 0 := by rcases pk_ix k (n := 1) (by decide) with h3 | h3 | ⟨j3, hj3, e3⟩; exact absurd h3 h1; exact absurd (Int32.le_trans h3 h2) (by decide); exact (by have z3 : j3 = 0 := (by omega); subst z3; exact e3)
      subst hk0
      refine lv_aload_n hx hb dX11_crash_14 rfl (lv_at hl 0 rfl) ?_
      refine r_get hF ci_X11 fl_X11_182 dX11_crash_15 hP (q0 := 23) rfl rfl ?_
      refine lv_istore_n (lv' := [(2, .int 0), (0, .ref h0), (1, .int 0)]) hx hb dX11_crash_18 rfl hl (by decide) rfl (fun ls hl => ?_)
      refine lv_aload_n hx hb dX11_crash_19 rfl (lv_at hl 1 rfl) ?_
      refine lv_iload_n hx hb dX11_crash_20 rfl (lv_at hl 2 rfl) ?_
      refine r_put0 hF ci_X11 fl_X11_182 dX11_crash_21 hP hD hS (q0 := 23) rfl rfl rfl rfl rfl (fun H locs hP hS => ?_)
      refine lv_aload_n hx hb dX11_crash_24 rfl (lv_at hl 1 rfl) ?_
      refine r_cKV (As := []) (rest := []) hF mv_X11_185 ci_X11 (fun sz => c_X11_comeToDisk l D t (hW t d h0 a fc fl fd fw fr T) h0 23 _ rfl rfl sz) dX11_crash_25 rfl rfl (by decide) rfl hl.1 (Nat.le_of_ble_eq_true rfl) hP hD hS hA (q0 := 23) rfl (by decide) rfl (fun H locs hP hS => ?_)
      refine lv_aload_n hx hb dX11_crash_28 rfl (lv_at hl 1 rfl) ?_
      refine r_get hF ci_X11 fl_X11_29 dX11_crash_29 hP (q0 := 23) rfl rfl ?_
      refine lv_aload_n hx hb dX11_crash_32 rfl (lv_at hl 1 rfl) ?_
      refine r_get hF ci_X11 fl_X11_33 dX11_crash_33 hP (q0 := 23) rfl rfl ?_
      refine r_cKV (As := [.ref (a 6)]) (rest := []) hF mv_X11_188 ci_X9 (fun sz => c_X9_copyFrom l D t (hW t d h0 a fc fl fd fw fr T) T (fun q h => List.mem_append_right _ h) _ _ _ _ 18 16 17 15 fl fd rfl rfl rfl rfl hnl hnd sz) dX11_crash_36 rfl rfl (by decide) rfl hl.1 (Nat.le_of_ble_eq_true rfl) hP hD hS hA (q0 := 18) rfl (by decide) rfl (fun H locs hP hS => ?_)
      refine lv_iconst (v := 0) hx hb dX11_crash_39 (by decide) ?_
      refine lv_istore_n (lv' := [(3, .int 0), (2, .int 0), (0, .ref h0), (1, .int 0)]) hx hb dX11_crash_40 rfl hl (by decide) rfl (fun ls hl => ?_)
      have hl : lv_has ls 4 [(3, .int 0), (2, .int 0), (1, .int 0), (0, .ref h0)] := lv_sub hl [0, 1, 3, 2] rfl
      refine r_loop (L0 := fun i => [(3, .int (nI i)), (2, .int 0), (1, .int 0), (0, .ref h0)]) 6 hl hP hS (fun i hi ls H locs hl hP hS ih => ?_) (fun ls H locs hl hP hS => ?_)
      · have hl : lv_has ls 4 [(3, .int (nI i)), (2, .int 0), (1, .int 0), (0, .ref h0)] := hl
        refine lv_iload_n hx hb dX11_crash_41 rfl (lv_at hl 0 rfl) ?_
        refine lv_aload_n hx hb dX11_crash_42 rfl (lv_at hl 3 rfl) ?_
        refine r_get hF ci_X11 fl_X11_18 dX11_crash_43 hP (q0 := 23) rfl rfl ?_
        refine r_alen (v := 6) hF dX11_crash_46 hP (q0 := 20) rfl (t0 := 5) rfl rfl ?_
        refine lv_icmp_ge (tgt := 65) hx hb dX11_crash_47 rfl (fun h => absurd h (nI_ge hi (by decide))) (fun _ => ?_)
        have hj := hi
        obtain ⟨kk, kc, kcb, ks, ksb, kf, hfk, m0, m1, m2, m3⟩ := hcn i hi
        obtain ⟨q0, he0⟩ := List.getElem?_of_mem (l := (hW t d h0 a fc fl fd fw fr T)) (List.mem_append_right _ m0)
        obtain ⟨q1, he1⟩ := List.getElem?_of_mem (l := (hW t d h0 a fc fl fd fw fr T)) (List.mem_append_right _ m1)
        obtain ⟨q2, he2⟩ := List.getElem?_of_mem (l := (hW t d h0 a fc fl fd fw fr T)) (List.mem_append_right _ m2)
        obtain ⟨q3, he3⟩ := List.getElem?_of_mem (l := (hW t d h0 a fc fl fd fw fr T)) (List.mem_append_right _ m3)
        refine lv_aload_n hx hb dX11_crash_50 rfl (lv_at hl 3 rfl) ?_
        refine r_get hF ci_X11 fl_X11_18 dX11_crash_51 hP (q0 := 23) rfl rfl ?_
        refine lv_iload_n hx hb dX11_crash_54 rfl (lv_at hl 0 rfl) ?_
        refine r_aldq (v := .ref kk) (t0 := 5) hF dX11_crash_55 hP (q0 := 20) rfl rfl (vp_in_nI hi (by decide)) (by rw [nI_clamp (by omega), hfk]; rfl) ?_
        refine r_cKV (As := []) (rest := []) hF mv_X11_192 ci_X2 (fun sz => c_X2_vanish l D t (hW t d h0 a fc fl fd fw fr T) kk kc kcb ks ksb kf q0 q1 q2 he0 he1 he2 sz) dX11_crash_56 rfl rfl (by decide) rfl hl.1 (Nat.le_of_ble_eq_true rfl) hP hD hS hA he0 (by decide) rfl (fun H locs hP hS => ?_)
        refine lv_iinc (lv' := [(3, .int (nI (i + 1))), (2, .int 0), (1, .int 0), (0, .ref h0)]) (k := 0) (v := (nI (i + 1))) hx hb dX11_crash_59 hl rfl (nI_1 i) (by decide) rfl (fun ls hl => ?_)
        refine lv_goto (tgt := 41) hx hb dX11_crash_62 rfl ?_
        exact ih ls H locs hl hP hS
      · have hl : lv_has ls 4 [(3, .int (nI 6)), (2, .int 0), (1, .int 0), (0, .ref h0)] := hl
        refine lv_iload_n hx hb dX11_crash_41 rfl (lv_at hl 0 rfl) ?_
        refine lv_aload_n hx hb dX11_crash_42 rfl (lv_at hl 3 rfl) ?_
        refine r_get hF ci_X11 fl_X11_18 dX11_crash_43 hP (q0 := 23) rfl rfl ?_
        refine r_alen (v := 6) hF dX11_crash_46 hP (q0 := 20) rfl (t0 := 5) rfl rfl ?_
        refine lv_icmp_ge (tgt := 65) hx hb dX11_crash_47 rfl (fun _ => ?_) (fun h => absurd (nI_le (Nat.le_refl 6) (by decide)) h)
        have hP : va_P D cl1 [(h0, .inr (1, [.ref (a 0), .ref (a 2), .ref (a 3), .ref (a 4), .ref (a 6), .ref (a 8), .int 0, .long 0, .ref (a 9), .ref (a 10), .ref (a 11), .ref (a 12), .ref (a 13), .ref (a 14), .ref (a 15), .ref (a 17), .ref (a 19), .ref (a 21)])), ((a 9), .inr (7, [.int 0, .ref d, .int 0])), ((a 10), .inr (7, [.int 0, .ref d, .int 0])), ((a 11), .inr (7, [.int 0, .ref d, .int 0])), ((a 12), .inr (7, [.int 0, .ref d, .int 0])), ((a 13), .inr (7, [.int 0, .ref d, .int 0])), ((a 14), .inl (t 2, 4, .inr (.inl (fun _ => 0))))] H := hP.sub [23, 13, 12, 11, 10, 9, 8] rfl
        have hD : va_D A [(h0, .inr (1, [.ref (a 0), .ref (a 2), .ref (a 3), .ref (a 4), .ref (a 6), .ref (a 8), .int 0, .long 0, .ref (a 9), .ref (a 10), .ref (a 11), .ref (a 12), .ref (a 13), .ref (a 14), .ref (a 15), .ref (a 17), .ref (a 19), .ref (a 21)])), ((a 9), .inr (7, [.int 0, .ref d, .int 0])), ((a 10), .inr (7, [.int 0, .ref d, .int 0])), ((a 11), .inr (7, [.int 0, .ref d, .int 0])), ((a 12), .inr (7, [.int 0, .ref d, .int 0])), ((a 13), .inr (7, [.int 0, .ref d, .int 0])), ((a 14), .inl (t 2, 4, .inr (.inl (fun _ => 0))))] := hD.sub [23, 13, 12, 11, 10, 9, 8] (by decide) rfl
        refine lv_aload_n hx hb dX11_crash_65 rfl (lv_at hl 3 rfl) ?_
        refine r_get hF ci_X11 fl_X11_45 dX11_crash_66 hP (q0 := 0) rfl rfl ?_
        refine r_cWV (As := []) (rest := []) hF mv_X11_195 ci_Jx4a65c (c_clear l D t _ (a 9) 1 d _ rfl _) dX11_crash_69 rfl rfl (by decide) rfl hl.1 (Nat.le_of_ble_eq_true rfl) hP hD hS hA (q0 := 1) rfl (by decide) rfl (fun w1 H locs hI hP hD hS => ?_)
        obtain ⟨v0, rfl⟩ := hI
        replace hP : va_P D cl1 ([(h0, .inr (1, [.ref (a 0), .ref (a 2), .ref (a 3), .ref (a 4), .ref (a 6), .ref (a 8), .int 0, .long 0, .ref (a 9), .ref (a 10), .ref (a 11), .ref (a 12), .ref (a 13), .ref (a 14), .ref (a 15), .ref (a 17), .ref (a 19), .ref (a 21)])), ((a 9), .inr (7, [.int v0, .ref d, .int 0])), ((a 10), .inr (7, [.int 0, .ref d, .int 0])), ((a 11), .inr (7, [.int 0, .ref d, .int 0])), ((a 12), .inr (7, [.int 0, .ref d, .int 0])), ((a 13), .inr (7, [.int 0, .ref d, .int 0])), ((a 14), .inl (t 2, 4, .inr (.inl (fun _ => 0))))]) H := hP
        replace hD : va_D A ([(h0, .inr (1, [.ref (a 0), .ref (a 2), .ref (a 3), .ref (a 4), .ref (a 6), .ref (a 8), .int 0, .long 0, .ref (a 9), .ref (a 10), .ref (a 11), .ref (a 12), .ref (a 13), .ref (a 14), .ref (a 15), .ref (a 17), .ref (a 19), .ref (a 21)])), ((a 9), .inr (7, [.int v0, .ref d, .int 0])), ((a 10), .inr (7, [.int 0, .ref d, .int 0])), ((a 11), .inr (7, [.int 0, .ref d, .int 0])), ((a 12), .inr (7, [.int 0, .ref d, .int 0])), ((a 13), .inr (7, [.int 0, .ref d, .int 0])), ((a 14), .inl (t 2, 4, .inr (.inl (fun _ => 0))))]) := hD
        refine lv_aload_n hx hb dX11_crash_72 rfl (lv_at hl 3 rfl) ?_
        refine r_get hF ci_X11 fl_X11_49 dX11_crash_73 hP (q0 := 0) rfl rfl ?_
        refine r_cWV (As := []) (rest := []) hF mv_X11_195 ci_Jx4a65c (c_clear l D t _ (a 10) 2 d _ rfl _) dX11_crash_76 rfl rfl (by decide) rfl hl.1 (Nat.le_of_ble_eq_true rfl) hP hD hS hA (q0 := 2) rfl (by decide) rfl (fun w1 H locs hI hP hD hS => ?_)
        obtain ⟨v1, rfl⟩ := hI
        replace hP : va_P D cl1 ([(h0, .inr (1, [.ref (a 0), .ref (a 2), .ref (a 3), .ref (a 4), .ref (a 6), .ref (a 8), .int 0, .long 0, .ref (a 9), .ref (a 10), .ref (a 11), .ref (a 12), .ref (a 13), .ref (a 14), .ref (a 15), .ref (a 17), .ref (a 19), .ref (a 21)])), ((a 9), .inr (7, [.int v0, .ref d, .int 0])), ((a 10), .inr (7, [.int v1, .ref d, .int 0])), ((a 11), .inr (7, [.int 0, .ref d, .int 0])), ((a 12), .inr (7, [.int 0, .ref d, .int 0])), ((a 13), .inr (7, [.int 0, .ref d, .int 0])), ((a 14), .inl (t 2, 4, .inr (.inl (fun _ => 0))))]) H := hP
        replace hD : va_D A ([(h0, .inr (1, [.ref (a 0), .ref (a 2), .ref (a 3), .ref (a 4), .ref (a 6), .ref (a 8), .int 0, .long 0, .ref (a 9), .ref (a 10), .ref (a 11), .ref (a 12), .ref (a 13), .ref (a 14), .ref (a 15), .ref (a 17), .ref (a 19), .ref (a 21)])), ((a 9), .inr (7, [.int v0, .ref d, .int 0])), ((a 10), .inr (7, [.int v1, .ref d, .int 0])), ((a 11), .inr (7, [.int 0, .ref d, .int 0])), ((a 12), .inr (7, [.int 0, .ref d, .int 0])), ((a 13), .inr (7, [.int 0, .ref d, .int 0])), ((a 14), .inl (t 2, 4, .inr (.inl (fun _ => 0))))]) := hD
        refine lv_aload_n hx hb dX11_crash_79 rfl (lv_at hl 3 rfl) ?_
        refine r_get hF ci_X11 fl_X11_52 dX11_crash_80 hP (q0 := 0) rfl rfl ?_
        refine r_cWV (As := []) (rest := []) hF mv_X11_195 ci_Jx4a65c (c_clear l D t _ (a 11) 3 d _ rfl _) dX11_crash_83 rfl rfl (by decide) rfl hl.1 (Nat.le_of_ble_eq_true rfl) hP hD hS hA (q0 := 3) rfl (by decide) rfl (fun w1 H locs hI hP hD hS => ?_)
        obtain ⟨v2, rfl⟩ := hI
        replace hP : va_P D cl1 ([(h0, .inr (1, [.ref (a 0), .ref (a 2), .ref (a 3), .ref (a 4), .ref (a 6), .ref (a 8), .int 0, .long 0, .ref (a 9), .ref (a 10), .ref (a 11), .ref (a 12), .ref (a 13), .ref (a 14), .ref (a 15), .ref (a 17), .ref (a 19), .ref (a 21)])), ((a 9), .inr (7, [.int v0, .ref d, .int 0])), ((a 10), .inr (7, [.int v1, .ref d, .int 0])), ((a 11), .inr (7, [.int v2, .ref d, .int 0])), ((a 12), .inr (7, [.int 0, .ref d, .int 0])), ((a 13), .inr (7, [.int 0, .ref d, .int 0])), ((a 14), .inl (t 2, 4, .inr (.inl (fun _ => 0))))]) H := hP
        replace hD : va_D A ([(h0, .inr (1, [.ref (a 0), .ref (a 2), .ref (a 3), .ref (a 4), .ref (a 6), .ref (a 8), .int 0, .long 0, .ref (a 9), .ref (a 10), .ref (a 11), .ref (a 12), .ref (a 13), .ref (a 14), .ref (a 15), .ref (a 17), .ref (a 19), .ref (a 21)])), ((a 9), .inr (7, [.int v0, .ref d, .int 0])), ((a 10), .inr (7, [.int v1, .ref d, .int 0])), ((a 11), .inr (7, [.int v2, .ref d, .int 0])), ((a 12), .inr (7, [.int 0, .ref d, .int 0])), ((a 13), .inr (7, [.int 0, .ref d, .int 0])), ((a 14), .inl (t 2, 4, .inr (.inl (fun _ => 0))))]) := hD
        refine lv_aload_n hx hb dX11_crash_86 rfl (lv_at hl 3 rfl) ?_
        refine r_get hF ci_X11 fl_X11_55 dX11_crash_87 hP (q0 := 0) rfl rfl ?_
        refine r_cWV (As := []) (rest := []) hF mv_X11_195 ci_Jx4a65c (c_clear l D t _ (a 12) 4 d _ rfl _) dX11_crash_90 rfl rfl (by decide) rfl hl.1 (Nat.le_of_ble_eq_true rfl) hP hD hS hA (q0 := 4) rfl (by decide) rfl (fun w1 H locs hI hP hD hS => ?_)
        obtain ⟨v3, rfl⟩ := hI
        replace hP : va_P D cl1 ([(h0, .inr (1, [.ref (a 0), .ref (a 2), .ref (a 3), .ref (a 4), .ref (a 6), .ref (a 8), .int 0, .long 0, .ref (a 9), .ref (a 10), .ref (a 11), .ref (a 12), .ref (a 13), .ref (a 14), .ref (a 15), .ref (a 17), .ref (a 19), .ref (a 21)])), ((a 9), .inr (7, [.int v0, .ref d, .int 0])), ((a 10), .inr (7, [.int v1, .ref d, .int 0])), ((a 11), .inr (7, [.int v2, .ref d, .int 0])), ((a 12), .inr (7, [.int v3, .ref d, .int 0])), ((a 13), .inr (7, [.int 0, .ref d, .int 0])), ((a 14), .inl (t 2, 4, .inr (.inl (fun _ => 0))))]) H := hP
        replace hD : va_D A ([(h0, .inr (1, [.ref (a 0), .ref (a 2), .ref (a 3), .ref (a 4), .ref (a 6), .ref (a 8), .int 0, .long 0, .ref (a 9), .ref (a 10), .ref (a 11), .ref (a 12), .ref (a 13), .ref (a 14), .ref (a 15), .ref (a 17), .ref (a 19), .ref (a 21)])), ((a 9), .inr (7, [.int v0, .ref d, .int 0])), ((a 10), .inr (7, [.int v1, .ref d, .int 0])), ((a 11), .inr (7, [.int v2, .ref d, .int 0])), ((a 12), .inr (7, [.int v3, .ref d, .int 0])), ((a 13), .inr (7, [.int 0, .ref d, .int 0])), ((a 14), .inl (t 2, 4, .inr (.inl (fun _ => 0))))]) := hD
        refine lv_aload_n hx hb dX11_crash_93 rfl (lv_at hl 3 rfl) ?_
        refine r_get hF ci_X11 fl_X11_58 dX11_crash_94 hP (q0 := 0) rfl rfl ?_
        refine r_cWV (As := []) (rest := []) hF mv_X11_195 ci_Jx4a65c (c_clear l D t _ (a 13) 5 d _ rfl _) dX11_crash_97 rfl rfl (by decide) rfl hl.1 (Nat.le_of_ble_eq_true rfl) hP hD hS hA (q0 := 5) rfl (by decide) rfl (fun w1 H locs hI hP hD hS => ?_)
        obtain ⟨v4, rfl⟩ := hI
        replace hP : va_P D cl1 ([(h0, .inr (1, [.ref (a 0), .ref (a 2), .ref (a 3), .ref (a 4), .ref (a 6), .ref (a 8), .int 0, .long 0, .ref (a 9), .ref (a 10), .ref (a 11), .ref (a 12), .ref (a 13), .ref (a 14), .ref (a 15), .ref (a 17), .ref (a 19), .ref (a 21)])), ((a 9), .inr (7, [.int v0, .ref d, .int 0])), ((a 10), .inr (7, [.int v1, .ref d, .int 0])), ((a 11), .inr (7, [.int v2, .ref d, .int 0])), ((a 12), .inr (7, [.int v3, .ref d, .int 0])), ((a 13), .inr (7, [.int v4, .ref d, .int 0])), ((a 14), .inl (t 2, 4, .inr (.inl (fun _ => 0))))]) H := hP
        replace hD : va_D A ([(h0, .inr (1, [.ref (a 0), .ref (a 2), .ref (a 3), .ref (a 4), .ref (a 6), .ref (a 8), .int 0, .long 0, .ref (a 9), .ref (a 10), .ref (a 11), .ref (a 12), .ref (a 13), .ref (a 14), .ref (a 15), .ref (a 17), .ref (a 19), .ref (a 21)])), ((a 9), .inr (7, [.int v0, .ref d, .int 0])), ((a 10), .inr (7, [.int v1, .ref d, .int 0])), ((a 11), .inr (7, [.int v2, .ref d, .int 0])), ((a 12), .inr (7, [.int v3, .ref d, .int 0])), ((a 13), .inr (7, [.int v4, .ref d, .int 0])), ((a 14), .inl (t 2, 4, .inr (.inl (fun _ => 0))))]) := hD
        refine lv_aload_n hx hb dX11_crash_100 rfl (lv_at hl 3 rfl) ?_
        refine r_get hF ci_X11 fl_X11_61 dX11_crash_101 hP (q0 := 0) rfl rfl ?_
        refine lv_lconst (v := 0) hx hb dX11_crash_104 (by decide) ?_
        refine va_callv (r_runS (As := [.ref (a 14), .long 0]) (rest := []) hF ms_X11_198 (c_J7_fill_d0a16 l D t _ (a 14) 4 6 rfl (by decide) _) dX11_crash_105 rfl rfl (by decide) rfl hl.1 (Nat.le_of_ble_eq_true rfl) hP hD (by decide) rfl) hS (fun q _ h => a_in hD hS hA q h) (a_in hD hS hA) (fun _ _ H locs _ _ _ _ _ _ hS => ?_)
        refine lv_iload_n hx hb dX11_crash_108 rfl (lv_at hl 1 rfl) ?_
        exact r_retA hF hr hlk rfl dX11_crash_109 hS (by decide)
    · refine lv_iconst (v := (-1)) hx hb dX11_crash_12 (by decide) ?_
      exact r_retA hF hr hlk rfl dX11_crash_13 hS (by unfold tapeA; rw [if_neg (fun z => h2 (by rw [z]; exact Int32.le_refl 0))])
end
section
def R_law : String := "ShareHouseLaw"
def lw_P (b : Addr) (xs : List Int32) (args : Array Value) (s : State) : Prop := args = #[.ref b] ∧ s.IntsAt b xs ∧ xs.length ≤ 6 ∧ (Jvm.Cond.and given_1 narrow_1).before args s = true
def lw_Q (_ : Array Value) (s : State) (o : Outcome) (t : State) : Prop := o = .returned (some (.int 1)) ∧ Framed s o t [] 600000 7302250
def lw_Z (below : List Frame) (a : Array Value) (s : State) : State → Prop := fun t => ∃ o, t.status = .running ∧ Ended t below o ∧ lw_Q a s o t
/-- the law's own end, with 1 on the stack, nothing written that was there before, its room as the claim has it -/
theorem lw_ret {p : Program} {l : Launch} {e : Env} {s : State} {m : MethodId} {below : List Frame} {meth : Method} {c : Code} {b : Nat} (hx : p.tables.exec = Jvm.exec) (hb : c.code = code) (hr : meth.sig.returnType = ret) (hlocks : meth.locks = false) {pc : Nat} {H : Heap} {ls : Array Slot} (hdg : decode code pc = .ok (.ireturn, 1)) : W p l e room_1 s m #[Value.ref b] below meth c H [] 600000 7302250 (lw_Z below #[Value.ref b] s) (F0 m pc ls [.int 1]) := by
  intro T hT X
  obtain ⟨fs, hret, hrun, hended, hW, hframe⟩ := X.leave (v := some (.int 1)) (hlocks := hlocks) (fun h => by rw [hr] at h; cases h)
  have hmeth' : T.vm.method? m = some meth := X.method'
  refine ⟨T.setFrames fs, ?_, .returned (some (.int 1)), hrun, hended, rfl, ⟨_, rfl⟩, hW, hframe⟩
  jvm_step X.here [X.here.top, hx, hb, hdg, hmeth', hr, ret, narrow_b1]
  (try refine ⟨rfl, ?_⟩); (try refine ⟨rfl, ?_⟩)
  first | (intro acts; rw [hret _ acts rfl rfl rfl]) | rw [hret _ _ rfl rfl rfl]
  exact Steps.refl _
/-- what holds at the law's entry: the machine, the code, the tables' words (any of lw_tbl by 'hts w (by decide +kernel)'), the script of L ints xs at the cell b, what the Statement gives of the start (any of its parts by flat_of_before) -/
def lw_At (p : Program) (s : State) (m : MethodId) (meth : Method) (c : Code) (b L : Nat) (xs : Nat → Int32) : Prop :=
  p.tables.exec = Jvm.exec ∧ c.code = code ∧ meth.sig.returnType = ret ∧ c.maxLocals = 4 ∧ s.vm.findClass R_law = some m.cls ∧ (∀ w ∈ lw_tbl, w.before #[Value.ref b] s = true) ∧ va_X b L xs s s.heap ∧ b < s.heap.size ∧ meth.locks = false ∧ (Jvm.Cond.and given_1 narrow_1).before #[Value.ref b] s = true
set_option maxRecDepth 20000 in
theorem law_K {s : State} {args : Array Value} (hts : ∀ w ∈ lw_tbl, w.before args s = true) : ∃ (D : va_G) (t : Nat → ClassId), va_K D cl1 (tys1 t) s := by
  have hb : ∀ w ∈ big, w.before args s = true := fun w h => hts w (big_tbl w h)
  obtain ⟨c0, i0, k0⟩ := u_known hb lay_X12 (hb (Cond.instantiable RX12 120) (wb 357 rfl))
  obtain ⟨c1, i1, k1⟩ := u_known hb lay_X11 (hb (Cond.instantiable RX11 18) (wb 100 rfl))
  obtain ⟨c2, i2, k2⟩ := u_known hb lay_X6 (hb (Cond.instantiable RX6 2) (wb 17 rfl))
  obtain ⟨c3, i3, k3⟩ := u_known hb lay_X2 (hb (Cond.instantiable RX2 15) (wb 54 rfl))
  obtain ⟨c4, i4, k4⟩ := u_known hb lay_X1 (hb (Cond.instantiable RX1 15) (wb 158 rfl))
  obtain ⟨c5, i5, k5⟩ := u_known hb lay_X4 (hb (Cond.instantiable RX4 14) (wb 32 rfl))
  obtain ⟨c6, i6, k6⟩ := u_known hb lay_X9 (hb (Cond.instantiable RX9 2) (wb 42 rfl))
  obtain ⟨c7, i7, k7⟩ := u_known hb lay_Jx4a65c (hb (Cond.instantiable RJx4a65c 3) (wb 49 rfl))
  obtain ⟨a0, x0, y0, f0, g0, e0⟩ := Cond.arrayClass_spec (hb (Cond.arrayClass .byte) (wb 12 rfl))
  obtain ⟨a1, x1, y1, f1, g1, e1⟩ := Cond.arrayClass_spec (hb (Cond.arrayClass .int) (wb 39 rfl))
  obtain ⟨a2, x2, y2, f2, g2, e2⟩ := Cond.arrayClass_spec (hb (Cond.arrayClass .long) (wb 138 rfl))
  obtain ⟨a3, x3, y3, f3, g3, e3⟩ := Cond.arrayClass_spec (hb (Cond.arrayClass .boolean) (wb 505 rfl))
  obtain ⟨y4, a4, x4, f4, -, g4, e4, n4⟩ := Cond.arrayOver_spec (hts (Cond.arrayOver (.object "ShareHouse$Change")) (tb_1 (List.mem_of_getElem? (i := 156) rfl)))
  obtain ⟨y5, a5, x5, f5, -, g5, e5, n5⟩ := Cond.arrayOver_spec (hts (Cond.arrayOver (.object "ShareHouse$Conn")) (tb_1 (List.mem_of_getElem? (i := 55) rfl)))
  obtain ⟨y6, a6, x6, f6, -, g6, e6, n6⟩ := Cond.arrayOver_spec (hts (Cond.arrayOver (.object "ShareHouse$Node")) (tb_1 (List.mem_of_getElem? (i := 63) rfl)))
  refine ⟨(fun n => match n with | 0 => c0 | 1 => c1 | 2 => c2 | 3 => c3 | 4 => c4 | 5 => c5 | 6 => c6 | _ => c7, fun n => match n with | 0 => i0 | 1 => i1 | 2 => i2 | 3 => i3 | 4 => i4 | 5 => i5 | 6 => i6 | _ => i7), fun n => match n with | 0 => a0 | 1 => a1 | 2 => a2 | 3 => a3 | 4 => a4 | 5 => a5 | _ => a6, ?_, ?_⟩
  · intro n q hq
    match n, hq with
    | 0, h => cases h; exact k0
    | 1, h => cases h; exact k1
    | 2, h => cases h; exact k2
    | 3, h => cases h; exact k3
    | 4, h => cases h; exact k4
    | 5, h => cases h; exact k5
    | 6, h => cases h; exact k6
    | 7, h => cases h; exact k7
    | n + 8, h => simp at h
  · intro n q hq
    match n, hq with
    | 0, h => cases h; exact ⟨fun n z => ⟨fun k h => (by cases h), x0, g0, y0, e0⟩, f0⟩
    | 1, h => cases h; exact ⟨fun n z => ⟨fun k h => (by cases h), x1, g1, y1, e1⟩, f1⟩
    | 2, h => cases h; exact ⟨fun n z => ⟨fun k h => (by cases h), x2, g2, y2, e2⟩, f2⟩
    | 3, h => cases h; exact ⟨fun n z => ⟨fun k h => (by cases h), x3, g3, y3, e3⟩, f3⟩
    | 4, h => cases h; exact ⟨fun n z => ⟨fun k h => (by cases h), x4, g4, y4, e4⟩, x4, y4, g4, e4, f4, n4⟩
    | 5, h => cases h; exact ⟨fun n z => ⟨fun k h => (by cases h), x5, g5, y5, e5⟩, x5, y5, g5, e5, f5, n5⟩
    | 6, h => cases h; exact ⟨fun n z => ⟨fun k h => (by cases h), x6, g6, y6, e6⟩, x6, y6, g6, e6, f6, n6⟩
    | n + 7, h => simp at h
abbrev lA (s : State) : Nat → Prop := fun q => s.heap.size ≤ q
section H30
variable {p : Program} {l : Launch} {e : Env} {R : Room} {s : State} {m : MethodId} {args : Array Value} {below : List Frame} {meth : Method} {c : Code} {H : Heap} {locs : List Loc} {cells slots : Nat} {Q : State → Prop} {cc : ByteArray} {pc : Nat} {ls : Array Slot} {rest : List Value} {D : va_G} {t : Nat → ClassId} {A : Nat → Prop} {H0 : Heap} {ws : va_W} {own : String} {nL : Nat}
variable {C : String} {y : MethodName} {bytes : ByteArray} {maxL n index : Nat} {ret : Option FieldType} {rm : Room} {As st0 : List Value} {b q0 ci N : Nat} {fs : List Value} {T : u_T} {ty : Nat → FieldType}
theorem r_cAI {v : Int32} {wc X : va_W} (hF : FX p m c cc nL s args own D t) (hm : MV own index C y bytes maxL ret n) (hC : CI ci C T N ty) (hM : AI l D t y bytes maxL ret rm wc H.size (.ref b :: As) v) (hdg : decode cc pc = .ok (.invokevirtual index, 3)) (hrc : rm.cells = 0) (hrs : rm.slots = 0) (hR : rm.frames + 1 ≤ R.frames ∧ 8 + (maxL + 11) + rm.locals ≤ R.locals) (hn : As.length = n) (hls : ls.size = nL) (hW : (rest.map fun v => v.category).sum ≤ 8) (hP : va_P D cl1 (wc ++ X) H) (hD : va_D A (wc ++ X)) (hS : va_S A H0 H locs) (hA : ∀ q, H0.size ≤ q → A q) (he : wc[q0]? = some (b, .inr (ci, fs))) (hf : cells ≤ R.cells ∧ slots ≤ R.slots) (hst : st0 = As.reverse ++ .ref b :: rest)
    (kk : ∀ (H1 : Heap) (locs1 : List Loc), va_P D cl1 X H1 → va_S A H0 H1 locs1 → W p l e R s m args below meth c H1 locs1 cells slots Q (F0 m (pc + 3) ls (.int v :: rest))) : W p l e R s m args below meth c H locs cells slots Q (F0 m pc ls st0) := by
  refine va_calli (r_runV hF hm hC hM hdg hrc hrs hR hn hls hW (P_left hP) (D_left hD) he hf hst) hS (fun q _ h => a_in (D_left hD) hS hA q h) (a_in (D_left hD) hS hA) (fun r u t1 H1 locs1 ht _ hw _ _ hk1 hS1 => ?_)
  subst hw
  exact kk H1 locs1 (P_rest hP hD hk1).1 hS1
theorem r_sld {b L : Nat} {xs : Nat → Int32} {i v : Int32} (hF : FX p m c cc nL s args own D t) (hX : va_X b L xs s s.heap) (hbl : b < s.heap.size) (hS : va_S (lA s) s.heap H locs) (hin : vp_in i L) (hv : xs i.toNatClampNeg = v) (hdg : decode cc pc = .ok (.iaload, 1)) (kk : W p l e R s m args below meth c H locs cells slots Q (F0 m (pc + 1) ls (.int v :: rest))) : W p l e R s m args below meth c H locs cells slots Q (F0 m pc ls (.int i :: .ref b :: rest)) :=
  va_sld hF.1.1 hF.1.2.1 hX hbl (Nat.not_le.mpr hbl) hS hin hdg (by rw [hv]; exact kk)
theorem r_slen {b L : Nat} {xs : Nat → Int32} (hF : FX p m c cc nL s args own D t) (hX : va_X b L xs s s.heap) (hbl : b < s.heap.size) (hS : va_S (lA s) s.heap H locs) (hdg : decode cc pc = .ok (.arraylength, 1)) (kk : W p l e R s m args below meth c H locs cells slots Q (F0 m (pc + 1) ls (.int (nI L) :: rest))) : W p l e R s m args below meth c H locs cells slots Q (F0 m pc ls (.ref b :: rest)) :=
  va_slen hF.1.1 hF.1.2.1 hX hbl (Nat.not_le.mpr hbl) hS hdg kk
end H30
set_option maxRecDepth 100000 in
set_option maxHeartbeats 4000000 in
theorem law_end {p : Program} {l : Launch} {e : Env} {s : State} {m : MethodId} {below : List Frame} {meth : Method} {c : Code} {H : Heap} {locs : List Loc} {cells slots : Nat} {ls : Array Slot} {D : va_G} {t : Nat → ClassId} {b : Nat} (hF : FX p m c code 4 s #[Value.ref b] RL D t) (hr : meth.sig.returnType = ret) (hlk : meth.locks = false) (hS : va_S (lA s) s.heap H locs) (hc : cells ≤ 600000) (hs : slots ≤ 7302250) : W p l e room_1 s m #[Value.ref b] below meth c H locs cells slots (lw_Z below #[Value.ref b] s) (F0 m 455 ls []) := by
  have hx := hF.1.1
  have hb := hF.1.2.1
  refine lv_iconst (v := 1) hx hb dL_law_455 (by decide) ?_
  refine va_forget (fun q hq => hS.2.2 q hq) ?_
  refine W.widen (k := 600000) (n := 7302250) hc hs ?_
  exact lw_ret hx hb hr hlk dL_law_456
set_option maxRecDepth 100000 in
set_option maxHeartbeats 4000000 in
theorem law_tail {p : Program} {l : Launch} {e : Env} {s : State} {m : MethodId} {below : List Frame} {meth : Method} {c : Code} {H : Heap} {locs : List Loc} {cells slots : Nat} {ls : Array Slot} {D : va_G} {t : Nat → ClassId} {b : Nat} {xx mm : Nat} {xs : Nat → Int32} (hF : FX p m c code 4 s #[Value.ref b] RL D t) (hr : meth.sig.returnType = ret) (hlk : meth.locks = false) (hX : va_X b 6 xs s s.heap) (hbl : b < s.heap.size) (hl : lv_has ls 4 [(3, .int 0), (2, .ref mm), (1, .ref xx), (0, .ref b)]) (hS : va_S (lA s) s.heap H locs) (hc : cells ≤ 600000) (hs : slots ≤ 7302250) : W p l e room_1 s m #[Value.ref b] below meth c H locs cells slots (lw_Z below #[Value.ref b] s) (F0 m 449 ls []) := by
  have hx := hF.1.1
  have hb := hF.1.2.1
  refine lv_iinc (lv' := [(3, .int 6), (2, .ref mm), (1, .ref xx), (0, .ref b)]) (k := 0) (v := 6) hx hb dL_law_449 hl rfl (by decide) (by decide) rfl (fun ls hl => ?_)
  refine lv_goto (tgt := 18) hx hb dL_law_452 rfl ?_
  refine lv_iload_n hx hb dL_law_18 rfl (lv_at hl 0 rfl) ?_
  refine lv_aload_n hx hb dL_law_19 rfl (lv_at hl 3 rfl) ?_
  refine r_slen hF hX hbl hS dL_law_20 ?_
  refine lv_bipush (v := 6) hx hb dL_law_21 (by decide) ?_
  refine lv_isub hx hb dL_law_23 ?_
  refine lv_icmp_gt (tgt := 455) hx hb dL_law_24 rfl (fun _ => ?_) (fun h => absurd (by decide) h)
  exact law_end hF hr hlk hS hc hs
set_option maxRecDepth 100000 in
set_option maxHeartbeats 4000000 in
theorem law_feed {p : Program} {l : Launch} {e : Env} {s : State} {m : MethodId} {below : List Frame} {meth : Method} {c : Code} {H : Heap} {locs : List Loc} {cells slots : Nat} {ls : Array Slot} {D : va_G} {t : Nat → ClassId} {b : Nat} {xx mm : Nat} {xs : Nat → Int32} (hF : FX p m c code 4 s #[Value.ref b] RL D t) (hr : meth.sig.returnType = ret) (hlk : meth.locks = false) (hX : va_X b 6 xs s s.heap) (hbl : b < s.heap.size) (a : Nat → Nat) (fc fl fd fw : Nat → Option Nat) (fr : Nat → Int32) (T : va_W) (Lm : Nat → Nat) (sr : Nat → Int32) (dd : Nat) (hcn : connsIn t T fc 6) (hnl : nodesIn t T fl 80) (hnd : nodesIn t T fd 80) (hfr : ∀ i, i < 4 → fr i = -1) (hsr : ∀ i, i < 4 → sr i = -1) (hl : lv_has ls 4 [(3, .int 0), (2, .ref mm), (1, .ref xx), (0, .ref b)]) (hP : va_P D cl1 ((hW t dd xx a fc fl fd fw fr T) ++ (mW t mm Lm sr)) H) (hD : va_D (lA s) ((hW t dd xx a fc fl fd fw fr T) ++ (mW t mm Lm sr))) (hS : va_S (lA s) s.heap H locs) (hc : cells ≤ 600000) (hs : slots ≤ 7302250) : W p l e room_1 s m #[Value.ref b] below meth c H locs cells slots (lw_Z below #[Value.ref b] s) (F0 m 100 ls []) := by
  have hx := hF.1.1
  have hb := hF.1.2.1
  have hA : ∀ q, s.heap.size ≤ q → lA s q := fun q h => h
  refine lv_aload_n hx hb dL_law_100 rfl (lv_at hl 2 rfl) ?_
  refine lv_aload_n hx hb dL_law_101 rfl (lv_at hl 3 rfl) ?_
  refine lv_iload_n hx hb dL_law_102 rfl (lv_at hl 0 rfl) ?_
  refine lv_iconst (v := 1) hx hb dL_law_103 (by decide) ?_
  refine lv_iadd hx hb dL_law_104 ?_
  refine r_sld (v := xs 1) hF hX hbl hS (by unfold vp_in; decide) rfl dL_law_105 ?_
  refine lv_aload_n hx hb dL_law_106 rfl (lv_at hl 3 rfl) ?_
  refine lv_iload_n hx hb dL_law_107 rfl (lv_at hl 0 rfl) ?_
  refine lv_iconst (v := 2) hx hb dL_law_108 (by decide) ?_
  refine lv_iadd hx hb dL_law_109 ?_
  refine r_sld (v := xs 2) hF hX hbl hS (by unfold vp_in; decide) rfl dL_law_110 ?_
  refine lv_aload_n hx hb dL_law_111 rfl (lv_at hl 3 rfl) ?_
  refine lv_iload_n hx hb dL_law_112 rfl (lv_at hl 0 rfl) ?_
  refine lv_iconst (v := 3) hx hb dL_law_113 (by decide) ?_
  refine lv_iadd hx hb dL_law_114 ?_
  refine r_sld (v := xs 3) hF hX hbl hS (by unfold vp_in; decide) rfl dL_law_115 ?_
  refine lv_aload_n hx hb dL_law_116 rfl (lv_at hl 3 rfl) ?_
  refine lv_iload_n hx hb dL_law_117 rfl (lv_at hl 0 rfl) ?_
  refine lv_iconst (v := 4) hx hb dL_law_118 (by decide) ?_
  refine lv_iadd hx hb dL_law_119 ?_
  refine r_sld (v := xs 4) hF hX hbl hS (by unfold vp_in; decide) rfl dL_law_120 ?_
  refine lv_aload_n hx hb dL_law_121 rfl (lv_at hl 3 rfl) ?_
  refine lv_iload_n hx hb dL_law_122 rfl (lv_at hl 0 rfl) ?_
  refine lv_iconst (v := 5) hx hb dL_law_123 (by decide) ?_
  refine lv_iadd hx hb dL_law_124 ?_
  refine r_sld (v := xs 5) hF hX hbl hS (by unfold vp_in; decide) rfl dL_law_125 ?_
  refine r_cAI (v := 20) (wc := (hW t dd xx a fc fl fd fw fr T)) (X := (mW t mm Lm sr)) (As := [.int (xs 1), .int (xs 2), .int (xs 3), .int (xs 4), .int (xs 5)]) (rest := []) hF mv_L_13 ci_X11 (c_X11_feed l D t dd xx a fc fl fd fw fr T (xs 1) (xs 2) (xs 3) (xs 4) (xs 5) _) dL_law_126 rfl rfl (Nat.le_of_ble_eq_true rfl |> fun h => ⟨h, Nat.le_of_ble_eq_true rfl⟩) rfl hl.1 (Nat.le_of_ble_eq_true rfl) hP hD hS hA (q0 := 23) rfl ⟨hc, hs⟩ rfl (fun H locs hP hS => ?_)
  have hD := D_right hD
  have hP : va_P D cl1 ((mW t mm Lm sr) ++ ([] : va_W)) H := by rw [List.append_nil]; exact hP
  have hD : va_D (lA s) ((mW t mm Lm sr) ++ ([] : va_W)) := by rw [List.append_nil]; exact hD
  refine lv_aload_n hx hb dL_law_129 rfl (lv_at hl 1 rfl) ?_
  refine lv_aload_n hx hb dL_law_130 rfl (lv_at hl 3 rfl) ?_
  refine lv_iload_n hx hb dL_law_131 rfl (lv_at hl 0 rfl) ?_
  refine lv_iconst (v := 1) hx hb dL_law_132 (by decide) ?_
  refine lv_iadd hx hb dL_law_133 ?_
  refine r_sld (v := xs 1) hF hX hbl hS (by unfold vp_in; decide) rfl dL_law_134 ?_
  refine lv_aload_n hx hb dL_law_135 rfl (lv_at hl 3 rfl) ?_
  refine lv_iload_n hx hb dL_law_136 rfl (lv_at hl 0 rfl) ?_
  refine lv_iconst (v := 2) hx hb dL_law_137 (by decide) ?_
  refine lv_iadd hx hb dL_law_138 ?_
  refine r_sld (v := xs 2) hF hX hbl hS (by unfold vp_in; decide) rfl dL_law_139 ?_
  refine lv_aload_n hx hb dL_law_140 rfl (lv_at hl 3 rfl) ?_
  refine lv_iload_n hx hb dL_law_141 rfl (lv_at hl 0 rfl) ?_
  refine lv_iconst (v := 3) hx hb dL_law_142 (by decide) ?_
  refine lv_iadd hx hb dL_law_143 ?_
  refine r_sld (v := xs 3) hF hX hbl hS (by unfold vp_in; decide) rfl dL_law_144 ?_
  refine lv_aload_n hx hb dL_law_145 rfl (lv_at hl 3 rfl) ?_
  refine lv_iload_n hx hb dL_law_146 rfl (lv_at hl 0 rfl) ?_
  refine lv_iconst (v := 4) hx hb dL_law_147 (by decide) ?_
  refine lv_iadd hx hb dL_law_148 ?_
  refine r_sld (v := xs 4) hF hX hbl hS (by unfold vp_in; decide) rfl dL_law_149 ?_
  refine lv_aload_n hx hb dL_law_150 rfl (lv_at hl 3 rfl) ?_
  refine lv_iload_n hx hb dL_law_151 rfl (lv_at hl 0 rfl) ?_
  refine lv_iconst (v := 5) hx hb dL_law_152 (by decide) ?_
  refine lv_iadd hx hb dL_law_153 ?_
  refine r_sld (v := xs 5) hF hX hbl hS (by unfold vp_in; decide) rfl dL_law_154 ?_
  refine r_cAI (v := 20) (wc := (mW t mm Lm sr)) (X := []) (As := [.int (xs 1), .int (xs 2), .int (xs 3), .int (xs 4), .int (xs 5)]) (rest := [.int 20]) hF mv_L_17 ci_X12 (c_X12_feed l D t mm Lm sr (xs 1) (xs 2) (xs 3) (xs 4) (xs 5) _) dL_law_155 rfl rfl (Nat.le_of_ble_eq_true rfl |> fun h => ⟨h, Nat.le_of_ble_eq_true rfl⟩) rfl hl.1 (Nat.le_of_ble_eq_true rfl) hP hD hS hA (q0 := 0) rfl ⟨hc, hs⟩ rfl (fun H locs hP hS => ?_)
  refine lv_icmp_eq (tgt := 449) hx hb dL_law_158 rfl (fun _ => ?_) (fun h => absurd rfl h)
  exact law_tail hF hr hlk hX hbl hl hS hc hs
set_option maxRecDepth 100000 in
set_option maxHeartbeats 4000000 in
theorem law_cut {p : Program} {l : Launch} {e : Env} {s : State} {m : MethodId} {below : List Frame} {meth : Method} {c : Code} {H : Heap} {locs : List Loc} {cells slots : Nat} {ls : Array Slot} {D : va_G} {t : Nat → ClassId} {b : Nat} {xx mm : Nat} {xs : Nat → Int32} (hF : FX p m c code 4 s #[Value.ref b] RL D t) (hr : meth.sig.returnType = ret) (hlk : meth.locks = false) (hX : va_X b 6 xs s s.heap) (hbl : b < s.heap.size) (a : Nat → Nat) (fc fl fd fw : Nat → Option Nat) (fr : Nat → Int32) (T : va_W) (Lm : Nat → Nat) (sr : Nat → Int32) (dd : Nat) (hcn : connsIn t T fc 6) (hnl : nodesIn t T fl 80) (hnd : nodesIn t T fd 80) (hfr : ∀ i, i < 4 → fr i = -1) (hsr : ∀ i, i < 4 → sr i = -1) (hl : lv_has ls 4 [(3, .int 0), (2, .ref mm), (1, .ref xx), (0, .ref b)]) (hP : va_P D cl1 ((hW t dd xx a fc fl fd fw fr T) ++ (mW t mm Lm sr)) H) (hD : va_D (lA s) ((hW t dd xx a fc fl fd fw fr T) ++ (mW t mm Lm sr))) (hS : va_S (lA s) s.heap H locs) (hc : cells ≤ 600000) (hs : slots ≤ 7302250) : W p l e room_1 s m #[Value.ref b] below meth c H locs cells slots (lw_Z below #[Value.ref b] s) (F0 m 163 ls []) := by
  have hx := hF.1.1
  have hb := hF.1.2.1
  have hA : ∀ q, s.heap.size ≤ q → lA s q := fun q h => h
  refine lv_aload_n hx hb dL_law_163 rfl (lv_at hl 2 rfl) ?_
  refine lv_aload_n hx hb dL_law_164 rfl (lv_at hl 3 rfl) ?_
  refine lv_iload_n hx hb dL_law_165 rfl (lv_at hl 0 rfl) ?_
  refine lv_iconst (v := 1) hx hb dL_law_166 (by decide) ?_
  refine lv_iadd hx hb dL_law_167 ?_
  refine r_sld (v := xs 1) hF hX hbl hS (by unfold vp_in; decide) rfl dL_law_168 ?_
  refine r_cAI (v := (tapeA (xs 1))) (wc := (hW t dd xx a fc fl fd fw fr T)) (X := (mW t mm Lm sr)) (As := [.int (xs 1)]) (rest := []) hF mv_L_18 ci_X11 (c_X11_cut l D t dd xx a fc fl fd fw fr T (xs 1) _) dL_law_169 rfl rfl (Nat.le_of_ble_eq_true rfl |> fun h => ⟨h, Nat.le_of_ble_eq_true rfl⟩) rfl hl.1 (Nat.le_of_ble_eq_true rfl) hP hD hS hA (q0 := 23) rfl ⟨hc, hs⟩ rfl (fun H locs hP hS => ?_)
  have hD := D_right hD
  have hP : va_P D cl1 ((mW t mm Lm sr) ++ ([] : va_W)) H := by rw [List.append_nil]; exact hP
  have hD : va_D (lA s) ((mW t mm Lm sr) ++ ([] : va_W)) := by rw [List.append_nil]; exact hD
  refine lv_aload_n hx hb dL_law_172 rfl (lv_at hl 1 rfl) ?_
  refine lv_aload_n hx hb dL_law_173 rfl (lv_at hl 3 rfl) ?_
  refine lv_iload_n hx hb dL_law_174 rfl (lv_at hl 0 rfl) ?_
  refine lv_iconst (v := 1) hx hb dL_law_175 (by decide) ?_
  refine lv_iadd hx hb dL_law_176 ?_
  refine r_sld (v := xs 1) hF hX hbl hS (by unfold vp_in; decide) rfl dL_law_177 ?_
  refine r_cAI (v := (tapeA (xs 1))) (wc := (mW t mm Lm sr)) (X := []) (As := [.int (xs 1)]) (rest := [.int (tapeA (xs 1))]) hF mv_L_22 ci_X12 (c_X12_cut l D t mm Lm sr (xs 1) _) dL_law_178 rfl rfl (Nat.le_of_ble_eq_true rfl |> fun h => ⟨h, Nat.le_of_ble_eq_true rfl⟩) rfl hl.1 (Nat.le_of_ble_eq_true rfl) hP hD hS hA (q0 := 0) rfl ⟨hc, hs⟩ rfl (fun H locs hP hS => ?_)
  refine lv_icmp_eq (tgt := 449) hx hb dL_law_181 rfl (fun _ => ?_) (fun h => absurd rfl h)
  exact law_tail hF hr hlk hX hbl hl hS hc hs
set_option maxRecDepth 100000 in
set_option maxHeartbeats 4000000 in
theorem law_share {p : Program} {l : Launch} {e : Env} {s : State} {m : MethodId} {below : List Frame} {meth : Method} {c : Code} {H : Heap} {locs : List Loc} {cells slots : Nat} {ls : Array Slot} {D : va_G} {t : Nat → ClassId} {b : Nat} {xx mm : Nat} {xs : Nat → Int32} (hF : FX p m c code 4 s #[Value.ref b] RL D t) (hr : meth.sig.returnType = ret) (hlk : meth.locks = false) (hX : va_X b 6 xs s s.heap) (hbl : b < s.heap.size) (a : Nat → Nat) (fc fl fd fw : Nat → Option Nat) (fr : Nat → Int32) (T : va_W) (Lm : Nat → Nat) (sr : Nat → Int32) (dd : Nat) (hcn : connsIn t T fc 6) (hnl : nodesIn t T fl 80) (hnd : nodesIn t T fd 80) (hfr : ∀ i, i < 4 → fr i = -1) (hsr : ∀ i, i < 4 → sr i = -1) (hl : lv_has ls 4 [(3, .int 0), (2, .ref mm), (1, .ref xx), (0, .ref b)]) (hP : va_P D cl1 ((hW t dd xx a fc fl fd fw fr T) ++ (mW t mm Lm sr)) H) (hD : va_D (lA s) ((hW t dd xx a fc fl fd fw fr T) ++ (mW t mm Lm sr))) (hS : va_S (lA s) s.heap H locs) (hc : cells ≤ 600000) (hs : slots ≤ 7302250) : W p l e room_1 s m #[Value.ref b] below meth c H locs cells slots (lw_Z below #[Value.ref b] s) (F0 m 186 ls []) := by
  have hx := hF.1.1
  have hb := hF.1.2.1
  have hA : ∀ q, s.heap.size ≤ q → lA s q := fun q h => h
  refine lv_aload_n hx hb dL_law_186 rfl (lv_at hl 2 rfl) ?_
  refine lv_aload_n hx hb dL_law_187 rfl (lv_at hl 3 rfl) ?_
  refine lv_iload_n hx hb dL_law_188 rfl (lv_at hl 0 rfl) ?_
  refine lv_iconst (v := 1) hx hb dL_law_189 (by decide) ?_
  refine lv_iadd hx hb dL_law_190 ?_
  refine r_sld (v := xs 1) hF hX hbl hS (by unfold vp_in; decide) rfl dL_law_191 ?_
  refine r_cAI (v := 0) (wc := (hW t dd xx a fc fl fd fw fr T)) (X := (mW t mm Lm sr)) (As := [.int (xs 1)]) (rest := []) hF mv_L_23 ci_X11 (c_X11_share l D t dd xx a fc fl fd fw fr T hfr (xs 1) _) dL_law_192 rfl rfl (Nat.le_of_ble_eq_true rfl |> fun h => ⟨h, Nat.le_of_ble_eq_true rfl⟩) rfl hl.1 (Nat.le_of_ble_eq_true rfl) hP hD hS hA (q0 := 23) rfl ⟨hc, hs⟩ rfl (fun H locs hP hS => ?_)
  have hD := D_right hD
  have hP : va_P D cl1 ((mW t mm Lm sr) ++ ([] : va_W)) H := by rw [List.append_nil]; exact hP
  have hD : va_D (lA s) ((mW t mm Lm sr) ++ ([] : va_W)) := by rw [List.append_nil]; exact hD
  refine lv_aload_n hx hb dL_law_195 rfl (lv_at hl 1 rfl) ?_
  refine lv_aload_n hx hb dL_law_196 rfl (lv_at hl 3 rfl) ?_
  refine lv_iload_n hx hb dL_law_197 rfl (lv_at hl 0 rfl) ?_
  refine lv_iconst (v := 1) hx hb dL_law_198 (by decide) ?_
  refine lv_iadd hx hb dL_law_199 ?_
  refine r_sld (v := xs 1) hF hX hbl hS (by unfold vp_in; decide) rfl dL_law_200 ?_
  refine r_cAI (v := 0) (wc := (mW t mm Lm sr)) (X := []) (As := [.int (xs 1)]) (rest := [.int 0]) hF mv_L_27 ci_X12 (c_X12_share l D t mm Lm sr hsr (xs 1) _) dL_law_201 rfl rfl (Nat.le_of_ble_eq_true rfl |> fun h => ⟨h, Nat.le_of_ble_eq_true rfl⟩) rfl hl.1 (Nat.le_of_ble_eq_true rfl) hP hD hS hA (q0 := 0) rfl ⟨hc, hs⟩ rfl (fun H locs hP hS => ?_)
  refine lv_icmp_eq (tgt := 449) hx hb dL_law_204 rfl (fun _ => ?_) (fun h => absurd rfl h)
  exact law_tail hF hr hlk hX hbl hl hS hc hs
set_option maxRecDepth 100000 in
set_option maxHeartbeats 4000000 in
theorem law_connect {p : Program} {l : Launch} {e : Env} {s : State} {m : MethodId} {below : List Frame} {meth : Method} {c : Code} {H : Heap} {locs : List Loc} {cells slots : Nat} {ls : Array Slot} {D : va_G} {t : Nat → ClassId} {b : Nat} {xx mm : Nat} {xs : Nat → Int32} (hF : FX p m c code 4 s #[Value.ref b] RL D t) (hr : meth.sig.returnType = ret) (hlk : meth.locks = false) (hX : va_X b 6 xs s s.heap) (hbl : b < s.heap.size) (a : Nat → Nat) (fc fl fd fw : Nat → Option Nat) (fr : Nat → Int32) (T : va_W) (Lm : Nat → Nat) (sr : Nat → Int32) (dd : Nat) (hcn : connsIn t T fc 6) (hnl : nodesIn t T fl 80) (hnd : nodesIn t T fd 80) (hfr : ∀ i, i < 4 → fr i = -1) (hsr : ∀ i, i < 4 → sr i = -1) (hl : lv_has ls 4 [(3, .int 0), (2, .ref mm), (1, .ref xx), (0, .ref b)]) (hP : va_P D cl1 ((hW t dd xx a fc fl fd fw fr T) ++ (mW t mm Lm sr)) H) (hD : va_D (lA s) ((hW t dd xx a fc fl fd fw fr T) ++ (mW t mm Lm sr))) (hS : va_S (lA s) s.heap H locs) (hc : cells ≤ 600000) (hs : slots ≤ 7302250) : W p l e room_1 s m #[Value.ref b] below meth c H locs cells slots (lw_Z below #[Value.ref b] s) (F0 m 209 ls []) := by
  have hx := hF.1.1
  have hb := hF.1.2.1
  have hA : ∀ q, s.heap.size ≤ q → lA s q := fun q h => h
  refine lv_aload_n hx hb dL_law_209 rfl (lv_at hl 2 rfl) ?_
  refine lv_aload_n hx hb dL_law_210 rfl (lv_at hl 3 rfl) ?_
  refine lv_iload_n hx hb dL_law_211 rfl (lv_at hl 0 rfl) ?_
  refine lv_iconst (v := 1) hx hb dL_law_212 (by decide) ?_
  refine lv_iadd hx hb dL_law_213 ?_
  refine r_sld (v := xs 1) hF hX hbl hS (by unfold vp_in; decide) rfl dL_law_214 ?_
  refine r_cAI (v := (lineA (xs 1) 1 0)) (wc := (hW t dd xx a fc fl fd fw fr T)) (X := (mW t mm Lm sr)) (As := [.int (xs 1)]) (rest := []) hF mv_L_28 ci_X11 (c_X11_connect l D t dd xx a fc fl fd fw fr T hcn (xs 1) _) dL_law_215 rfl rfl (Nat.le_of_ble_eq_true rfl |> fun h => ⟨h, Nat.le_of_ble_eq_true rfl⟩) rfl hl.1 (Nat.le_of_ble_eq_true rfl) hP hD hS hA (q0 := 23) rfl ⟨hc, hs⟩ rfl (fun H locs hP hS => ?_)
  have hD := D_right hD
  have hP : va_P D cl1 ((mW t mm Lm sr) ++ ([] : va_W)) H := by rw [List.append_nil]; exact hP
  have hD : va_D (lA s) ((mW t mm Lm sr) ++ ([] : va_W)) := by rw [List.append_nil]; exact hD
  refine lv_aload_n hx hb dL_law_218 rfl (lv_at hl 1 rfl) ?_
  refine lv_aload_n hx hb dL_law_219 rfl (lv_at hl 3 rfl) ?_
  refine lv_iload_n hx hb dL_law_220 rfl (lv_at hl 0 rfl) ?_
  refine lv_iconst (v := 1) hx hb dL_law_221 (by decide) ?_
  refine lv_iadd hx hb dL_law_222 ?_
  refine r_sld (v := xs 1) hF hX hbl hS (by unfold vp_in; decide) rfl dL_law_223 ?_
  refine r_cAI (v := (lineA (xs 1) 1 0)) (wc := (mW t mm Lm sr)) (X := []) (As := [.int (xs 1)]) (rest := [.int (lineA (xs 1) 1 0)]) hF mv_L_31 ci_X12 (c_X12_connect l D t mm Lm sr (xs 1) _) dL_law_224 rfl rfl (Nat.le_of_ble_eq_true rfl |> fun h => ⟨h, Nat.le_of_ble_eq_true rfl⟩) rfl hl.1 (Nat.le_of_ble_eq_true rfl) hP hD hS hA (q0 := 0) rfl ⟨hc, hs⟩ rfl (fun H locs hP hS => ?_)
  refine lv_icmp_eq (tgt := 449) hx hb dL_law_227 rfl (fun _ => ?_) (fun h => absurd rfl h)
  exact law_tail hF hr hlk hX hbl hl hS hc hs
set_option maxRecDepth 100000 in
set_option maxHeartbeats 4000000 in
theorem law_hang {p : Program} {l : Launch} {e : Env} {s : State} {m : MethodId} {below : List Frame} {meth : Method} {c : Code} {H : Heap} {locs : List Loc} {cells slots : Nat} {ls : Array Slot} {D : va_G} {t : Nat → ClassId} {b : Nat} {xx mm : Nat} {xs : Nat → Int32} (hF : FX p m c code 4 s #[Value.ref b] RL D t) (hr : meth.sig.returnType = ret) (hlk : meth.locks = false) (hX : va_X b 6 xs s s.heap) (hbl : b < s.heap.size) (a : Nat → Nat) (fc fl fd fw : Nat → Option Nat) (fr : Nat → Int32) (T : va_W) (Lm : Nat → Nat) (sr : Nat → Int32) (dd : Nat) (hcn : connsIn t T fc 6) (hnl : nodesIn t T fl 80) (hnd : nodesIn t T fd 80) (hfr : ∀ i, i < 4 → fr i = -1) (hsr : ∀ i, i < 4 → sr i = -1) (hl : lv_has ls 4 [(3, .int 0), (2, .ref mm), (1, .ref xx), (0, .ref b)]) (hP : va_P D cl1 ((hW t dd xx a fc fl fd fw fr T) ++ (mW t mm Lm sr)) H) (hD : va_D (lA s) ((hW t dd xx a fc fl fd fw fr T) ++ (mW t mm Lm sr))) (hS : va_S (lA s) s.heap H locs) (hc : cells ≤ 600000) (hs : slots ≤ 7302250) : W p l e room_1 s m #[Value.ref b] below meth c H locs cells slots (lw_Z below #[Value.ref b] s) (F0 m 232 ls []) := by
  have hx := hF.1.1
  have hb := hF.1.2.1
  have hA : ∀ q, s.heap.size ≤ q → lA s q := fun q h => h
  refine lv_aload_n hx hb dL_law_232 rfl (lv_at hl 2 rfl) ?_
  refine lv_aload_n hx hb dL_law_233 rfl (lv_at hl 3 rfl) ?_
  refine lv_iload_n hx hb dL_law_234 rfl (lv_at hl 0 rfl) ?_
  refine lv_iconst (v := 1) hx hb dL_law_235 (by decide) ?_
  refine lv_iadd hx hb dL_law_236 ?_
  refine r_sld (v := xs 1) hF hX hbl hS (by unfold vp_in; decide) rfl dL_law_237 ?_
  refine r_cAI (v := 0) (wc := (hW t dd xx a fc fl fd fw fr T)) (X := (mW t mm Lm sr)) (As := [.int (xs 1)]) (rest := []) hF mv_L_32 ci_X11 (c_X11_hang l D t dd xx a fc fl fd fw fr T hcn (xs 1) _) dL_law_238 rfl rfl (Nat.le_of_ble_eq_true rfl |> fun h => ⟨h, Nat.le_of_ble_eq_true rfl⟩) rfl hl.1 (Nat.le_of_ble_eq_true rfl) hP hD hS hA (q0 := 23) rfl ⟨hc, hs⟩ rfl (fun H locs hP hS => ?_)
  have hD := D_right hD
  have hP : va_P D cl1 ((mW t mm Lm sr) ++ ([] : va_W)) H := by rw [List.append_nil]; exact hP
  have hD : va_D (lA s) ((mW t mm Lm sr) ++ ([] : va_W)) := by rw [List.append_nil]; exact hD
  refine lv_aload_n hx hb dL_law_241 rfl (lv_at hl 1 rfl) ?_
  refine lv_aload_n hx hb dL_law_242 rfl (lv_at hl 3 rfl) ?_
  refine lv_iload_n hx hb dL_law_243 rfl (lv_at hl 0 rfl) ?_
  refine lv_iconst (v := 1) hx hb dL_law_244 (by decide) ?_
  refine lv_iadd hx hb dL_law_245 ?_
  refine r_sld (v := xs 1) hF hX hbl hS (by unfold vp_in; decide) rfl dL_law_246 ?_
  refine r_cAI (v := 0) (wc := (mW t mm Lm sr)) (X := []) (As := [.int (xs 1)]) (rest := [.int 0]) hF mv_L_35 ci_X12 (c_X12_hang l D t mm Lm sr (xs 1) _) dL_law_247 rfl rfl (Nat.le_of_ble_eq_true rfl |> fun h => ⟨h, Nat.le_of_ble_eq_true rfl⟩) rfl hl.1 (Nat.le_of_ble_eq_true rfl) hP hD hS hA (q0 := 0) rfl ⟨hc, hs⟩ rfl (fun H locs hP hS => ?_)
  refine lv_icmp_eq (tgt := 449) hx hb dL_law_250 rfl (fun _ => ?_) (fun h => absurd rfl h)
  exact law_tail hF hr hlk hX hbl hl hS hc hs
set_option maxRecDepth 100000 in
set_option maxHeartbeats 4000000 in
theorem law_come {p : Program} {l : Launch} {e : Env} {s : State} {m : MethodId} {below : List Frame} {meth : Method} {c : Code} {H : Heap} {locs : List Loc} {cells slots : Nat} {ls : Array Slot} {D : va_G} {t : Nat → ClassId} {b : Nat} {xx mm : Nat} {xs : Nat → Int32} (hF : FX p m c code 4 s #[Value.ref b] RL D t) (hr : meth.sig.returnType = ret) (hlk : meth.locks = false) (hX : va_X b 6 xs s s.heap) (hbl : b < s.heap.size) (a : Nat → Nat) (fc fl fd fw : Nat → Option Nat) (fr : Nat → Int32) (T : va_W) (Lm : Nat → Nat) (sr : Nat → Int32) (dd : Nat) (hcn : connsIn t T fc 6) (hnl : nodesIn t T fl 80) (hnd : nodesIn t T fd 80) (hfr : ∀ i, i < 4 → fr i = -1) (hsr : ∀ i, i < 4 → sr i = -1) (hl : lv_has ls 4 [(3, .int 0), (2, .ref mm), (1, .ref xx), (0, .ref b)]) (hP : va_P D cl1 ((hW t dd xx a fc fl fd fw fr T) ++ (mW t mm Lm sr)) H) (hD : va_D (lA s) ((hW t dd xx a fc fl fd fw fr T) ++ (mW t mm Lm sr))) (hS : va_S (lA s) s.heap H locs) (hc : cells ≤ 600000) (hs : slots ≤ 7302250) : W p l e room_1 s m #[Value.ref b] below meth c H locs cells slots (lw_Z below #[Value.ref b] s) (F0 m 255 ls []) := by
  have hx := hF.1.1
  have hb := hF.1.2.1
  have hA : ∀ q, s.heap.size ≤ q → lA s q := fun q h => h
  refine lv_aload_n hx hb dL_law_255 rfl (lv_at hl 2 rfl) ?_
  refine lv_aload_n hx hb dL_law_256 rfl (lv_at hl 3 rfl) ?_
  refine lv_iload_n hx hb dL_law_257 rfl (lv_at hl 0 rfl) ?_
  refine lv_iconst (v := 1) hx hb dL_law_258 (by decide) ?_
  refine lv_iadd hx hb dL_law_259 ?_
  refine r_sld (v := xs 1) hF hX hbl hS (by unfold vp_in; decide) rfl dL_law_260 ?_
  refine r_cAI (v := (-1)) (wc := (hW t dd xx a fc fl fd fw fr T)) (X := (mW t mm Lm sr)) (As := [.int (xs 1)]) (rest := []) hF mv_L_36 ci_X11 (c_X11_come l D t dd xx a fc fl fd fw fr T hcn (xs 1) _) dL_law_261 rfl rfl (Nat.le_of_ble_eq_true rfl |> fun h => ⟨h, Nat.le_of_ble_eq_true rfl⟩) rfl hl.1 (Nat.le_of_ble_eq_true rfl) hP hD hS hA (q0 := 23) rfl ⟨hc, hs⟩ rfl (fun H locs hP hS => ?_)
  have hD := D_right hD
  have hP : va_P D cl1 ((mW t mm Lm sr) ++ ([] : va_W)) H := by rw [List.append_nil]; exact hP
  have hD : va_D (lA s) ((mW t mm Lm sr) ++ ([] : va_W)) := by rw [List.append_nil]; exact hD
  refine lv_aload_n hx hb dL_law_264 rfl (lv_at hl 1 rfl) ?_
  refine lv_aload_n hx hb dL_law_265 rfl (lv_at hl 3 rfl) ?_
  refine lv_iload_n hx hb dL_law_266 rfl (lv_at hl 0 rfl) ?_
  refine lv_iconst (v := 1) hx hb dL_law_267 (by decide) ?_
  refine lv_iadd hx hb dL_law_268 ?_
  refine r_sld (v := xs 1) hF hX hbl hS (by unfold vp_in; decide) rfl dL_law_269 ?_
  refine r_cAI (v := (-1)) (wc := (mW t mm Lm sr)) (X := []) (As := [.int (xs 1)]) (rest := [.int (-1)]) hF mv_L_39 ci_X12 (c_X12_come_ l D t mm Lm sr (xs 1) _) dL_law_270 rfl rfl (Nat.le_of_ble_eq_true rfl |> fun h => ⟨h, Nat.le_of_ble_eq_true rfl⟩) rfl hl.1 (Nat.le_of_ble_eq_true rfl) hP hD hS hA (q0 := 0) rfl ⟨hc, hs⟩ rfl (fun H locs hP hS => ?_)
  refine lv_icmp_eq (tgt := 449) hx hb dL_law_273 rfl (fun _ => ?_) (fun h => absurd rfl h)
  exact law_tail hF hr hlk hX hbl hl hS hc hs
set_option maxRecDepth 100000 in
set_option maxHeartbeats 4000000 in
theorem law_isOpen {p : Program} {l : Launch} {e : Env} {s : State} {m : MethodId} {below : List Frame} {meth : Method} {c : Code} {H : Heap} {locs : List Loc} {cells slots : Nat} {ls : Array Slot} {D : va_G} {t : Nat → ClassId} {b : Nat} {xx mm : Nat} {xs : Nat → Int32} (hF : FX p m c code 4 s #[Value.ref b] RL D t) (hr : meth.sig.returnType = ret) (hlk : meth.locks = false) (hX : va_X b 6 xs s s.heap) (hbl : b < s.heap.size) (a : Nat → Nat) (fc fl fd fw : Nat → Option Nat) (fr : Nat → Int32) (T : va_W) (Lm : Nat → Nat) (sr : Nat → Int32) (dd : Nat) (hcn : connsIn t T fc 6) (hnl : nodesIn t T fl 80) (hnd : nodesIn t T fd 80) (hfr : ∀ i, i < 4 → fr i = -1) (hsr : ∀ i, i < 4 → sr i = -1) (hl : lv_has ls 4 [(3, .int 0), (2, .ref mm), (1, .ref xx), (0, .ref b)]) (hP : va_P D cl1 ((hW t dd xx a fc fl fd fw fr T) ++ (mW t mm Lm sr)) H) (hD : va_D (lA s) ((hW t dd xx a fc fl fd fw fr T) ++ (mW t mm Lm sr))) (hS : va_S (lA s) s.heap H locs) (hc : cells ≤ 600000) (hs : slots ≤ 7302250) : W p l e room_1 s m #[Value.ref b] below meth c H locs cells slots (lw_Z below #[Value.ref b] s) (F0 m 278 ls []) := by
  have hx := hF.1.1
  have hb := hF.1.2.1
  have hA : ∀ q, s.heap.size ≤ q → lA s q := fun q h => h
  refine lv_aload_n hx hb dL_law_278 rfl (lv_at hl 2 rfl) ?_
  refine lv_aload_n hx hb dL_law_279 rfl (lv_at hl 3 rfl) ?_
  refine lv_iload_n hx hb dL_law_280 rfl (lv_at hl 0 rfl) ?_
  refine lv_iconst (v := 1) hx hb dL_law_281 (by decide) ?_
  refine lv_iadd hx hb dL_law_282 ?_
  refine r_sld (v := xs 1) hF hX hbl hS (by unfold vp_in; decide) rfl dL_law_283 ?_
  refine r_cAI (v := 0) (wc := (hW t dd xx a fc fl fd fw fr T)) (X := (mW t mm Lm sr)) (As := [.int (xs 1)]) (rest := []) hF mv_L_40 ci_X11 (c_X11_isOpen l D t dd xx a fc fl fd fw fr T hcn (xs 1) _) dL_law_284 rfl rfl (Nat.le_of_ble_eq_true rfl |> fun h => ⟨h, Nat.le_of_ble_eq_true rfl⟩) rfl hl.1 (Nat.le_of_ble_eq_true rfl) hP hD hS hA (q0 := 23) rfl ⟨hc, hs⟩ rfl (fun H locs hP hS => ?_)
  have hD := D_right hD
  have hP : va_P D cl1 ((mW t mm Lm sr) ++ ([] : va_W)) H := by rw [List.append_nil]; exact hP
  have hD : va_D (lA s) ((mW t mm Lm sr) ++ ([] : va_W)) := by rw [List.append_nil]; exact hD
  refine lv_aload_n hx hb dL_law_287 rfl (lv_at hl 1 rfl) ?_
  refine lv_aload_n hx hb dL_law_288 rfl (lv_at hl 3 rfl) ?_
  refine lv_iload_n hx hb dL_law_289 rfl (lv_at hl 0 rfl) ?_
  refine lv_iconst (v := 1) hx hb dL_law_290 (by decide) ?_
  refine lv_iadd hx hb dL_law_291 ?_
  refine r_sld (v := xs 1) hF hX hbl hS (by unfold vp_in; decide) rfl dL_law_292 ?_
  refine r_cAI (v := 0) (wc := (mW t mm Lm sr)) (X := []) (As := [.int (xs 1)]) (rest := [.int 0]) hF mv_L_43 ci_X12 (c_X12_isOpen l D t mm Lm sr (xs 1) _) dL_law_293 rfl rfl (Nat.le_of_ble_eq_true rfl |> fun h => ⟨h, Nat.le_of_ble_eq_true rfl⟩) rfl hl.1 (Nat.le_of_ble_eq_true rfl) hP hD hS hA (q0 := 0) rfl ⟨hc, hs⟩ rfl (fun H locs hP hS => ?_)
  refine lv_icmp_eq (tgt := 449) hx hb dL_law_296 rfl (fun _ => ?_) (fun h => absurd rfl h)
  exact law_tail hF hr hlk hX hbl hl hS hc hs
set_option maxRecDepth 100000 in
set_option maxHeartbeats 4000000 in
theorem law_tick {p : Program} {l : Launch} {e : Env} {s : State} {m : MethodId} {below : List Frame} {meth : Method} {c : Code} {H : Heap} {locs : List Loc} {cells slots : Nat} {ls : Array Slot} {D : va_G} {t : Nat → ClassId} {b : Nat} {xx mm : Nat} {xs : Nat → Int32} (hF : FX p m c code 4 s #[Value.ref b] RL D t) (hr : meth.sig.returnType = ret) (hlk : meth.locks = false) (hX : va_X b 6 xs s s.heap) (hbl : b < s.heap.size) (a : Nat → Nat) (fc fl fd fw : Nat → Option Nat) (fr : Nat → Int32) (T : va_W) (Lm : Nat → Nat) (sr : Nat → Int32) (dd : Nat) (hcn : connsIn t T fc 6) (hnl : nodesIn t T fl 80) (hnd : nodesIn t T fd 80) (hfr : ∀ i, i < 4 → fr i = -1) (hsr : ∀ i, i < 4 → sr i = -1) (hl : lv_has ls 4 [(3, .int 0), (2, .ref mm), (1, .ref xx), (0, .ref b)]) (hP : va_P D cl1 ((hW t dd xx a fc fl fd fw fr T) ++ (mW t mm Lm sr)) H) (hD : va_D (lA s) ((hW t dd xx a fc fl fd fw fr T) ++ (mW t mm Lm sr))) (hS : va_S (lA s) s.heap H locs) (hc : cells ≤ 600000) (hs : slots ≤ 7302250) : W p l e room_1 s m #[Value.ref b] below meth c H locs cells slots (lw_Z below #[Value.ref b] s) (F0 m 301 ls []) := by
  have hx := hF.1.1
  have hb := hF.1.2.1
  have hA : ∀ q, s.heap.size ≤ q → lA s q := fun q h => h
  refine lv_aload_n hx hb dL_law_301 rfl (lv_at hl 2 rfl) ?_
  refine lv_aload_n hx hb dL_law_302 rfl (lv_at hl 3 rfl) ?_
  refine lv_iload_n hx hb dL_law_303 rfl (lv_at hl 0 rfl) ?_
  refine lv_iconst (v := 1) hx hb dL_law_304 (by decide) ?_
  refine lv_iadd hx hb dL_law_305 ?_
  refine r_sld (v := xs 1) hF hX hbl hS (by unfold vp_in; decide) rfl dL_law_306 ?_
  refine r_cAI (v := (tickA (xs 1))) (wc := (hW t dd xx a fc fl fd fw fr T)) (X := (mW t mm Lm sr)) (As := [.int (xs 1)]) (rest := []) hF mv_L_44 ci_X11 (c_X11_tick l D t dd xx a fc fl fd fw fr T (xs 1) _) dL_law_307 rfl rfl (Nat.le_of_ble_eq_true rfl |> fun h => ⟨h, Nat.le_of_ble_eq_true rfl⟩) rfl hl.1 (Nat.le_of_ble_eq_true rfl) hP hD hS hA (q0 := 23) rfl ⟨hc, hs⟩ rfl (fun H locs hP hS => ?_)
  have hD := D_right hD
  have hP : va_P D cl1 ((mW t mm Lm sr) ++ ([] : va_W)) H := by rw [List.append_nil]; exact hP
  have hD : va_D (lA s) ((mW t mm Lm sr) ++ ([] : va_W)) := by rw [List.append_nil]; exact hD
  refine lv_aload_n hx hb dL_law_310 rfl (lv_at hl 1 rfl) ?_
  refine lv_aload_n hx hb dL_law_311 rfl (lv_at hl 3 rfl) ?_
  refine lv_iload_n hx hb dL_law_312 rfl (lv_at hl 0 rfl) ?_
  refine lv_iconst (v := 1) hx hb dL_law_313 (by decide) ?_
  refine lv_iadd hx hb dL_law_314 ?_
  refine r_sld (v := xs 1) hF hX hbl hS (by unfold vp_in; decide) rfl dL_law_315 ?_
  refine r_cAI (v := (tickA (xs 1))) (wc := (mW t mm Lm sr)) (X := []) (As := [.int (xs 1)]) (rest := [.int (tickA (xs 1))]) hF mv_L_47 ci_X12 (c_X12_tick l D t mm Lm sr (xs 1) _) dL_law_316 rfl rfl (Nat.le_of_ble_eq_true rfl |> fun h => ⟨h, Nat.le_of_ble_eq_true rfl⟩) rfl hl.1 (Nat.le_of_ble_eq_true rfl) hP hD hS hA (q0 := 0) rfl ⟨hc, hs⟩ rfl (fun H locs hP hS => ?_)
  refine lv_icmp_eq (tgt := 449) hx hb dL_law_319 rfl (fun _ => ?_) (fun h => absurd rfl h)
  exact law_tail hF hr hlk hX hbl hl hS hc hs
set_option maxRecDepth 100000 in
set_option maxHeartbeats 4000000 in
theorem law_crash {p : Program} {l : Launch} {e : Env} {s : State} {m : MethodId} {below : List Frame} {meth : Method} {c : Code} {H : Heap} {locs : List Loc} {cells slots : Nat} {ls : Array Slot} {D : va_G} {t : Nat → ClassId} {b : Nat} {xx mm : Nat} {xs : Nat → Int32} (hF : FX p m c code 4 s #[Value.ref b] RL D t) (hr : meth.sig.returnType = ret) (hlk : meth.locks = false) (hX : va_X b 6 xs s s.heap) (hbl : b < s.heap.size) (a : Nat → Nat) (fc fl fd fw : Nat → Option Nat) (fr : Nat → Int32) (T : va_W) (Lm : Nat → Nat) (sr : Nat → Int32) (dd : Nat) (hcn : connsIn t T fc 6) (hnl : nodesIn t T fl 80) (hnd : nodesIn t T fd 80) (hfr : ∀ i, i < 4 → fr i = -1) (hsr : ∀ i, i < 4 → sr i = -1) (hl : lv_has ls 4 [(3, .int 0), (2, .ref mm), (1, .ref xx), (0, .ref b)]) (hP : va_P D cl1 ((hW t dd xx a fc fl fd fw fr T) ++ (mW t mm Lm sr)) H) (hD : va_D (lA s) ((hW t dd xx a fc fl fd fw fr T) ++ (mW t mm Lm sr))) (hS : va_S (lA s) s.heap H locs) (hc : cells ≤ 600000) (hs : slots ≤ 7302250) : W p l e room_1 s m #[Value.ref b] below meth c H locs cells slots (lw_Z below #[Value.ref b] s) (F0 m 324 ls []) := by
  have hx := hF.1.1
  have hb := hF.1.2.1
  have hA : ∀ q, s.heap.size ≤ q → lA s q := fun q h => h
  refine lv_aload_n hx hb dL_law_324 rfl (lv_at hl 2 rfl) ?_
  refine lv_aload_n hx hb dL_law_325 rfl (lv_at hl 3 rfl) ?_
  refine lv_iload_n hx hb dL_law_326 rfl (lv_at hl 0 rfl) ?_
  refine lv_iconst (v := 1) hx hb dL_law_327 (by decide) ?_
  refine lv_iadd hx hb dL_law_328 ?_
  refine r_sld (v := xs 1) hF hX hbl hS (by unfold vp_in; decide) rfl dL_law_329 ?_
  refine r_cAI (v := (tapeA (xs 1))) (wc := (hW t dd xx a fc fl fd fw fr T)) (X := (mW t mm Lm sr)) (As := [.int (xs 1)]) (rest := []) hF mv_L_48 ci_X11 (c_X11_crash l D t dd xx a fc fl fd fw fr T hcn hnl hnd (xs 1) _) dL_law_330 rfl rfl (Nat.le_of_ble_eq_true rfl |> fun h => ⟨h, Nat.le_of_ble_eq_true rfl⟩) rfl hl.1 (Nat.le_of_ble_eq_true rfl) hP hD hS hA (q0 := 23) rfl ⟨hc, hs⟩ rfl (fun H locs hP hS => ?_)
  have hD := D_right hD
  have hP : va_P D cl1 ((mW t mm Lm sr) ++ ([] : va_W)) H := by rw [List.append_nil]; exact hP
  have hD : va_D (lA s) ((mW t mm Lm sr) ++ ([] : va_W)) := by rw [List.append_nil]; exact hD
  refine lv_aload_n hx hb dL_law_333 rfl (lv_at hl 1 rfl) ?_
  refine lv_aload_n hx hb dL_law_334 rfl (lv_at hl 3 rfl) ?_
  refine lv_iload_n hx hb dL_law_335 rfl (lv_at hl 0 rfl) ?_
  refine lv_iconst (v := 1) hx hb dL_law_336 (by decide) ?_
  refine lv_iadd hx hb dL_law_337 ?_
  refine r_sld (v := xs 1) hF hX hbl hS (by unfold vp_in; decide) rfl dL_law_338 ?_
  refine r_cAI (v := (tapeA (xs 1))) (wc := (mW t mm Lm sr)) (X := []) (As := [.int (xs 1)]) (rest := [.int (tapeA (xs 1))]) hF mv_L_51 ci_X12 (c_X12_crash l D t mm Lm sr (xs 1) _) dL_law_339 rfl rfl (Nat.le_of_ble_eq_true rfl |> fun h => ⟨h, Nat.le_of_ble_eq_true rfl⟩) rfl hl.1 (Nat.le_of_ble_eq_true rfl) hP hD hS hA (q0 := 0) rfl ⟨hc, hs⟩ rfl (fun H locs hP hS => ?_)
  refine lv_icmp_eq (tgt := 449) hx hb dL_law_342 rfl (fun _ => ?_) (fun h => absurd rfl h)
  exact law_tail hF hr hlk hX hbl hl hS hc hs
set_option maxRecDepth 100000 in
set_option maxHeartbeats 4000000 in
theorem law_outs {p : Program} {l : Launch} {e : Env} {s : State} {m : MethodId} {below : List Frame} {meth : Method} {c : Code} {H : Heap} {locs : List Loc} {cells slots : Nat} {ls : Array Slot} {D : va_G} {t : Nat → ClassId} {b : Nat} {xx mm : Nat} {xs : Nat → Int32} (hF : FX p m c code 4 s #[Value.ref b] RL D t) (hr : meth.sig.returnType = ret) (hlk : meth.locks = false) (hX : va_X b 6 xs s s.heap) (hbl : b < s.heap.size) (a : Nat → Nat) (fc fl fd fw : Nat → Option Nat) (fr : Nat → Int32) (T : va_W) (Lm : Nat → Nat) (sr : Nat → Int32) (dd : Nat) (hcn : connsIn t T fc 6) (hnl : nodesIn t T fl 80) (hnd : nodesIn t T fd 80) (hfr : ∀ i, i < 4 → fr i = -1) (hsr : ∀ i, i < 4 → sr i = -1) (hl : lv_has ls 4 [(3, .int 0), (2, .ref mm), (1, .ref xx), (0, .ref b)]) (hP : va_P D cl1 ((hW t dd xx a fc fl fd fw fr T) ++ (mW t mm Lm sr)) H) (hD : va_D (lA s) ((hW t dd xx a fc fl fd fw fr T) ++ (mW t mm Lm sr))) (hS : va_S (lA s) s.heap H locs) (hc : cells ≤ 600000) (hs : slots ≤ 7302250) : W p l e room_1 s m #[Value.ref b] below meth c H locs cells slots (lw_Z below #[Value.ref b] s) (F0 m 347 ls []) := by
  have hx := hF.1.1
  have hb := hF.1.2.1
  have hA : ∀ q, s.heap.size ≤ q → lA s q := fun q h => h
  refine lv_aload_n hx hb dL_law_347 rfl (lv_at hl 2 rfl) ?_
  refine lv_aload_n hx hb dL_law_348 rfl (lv_at hl 3 rfl) ?_
  refine lv_iload_n hx hb dL_law_349 rfl (lv_at hl 0 rfl) ?_
  refine lv_iconst (v := 1) hx hb dL_law_350 (by decide) ?_
  refine lv_iadd hx hb dL_law_351 ?_
  refine r_sld (v := xs 1) hF hX hbl hS (by unfold vp_in; decide) rfl dL_law_352 ?_
  refine r_cAI (v := (lineA (xs 1) 0 (-1))) (wc := (hW t dd xx a fc fl fd fw fr T)) (X := (mW t mm Lm sr)) (As := [.int (xs 1)]) (rest := []) hF mv_L_52 ci_X11 (c_X11_outs l D t dd xx a fc fl fd fw fr T hcn (xs 1) _) dL_law_353 rfl rfl (Nat.le_of_ble_eq_true rfl |> fun h => ⟨h, Nat.le_of_ble_eq_true rfl⟩) rfl hl.1 (Nat.le_of_ble_eq_true rfl) hP hD hS hA (q0 := 23) rfl ⟨hc, hs⟩ rfl (fun H locs hP hS => ?_)
  have hD := D_right hD
  have hP : va_P D cl1 ((mW t mm Lm sr) ++ ([] : va_W)) H := by rw [List.append_nil]; exact hP
  have hD : va_D (lA s) ((mW t mm Lm sr) ++ ([] : va_W)) := by rw [List.append_nil]; exact hD
  refine lv_aload_n hx hb dL_law_356 rfl (lv_at hl 1 rfl) ?_
  refine lv_aload_n hx hb dL_law_357 rfl (lv_at hl 3 rfl) ?_
  refine lv_iload_n hx hb dL_law_358 rfl (lv_at hl 0 rfl) ?_
  refine lv_iconst (v := 1) hx hb dL_law_359 (by decide) ?_
  refine lv_iadd hx hb dL_law_360 ?_
  refine r_sld (v := xs 1) hF hX hbl hS (by unfold vp_in; decide) rfl dL_law_361 ?_
  refine r_cAI (v := (lineA (xs 1) 0 (-1))) (wc := (mW t mm Lm sr)) (X := []) (As := [.int (xs 1)]) (rest := [.int (lineA (xs 1) 0 (-1))]) hF mv_L_55 ci_X12 (c_X12_outs l D t mm Lm sr (xs 1) _) dL_law_362 rfl rfl (Nat.le_of_ble_eq_true rfl |> fun h => ⟨h, Nat.le_of_ble_eq_true rfl⟩) rfl hl.1 (Nat.le_of_ble_eq_true rfl) hP hD hS hA (q0 := 0) rfl ⟨hc, hs⟩ rfl (fun H locs hP hS => ?_)
  refine lv_icmp_eq (tgt := 449) hx hb dL_law_365 rfl (fun _ => ?_) (fun h => absurd rfl h)
  exact law_tail hF hr hlk hX hbl hl hS hc hs
set_option maxRecDepth 100000 in
set_option maxHeartbeats 4000000 in
theorem law_out {p : Program} {l : Launch} {e : Env} {s : State} {m : MethodId} {below : List Frame} {meth : Method} {c : Code} {H : Heap} {locs : List Loc} {cells slots : Nat} {ls : Array Slot} {D : va_G} {t : Nat → ClassId} {b : Nat} {xx mm : Nat} {xs : Nat → Int32} (hF : FX p m c code 4 s #[Value.ref b] RL D t) (hr : meth.sig.returnType = ret) (hlk : meth.locks = false) (hX : va_X b 6 xs s s.heap) (hbl : b < s.heap.size) (a : Nat → Nat) (fc fl fd fw : Nat → Option Nat) (fr : Nat → Int32) (T : va_W) (Lm : Nat → Nat) (sr : Nat → Int32) (dd : Nat) (hcn : connsIn t T fc 6) (hnl : nodesIn t T fl 80) (hnd : nodesIn t T fd 80) (hfr : ∀ i, i < 4 → fr i = -1) (hsr : ∀ i, i < 4 → sr i = -1) (hl : lv_has ls 4 [(3, .int 0), (2, .ref mm), (1, .ref xx), (0, .ref b)]) (hP : va_P D cl1 ((hW t dd xx a fc fl fd fw fr T) ++ (mW t mm Lm sr)) H) (hD : va_D (lA s) ((hW t dd xx a fc fl fd fw fr T) ++ (mW t mm Lm sr))) (hS : va_S (lA s) s.heap H locs) (hc : cells ≤ 600000) (hs : slots ≤ 7302250) : W p l e room_1 s m #[Value.ref b] below meth c H locs cells slots (lw_Z below #[Value.ref b] s) (F0 m 370 ls []) := by
  have hx := hF.1.1
  have hb := hF.1.2.1
  have hA : ∀ q, s.heap.size ≤ q → lA s q := fun q h => h
  refine lv_aload_n hx hb dL_law_370 rfl (lv_at hl 2 rfl) ?_
  refine lv_aload_n hx hb dL_law_371 rfl (lv_at hl 3 rfl) ?_
  refine lv_iload_n hx hb dL_law_372 rfl (lv_at hl 0 rfl) ?_
  refine lv_iconst (v := 1) hx hb dL_law_373 (by decide) ?_
  refine lv_iadd hx hb dL_law_374 ?_
  refine r_sld (v := xs 1) hF hX hbl hS (by unfold vp_in; decide) rfl dL_law_375 ?_
  refine lv_aload_n hx hb dL_law_376 rfl (lv_at hl 3 rfl) ?_
  refine lv_iload_n hx hb dL_law_377 rfl (lv_at hl 0 rfl) ?_
  refine lv_iconst (v := 2) hx hb dL_law_378 (by decide) ?_
  refine lv_iadd hx hb dL_law_379 ?_
  refine r_sld (v := xs 2) hF hX hbl hS (by unfold vp_in; decide) rfl dL_law_380 ?_
  refine r_cAI (v := (-1)) (wc := (hW t dd xx a fc fl fd fw fr T)) (X := (mW t mm Lm sr)) (As := [.int (xs 1), .int (xs 2)]) (rest := []) hF mv_L_56 ci_X11 (c_X11_out l D t dd xx a fc fl fd fw fr T hcn (xs 1) (xs 2) _) dL_law_381 rfl rfl (Nat.le_of_ble_eq_true rfl |> fun h => ⟨h, Nat.le_of_ble_eq_true rfl⟩) rfl hl.1 (Nat.le_of_ble_eq_true rfl) hP hD hS hA (q0 := 23) rfl ⟨hc, hs⟩ rfl (fun H locs hP hS => ?_)
  have hD := D_right hD
  have hP : va_P D cl1 ((mW t mm Lm sr) ++ ([] : va_W)) H := by rw [List.append_nil]; exact hP
  have hD : va_D (lA s) ((mW t mm Lm sr) ++ ([] : va_W)) := by rw [List.append_nil]; exact hD
  refine lv_aload_n hx hb dL_law_384 rfl (lv_at hl 1 rfl) ?_
  refine lv_aload_n hx hb dL_law_385 rfl (lv_at hl 3 rfl) ?_
  refine lv_iload_n hx hb dL_law_386 rfl (lv_at hl 0 rfl) ?_
  refine lv_iconst (v := 1) hx hb dL_law_387 (by decide) ?_
  refine lv_iadd hx hb dL_law_388 ?_
  refine r_sld (v := xs 1) hF hX hbl hS (by unfold vp_in; decide) rfl dL_law_389 ?_
  refine lv_aload_n hx hb dL_law_390 rfl (lv_at hl 3 rfl) ?_
  refine lv_iload_n hx hb dL_law_391 rfl (lv_at hl 0 rfl) ?_
  refine lv_iconst (v := 2) hx hb dL_law_392 (by decide) ?_
  refine lv_iadd hx hb dL_law_393 ?_
  refine r_sld (v := xs 2) hF hX hbl hS (by unfold vp_in; decide) rfl dL_law_394 ?_
  refine r_cAI (v := (-1)) (wc := (mW t mm Lm sr)) (X := []) (As := [.int (xs 1), .int (xs 2)]) (rest := [.int (-1)]) hF mv_L_60 ci_X12 (c_X12_out l D t mm Lm sr (xs 1) (xs 2) _) dL_law_395 rfl rfl (Nat.le_of_ble_eq_true rfl |> fun h => ⟨h, Nat.le_of_ble_eq_true rfl⟩) rfl hl.1 (Nat.le_of_ble_eq_true rfl) hP hD hS hA (q0 := 0) rfl ⟨hc, hs⟩ rfl (fun H locs hP hS => ?_)
  refine lv_icmp_eq (tgt := 449) hx hb dL_law_398 rfl (fun _ => ?_) (fun h => absurd rfl h)
  exact law_tail hF hr hlk hX hbl hl hS hc hs
set_option maxRecDepth 100000 in
set_option maxHeartbeats 4000000 in
theorem law_drop {p : Program} {l : Launch} {e : Env} {s : State} {m : MethodId} {below : List Frame} {meth : Method} {c : Code} {H : Heap} {locs : List Loc} {cells slots : Nat} {ls : Array Slot} {D : va_G} {t : Nat → ClassId} {b : Nat} {xx mm : Nat} {xs : Nat → Int32} (hF : FX p m c code 4 s #[Value.ref b] RL D t) (hr : meth.sig.returnType = ret) (hlk : meth.locks = false) (hX : va_X b 6 xs s s.heap) (hbl : b < s.heap.size) (a : Nat → Nat) (fc fl fd fw : Nat → Option Nat) (fr : Nat → Int32) (T : va_W) (Lm : Nat → Nat) (sr : Nat → Int32) (dd : Nat) (hcn : connsIn t T fc 6) (hnl : nodesIn t T fl 80) (hnd : nodesIn t T fd 80) (hfr : ∀ i, i < 4 → fr i = -1) (hsr : ∀ i, i < 4 → sr i = -1) (hl : lv_has ls 4 [(3, .int 0), (2, .ref mm), (1, .ref xx), (0, .ref b)]) (hP : va_P D cl1 ((hW t dd xx a fc fl fd fw fr T) ++ (mW t mm Lm sr)) H) (hD : va_D (lA s) ((hW t dd xx a fc fl fd fw fr T) ++ (mW t mm Lm sr))) (hS : va_S (lA s) s.heap H locs) (hc : cells ≤ 600000) (hs : slots ≤ 7302250) : W p l e room_1 s m #[Value.ref b] below meth c H locs cells slots (lw_Z below #[Value.ref b] s) (F0 m 403 ls []) := by
  have hx := hF.1.1
  have hb := hF.1.2.1
  have hA : ∀ q, s.heap.size ≤ q → lA s q := fun q h => h
  refine lv_aload_n hx hb dL_law_403 rfl (lv_at hl 2 rfl) ?_
  refine lv_aload_n hx hb dL_law_404 rfl (lv_at hl 3 rfl) ?_
  refine lv_iload_n hx hb dL_law_405 rfl (lv_at hl 0 rfl) ?_
  refine lv_iconst (v := 1) hx hb dL_law_406 (by decide) ?_
  refine lv_iadd hx hb dL_law_407 ?_
  refine r_sld (v := xs 1) hF hX hbl hS (by unfold vp_in; decide) rfl dL_law_408 ?_
  refine r_cAI (v := (lineA (xs 1) 0 (-1))) (wc := (hW t dd xx a fc fl fd fw fr T)) (X := (mW t mm Lm sr)) (As := [.int (xs 1)]) (rest := []) hF mv_L_61 ci_X11 (c_X11_drop l D t dd xx a fc fl fd fw fr T hcn (xs 1) _) dL_law_409 rfl rfl (Nat.le_of_ble_eq_true rfl |> fun h => ⟨h, Nat.le_of_ble_eq_true rfl⟩) rfl hl.1 (Nat.le_of_ble_eq_true rfl) hP hD hS hA (q0 := 23) rfl ⟨hc, hs⟩ rfl (fun H locs hP hS => ?_)
  have hD := D_right hD
  have hP : va_P D cl1 ((mW t mm Lm sr) ++ ([] : va_W)) H := by rw [List.append_nil]; exact hP
  have hD : va_D (lA s) ((mW t mm Lm sr) ++ ([] : va_W)) := by rw [List.append_nil]; exact hD
  refine lv_aload_n hx hb dL_law_412 rfl (lv_at hl 1 rfl) ?_
  refine lv_aload_n hx hb dL_law_413 rfl (lv_at hl 3 rfl) ?_
  refine lv_iload_n hx hb dL_law_414 rfl (lv_at hl 0 rfl) ?_
  refine lv_iconst (v := 1) hx hb dL_law_415 (by decide) ?_
  refine lv_iadd hx hb dL_law_416 ?_
  refine r_sld (v := xs 1) hF hX hbl hS (by unfold vp_in; decide) rfl dL_law_417 ?_
  refine r_cAI (v := (lineA (xs 1) 0 (-1))) (wc := (mW t mm Lm sr)) (X := []) (As := [.int (xs 1)]) (rest := [.int (lineA (xs 1) 0 (-1))]) hF mv_L_64 ci_X12 (c_X12_drop l D t mm Lm sr (xs 1) _) dL_law_418 rfl rfl (Nat.le_of_ble_eq_true rfl |> fun h => ⟨h, Nat.le_of_ble_eq_true rfl⟩) rfl hl.1 (Nat.le_of_ble_eq_true rfl) hP hD hS hA (q0 := 0) rfl ⟨hc, hs⟩ rfl (fun H locs hP hS => ?_)
  refine lv_icmp_eq (tgt := 449) hx hb dL_law_421 rfl (fun _ => ?_) (fun h => absurd rfl h)
  exact law_tail hF hr hlk hX hbl hl hS hc hs
set_option maxRecDepth 100000 in
set_option maxHeartbeats 4000000 in
theorem law_told {p : Program} {l : Launch} {e : Env} {s : State} {m : MethodId} {below : List Frame} {meth : Method} {c : Code} {H : Heap} {locs : List Loc} {cells slots : Nat} {ls : Array Slot} {D : va_G} {t : Nat → ClassId} {b : Nat} {xx mm : Nat} {xs : Nat → Int32} (hF : FX p m c code 4 s #[Value.ref b] RL D t) (hr : meth.sig.returnType = ret) (hlk : meth.locks = false) (hX : va_X b 6 xs s s.heap) (hbl : b < s.heap.size) (a : Nat → Nat) (fc fl fd fw : Nat → Option Nat) (fr : Nat → Int32) (T : va_W) (Lm : Nat → Nat) (sr : Nat → Int32) (dd : Nat) (hcn : connsIn t T fc 6) (hnl : nodesIn t T fl 80) (hnd : nodesIn t T fd 80) (hfr : ∀ i, i < 4 → fr i = -1) (hsr : ∀ i, i < 4 → sr i = -1) (hl : lv_has ls 4 [(3, .int 0), (2, .ref mm), (1, .ref xx), (0, .ref b)]) (hP : va_P D cl1 ((hW t dd xx a fc fl fd fw fr T) ++ (mW t mm Lm sr)) H) (hD : va_D (lA s) ((hW t dd xx a fc fl fd fw fr T) ++ (mW t mm Lm sr))) (hS : va_S (lA s) s.heap H locs) (hc : cells ≤ 600000) (hs : slots ≤ 7302250) : W p l e room_1 s m #[Value.ref b] below meth c H locs cells slots (lw_Z below #[Value.ref b] s) (F0 m 426 ls []) := by
  have hx := hF.1.1
  have hb := hF.1.2.1
  have hA : ∀ q, s.heap.size ≤ q → lA s q := fun q h => h
  refine lv_aload_n hx hb dL_law_426 rfl (lv_at hl 2 rfl) ?_
  refine lv_aload_n hx hb dL_law_427 rfl (lv_at hl 3 rfl) ?_
  refine lv_iload_n hx hb dL_law_428 rfl (lv_at hl 0 rfl) ?_
  refine lv_iconst (v := 1) hx hb dL_law_429 (by decide) ?_
  refine lv_iadd hx hb dL_law_430 ?_
  refine r_sld (v := xs 1) hF hX hbl hS (by unfold vp_in; decide) rfl dL_law_431 ?_
  refine r_cAI (v := (toldA (xs 1))) (wc := (hW t dd xx a fc fl fd fw fr T)) (X := (mW t mm Lm sr)) (As := [.int (xs 1)]) (rest := []) hF mv_L_65 ci_X11 (c_X11_told l D t dd xx a fc fl fd fw fr T (xs 1) _) dL_law_432 rfl rfl (Nat.le_of_ble_eq_true rfl |> fun h => ⟨h, Nat.le_of_ble_eq_true rfl⟩) rfl hl.1 (Nat.le_of_ble_eq_true rfl) hP hD hS hA (q0 := 23) rfl ⟨hc, hs⟩ rfl (fun H locs hP hS => ?_)
  have hD := D_right hD
  have hP : va_P D cl1 ((mW t mm Lm sr) ++ ([] : va_W)) H := by rw [List.append_nil]; exact hP
  have hD : va_D (lA s) ((mW t mm Lm sr) ++ ([] : va_W)) := by rw [List.append_nil]; exact hD
  refine lv_aload_n hx hb dL_law_435 rfl (lv_at hl 1 rfl) ?_
  refine lv_aload_n hx hb dL_law_436 rfl (lv_at hl 3 rfl) ?_
  refine lv_iload_n hx hb dL_law_437 rfl (lv_at hl 0 rfl) ?_
  refine lv_iconst (v := 1) hx hb dL_law_438 (by decide) ?_
  refine lv_iadd hx hb dL_law_439 ?_
  refine r_sld (v := xs 1) hF hX hbl hS (by unfold vp_in; decide) rfl dL_law_440 ?_
  refine r_cAI (v := (toldA (xs 1))) (wc := (mW t mm Lm sr)) (X := []) (As := [.int (xs 1)]) (rest := [.int (toldA (xs 1))]) hF mv_L_68 ci_X12 (c_X12_told l D t mm Lm sr (xs 1) _) dL_law_441 rfl rfl (Nat.le_of_ble_eq_true rfl |> fun h => ⟨h, Nat.le_of_ble_eq_true rfl⟩) rfl hl.1 (Nat.le_of_ble_eq_true rfl) hP hD hS hA (q0 := 0) rfl ⟨hc, hs⟩ rfl (fun H locs hP hS => ?_)
  refine lv_icmp_eq (tgt := 449) hx hb dL_law_444 rfl (fun _ => ?_) (fun h => absurd rfl h)
  exact law_tail hF hr hlk hX hbl hl hS hc hs
set_option maxRecDepth 100000 in
set_option maxHeartbeats 4000000 in
theorem whole_start {p : Program} {e : Env} {s : State} {m : MethodId} {below : List Frame} {meth : Method} {c : Code} (l : Launch) {b L : Nat} {xs : Nat → Int32} (hL : L ≤ 6) (C0 : lw_At p s m meth c b L xs) : W p l e room_1 s m #[Value.ref b] below meth c s.heap [] 0 0 (lw_Z below #[Value.ref b] s) (entryFrame m ([Value.ref b] : List Value).toArray 4) := by
  obtain ⟨hx, hb, hr, hml, hown, hts, hX, hbl, hlk, hgv⟩ := C0
  obtain ⟨D, t, hK⟩ := law_K hts
  have hF : FX p m c code 4 s #[Value.ref b] RL D t := ⟨⟨hx, hb, hml, hown, fun w h => hts w (big_tbl w h)⟩, hK⟩
  have hfl := flat_of_before _ hgv
  have hA : ∀ q, s.heap.size ≤ q → lA s q := fun q h => h
  obtain ⟨d, hd, -⟩ := va_Tof (A := lA s) (N := 0) (f := fun _ => .null) (tm := .static "java/util/ArrayList" "DEFAULTCAPACITY_EMPTY_ELEMENTDATA" "[Ljava/lang/Object;") (ty := .object "java/lang/Object") (by decide) (hfl _ (by decide +kernel)) (va_eqt (z := 0) (hfl _ (by decide +kernel))) (fun j h => absurd h (Nat.not_lt_zero _)) (fun a h => Nat.not_le.mpr h)
  have hZ : va_Z "java/util/ArrayList" "DEFAULTCAPACITY_EMPTY_ELEMENTDATA" "[Ljava/lang/Object;" (.ref d) (lA s) s s.heap := va_Zof (hts _ (tb_1 (List.mem_of_getElem? (i := 170) rfl))) (hts _ (big_tbl _ (wb 48 rfl))) hd (fun a h => Nat.not_le.mpr h)
  have eN : va_AO "ShareHouse$Node" s := va_AO.of (hts _ (tb_1 (List.mem_of_getElem? (i := 63) rfl)))
  have eC : va_AO "ShareHouse$Conn" s := va_AO.of (hts _ (tb_1 (List.mem_of_getElem? (i := 55) rfl)))
  have eH : va_AO "ShareHouse$Change" s := va_AO.of (hts _ (tb_1 (List.mem_of_getElem? (i := 156) rfl)))
  have nR : va_Nw nestR s := va_tabs rfl rfl (hts _ (tb_1 (List.mem_of_getElem? (i := 37) rfl) : nestR ∈ lw_tbl))
  have nC : va_Nw nestC s := va_tabs rfl rfl (hts _ (tb_1 (List.mem_of_getElem? (i := 184) rfl) : nestC ∈ lw_tbl))
  have nH : va_Nw nestH s := va_tabs rfl rfl (hts _ (tb_2 (List.mem_of_getElem? (i := 10) rfl) : nestH ∈ lw_tbl))
  have nK : va_Nw nestK s := va_tabs rfl rfl (hts _ (tb_1 (List.mem_of_getElem? (i := 189) rfl) : nestK ∈ lw_tbl))
  have hl := lv_entry [.ref b] (n := 4) (Nat.le_of_ble_eq_true rfl)
  rw [lg_entry_eq]
  generalize (lg_sl ([.ref b]) ++ List.replicate (4 - (lg_sl ([.ref b])).length) Slot.unset).toArray = ls at hl ⊢
  have hl : lv_has ls 4 [(0, .ref b)] := hl
  have hS : va_S (lA s) s.heap s.heap [] := va_S.rf
  have hP : va_P D cl1 [] s.heap := fun k q h => by simp at h
  have hD : va_D (lA s) [] := ⟨fun i j a b h => by simp at h, fun k q h => by simp at h⟩
  refine r_new (fs := [.null, .null, .null, .null, .null, .null, .int 0, .long 0, .null, .null, .null, .null, .null, .null, .null, .null, .null, .null]) hF ci_X11 dL_law_0 (wb 99 rfl) (wb 100 rfl) (wb 73 rfl) hP hD hS hA def_X11 (by decide) (by decide) (fun xx H hP hD hS => ?_)
  refine lv_dup hx hb dL_law_3 rfl ?_
  refine r_cWI (wc := [(xx, .inr (1, [.null, .null, .null, .null, .null, .null, .int 0, .long 0, .null, .null, .null, .null, .null, .null, .null, .null, .null, .null]))]) (X := ([] : va_W)) (As := []) (rest := [.ref xx]) hF mi_L_9 (c_X11_init l D t d xx _) (fun _ U _ _ h => ?_) (fun U hU hW => ?_) dL_law_4 rfl rfl ⟨Nat.le_of_ble_eq_true rfl, Nat.le_of_ble_eq_true rfl⟩ rfl hl.1 (Nat.le_of_ble_eq_true rfl) hP hD hS hA ⟨Nat.le_of_ble_eq_true rfl, Nat.le_of_ble_eq_true rfl⟩ rfl (fun w1 H locs hI hP hD hS => ?_)
  · obtain ⟨h1, h2, h3, h4, h5, h6, h7, h8⟩ := h
    exact ⟨va_AO.moved (Vm.Alike.refl U.vm) h1, va_AO.moved (Vm.Alike.refl U.vm) h2, va_AO.moved (Vm.Alike.refl U.vm) h3, nw_call rfl h4, nw_call rfl h5, nw_call rfl h6, nw_call rfl h7, va_Z.moved (Vm.Alike.refl U.vm) h8⟩
  · exact ⟨va_AO.moved hW.alike eN, va_AO.moved hW.alike eC, va_AO.moved hW.alike eH, va_Nw.warmM hW nR, va_Nw.warmM hW nC, va_Nw.warmM hW nH, va_Nw.warmM hW nK, by rw [hU]; exact ((hZ.kept (fun a h1 h2 => hS.2.1 a h1 h2)).moved hW.alike).narrow (a_in (D_left (w1 := [(xx, .inr (1, [.null, .null, .null, .null, .null, .null, .int 0, .long 0, .null, .null, .null, .null, .null, .null, .null, .null, .null, .null]))]) hD) hS hA)⟩
  obtain ⟨a, fc, fl, fd, fw, fr, T, rfl, hcn, hnl, hnd, hfr⟩ := hI
  refine lv_astore_n (lv' := [(1, .ref xx), (0, .ref b)]) hx hb dL_law_7 rfl hl (by decide) rfl (fun ls hl => ?_)
  refine r_new (fs := mD) hF ci_X12 dL_law_8 (wb 356 rfl) (wb 357 rfl) (wb 98 rfl) hP hD hS hA mD_ok (Nat.le_of_ble_eq_true rfl) (Nat.le_of_ble_eq_true rfl) (fun mm H hP hD hS => ?_)
  refine lv_dup hx hb dL_law_11 rfl ?_
  refine r_cWI (wc := [(mm, .inr (0, mD))]) (X := (hW t d xx a fc fl fd fw fr T) ++ ([] : va_W)) (As := []) (rest := [.ref mm]) hF mi_L_12 (c_X12_init l D t mm _) (fun _ _ _ _ h => h) (fun _ _ _ => trivial) dL_law_12 rfl rfl ⟨Nat.le_of_ble_eq_true rfl, Nat.le_of_ble_eq_true rfl⟩ rfl hl.1 (Nat.le_of_ble_eq_true rfl) hP hD hS hA ⟨Nat.le_of_ble_eq_true rfl, Nat.le_of_ble_eq_true rfl⟩ rfl (fun w1 H locs hI hP hD hS => ?_)
  obtain ⟨Lm, sr, hsr, rfl⟩ := hI
  rw [List.append_nil] at hP hD
  have hP := P_perm List.perm_append_comm hP
  have hD := D_perm List.perm_append_comm hD
  refine lv_astore_n (lv' := [(2, .ref mm), (1, .ref xx), (0, .ref b)]) hx hb dL_law_15 rfl hl (by decide) rfl (fun ls hl => ?_)
  refine lv_iconst (v := 0) hx hb dL_law_16 (by decide) ?_
  refine lv_istore_n (lv' := [(3, .int 0), (2, .ref mm), (1, .ref xx), (0, .ref b)]) hx hb dL_law_17 rfl hl (by decide) rfl (fun ls hl => ?_)
  have hl : lv_has ls 4 [(3, .int 0), (2, .ref mm), (1, .ref xx), (0, .ref b)] := lv_sub hl [0, 1, 2, 3] rfl
  refine W.widen (k := 1000) (n := 1100000) (Nat.le_of_ble_eq_true rfl) (Nat.le_of_ble_eq_true rfl) ?_
  refine lv_iload_n hx hb dL_law_18 rfl (lv_at hl 0 rfl) ?_
  refine lv_aload_n hx hb dL_law_19 rfl (lv_at hl 3 rfl) ?_
  refine r_slen hF hX hbl hS dL_law_20 ?_
  refine lv_bipush (v := 6) hx hb dL_law_21 (by decide) ?_
  refine lv_isub hx hb dL_law_23 ?_
  rcases Nat.lt_or_ge L 6 with hlt | hge
  · refine lv_icmp_gt (tgt := 455) hx hb dL_law_24 rfl (fun _ => ?_) (fun h => absurd (by rw [show (6 : Int32) = nI 6 from rfl]; exact pk_sneg (by decide) hlt) h)
    exact law_end hF hr hlk hS (by decide) (by decide)
  · have hL6 : L = 6 := by omega
    subst hL6
    refine lv_icmp_gt (tgt := 455) hx hb dL_law_24 rfl (fun h => absurd h (by decide)) (fun _ => ?_)
    refine lv_aload_n hx hb dL_law_27 rfl (lv_at hl 3 rfl) ?_
    refine lv_iload_n hx hb dL_law_28 rfl (lv_at hl 0 rfl) ?_
    refine r_sld (v := xs 0) hF hX hbl hS (by unfold vp_in; decide) rfl dL_law_29 ?_
    refine lv_bipush (v := 15) hx hb dL_law_30 (by decide) ?_
    refine lv_iand hx hb dL_law_32 ?_
    obtain ⟨j, hj, hxj⟩ := pk_andE (xs 0) (m := 15) 4 (by decide)
    rw [hxj]
    rcases (show j = 0 ∨ j = 1 ∨ j = 2 ∨ j = 3 ∨ j = 4 ∨ j = 5 ∨ j = 6 ∨ j = 7 ∨ j = 8 ∨ j = 9 ∨ j = 10 ∨ j = 11 ∨ j = 12 ∨ j = 13 ∨ j = 14 ∨ j = 15 by omega) with z | z | z | z | z | z | z | z | z | z | z | z | z | z | z | z
    · subst z
      refine lv_tableIn (off := 67) (tgt := 100) hx hb dL_law_33 (by decide) (by decide) rfl rfl ?_
      exact law_feed hF hr hlk hX hbl a fc fl fd fw fr T Lm sr d hcn hnl hnd hfr hsr hl hP hD hS (by decide) (by decide)
    · subst z
      refine lv_tableIn (off := 130) (tgt := 163) hx hb dL_law_33 (by decide) (by decide) rfl rfl ?_
      exact law_cut hF hr hlk hX hbl a fc fl fd fw fr T Lm sr d hcn hnl hnd hfr hsr hl hP hD hS (by decide) (by decide)
    · subst z
      refine lv_tableIn (off := 153) (tgt := 186) hx hb dL_law_33 (by decide) (by decide) rfl rfl ?_
      exact law_share hF hr hlk hX hbl a fc fl fd fw fr T Lm sr d hcn hnl hnd hfr hsr hl hP hD hS (by decide) (by decide)
    · subst z
      refine lv_tableIn (off := 176) (tgt := 209) hx hb dL_law_33 (by decide) (by decide) rfl rfl ?_
      exact law_connect hF hr hlk hX hbl a fc fl fd fw fr T Lm sr d hcn hnl hnd hfr hsr hl hP hD hS (by decide) (by decide)
    · subst z
      refine lv_tableIn (off := 199) (tgt := 232) hx hb dL_law_33 (by decide) (by decide) rfl rfl ?_
      exact law_hang hF hr hlk hX hbl a fc fl fd fw fr T Lm sr d hcn hnl hnd hfr hsr hl hP hD hS (by decide) (by decide)
    · subst z
      refine lv_tableIn (off := 222) (tgt := 255) hx hb dL_law_33 (by decide) (by decide) rfl rfl ?_
      exact law_come hF hr hlk hX hbl a fc fl fd fw fr T Lm sr d hcn hnl hnd hfr hsr hl hP hD hS (by decide) (by decide)
    · subst z
      refine lv_tableIn (off := 245) (tgt := 278) hx hb dL_law_33 (by decide) (by decide) rfl rfl ?_
      exact law_isOpen hF hr hlk hX hbl a fc fl fd fw fr T Lm sr d hcn hnl hnd hfr hsr hl hP hD hS (by decide) (by decide)
    · subst z
      refine lv_tableIn (off := 268) (tgt := 301) hx hb dL_law_33 (by decide) (by decide) rfl rfl ?_
      exact law_tick hF hr hlk hX hbl a fc fl fd fw fr T Lm sr d hcn hnl hnd hfr hsr hl hP hD hS (by decide) (by decide)
    · subst z
      refine lv_tableIn (off := 291) (tgt := 324) hx hb dL_law_33 (by decide) (by decide) rfl rfl ?_
      exact law_crash hF hr hlk hX hbl a fc fl fd fw fr T Lm sr d hcn hnl hnd hfr hsr hl hP hD hS (by decide) (by decide)
    · subst z
      refine lv_tableIn (off := 314) (tgt := 347) hx hb dL_law_33 (by decide) (by decide) rfl rfl ?_
      exact law_outs hF hr hlk hX hbl a fc fl fd fw fr T Lm sr d hcn hnl hnd hfr hsr hl hP hD hS (by decide) (by decide)
    · subst z
      refine lv_tableIn (off := 337) (tgt := 370) hx hb dL_law_33 (by decide) (by decide) rfl rfl ?_
      exact law_out hF hr hlk hX hbl a fc fl fd fw fr T Lm sr d hcn hnl hnd hfr hsr hl hP hD hS (by decide) (by decide)
    · subst z
      refine lv_tableIn (off := 370) (tgt := 403) hx hb dL_law_33 (by decide) (by decide) rfl rfl ?_
      exact law_drop hF hr hlk hX hbl a fc fl fd fw fr T Lm sr d hcn hnl hnd hfr hsr hl hP hD hS (by decide) (by decide)
    · subst z
      refine lv_tableIn (off := 393) (tgt := 426) hx hb dL_law_33 (by decide) (by decide) rfl rfl ?_
      exact law_told hF hr hlk hX hbl a fc fl fd fw fr T Lm sr d hcn hnl hnd hfr hsr hl hP hD hS (by decide) (by decide)
    · subst z
      refine lv_tableOut (tgt := 449) hx hb dL_law_33 (by decide) rfl ?_
      exact law_tail hF hr hlk hX hbl hl hS (by decide) (by decide)
    · subst z
      refine lv_tableOut (tgt := 449) hx hb dL_law_33 (by decide) rfl ?_
      exact law_tail hF hr hlk hX hbl hl hS (by decide) (by decide)
    · subst z
      refine lv_tableOut (tgt := 449) hx hb dL_law_33 (by decide) rfl ?_
      exact law_tail hF hr hlk hX hbl hl hS (by decide) (by decide)
end
section
set_option maxHeartbeats 4000000 in
theorem lw_walk (l : Launch) (b : Addr) (xs : List Int32) : MetFree l x (headSpec (Jvm.Cond.code x code maxLocals ret :: tables_1) room_1) (lw_P b xs) (fun _ _ _ _ _ => True) lw_Q := by
  refine MetFree.of_bodyS (code := code) (maxLocals := maxLocals) (ret := ret) (by decide) ?_ ?_
  · intro args s m h hn
    obtain ⟨meth, c, h1, h2, h3, h4, h5, h6, -, -⟩ := Cond.code_spec hn (atoms_spec (ws := Jvm.Cond.code x code maxLocals ret :: tables_1) h _ List.mem_cons_self)
    exact ⟨meth, c, h1, h2, h3, h4, h5, h6⟩
  · intro p e s m args below meth c s₁ B hml0 hP _
    obtain ⟨rfl, hx, hbd, hgv⟩ := hP
    obtain ⟨scr, harrAt, hlist, hof, hsmall⟩ := hx
    obtain ⟨hcb, hkn, -, -⟩ := State.arrayAt?_spec harrAt
    have hown : s.vm.findClass R_law = some m.cls := findClass_of_methodNamed B.named
    have hts0 : ∀ c ∈ (Jvm.Cond.code x code maxLocals ret :: tables_1), c.before #[Value.ref b] s = true := atoms_spec (ws := Jvm.Cond.code x code maxLocals ret :: tables_1) B.pre
    have hts : ∀ w ∈ lw_tbl, w.before #[Value.ref b] s = true := k2_hts_sels lw_privs (fun w hw => hts0 w (List.mem_cons_of_mem _ hw)) lw_privs_ok
    have hml : c.maxLocals = 4 := B.maxLocals_eq (hts0 _ List.mem_cons_self)
    have X₀ : Stand p l e room_1 s m #[Value.ref b] below meth c s₁ [] 0 0 := Stand.of_body B
    have hh0 : s₁.heap = s.heap := by rw [B.state]; rfl
    have hsz : scr.slots.size = xs.length := by rw [← Array.length_toList, hlist, List.length_map]
    have hval : ∀ j : Nat, j < xs.length → scr.slots[j]? = some (.int (xs.getD j 0)) := fun j hj => by
      rw [← Array.getElem?_toList, hlist]
      simp [hj]
    have hbl : b < s.heap.size := (Array.getElem?_eq_some_iff.mp hcb).1
    have hX : va_X b xs.length (fun j => xs.getD j 0) s s.heap := ⟨scr, hcb, hof, hkn, hsz, hval⟩
    have K : W p l e room_1 s m #[Value.ref b] below meth c s₁.heap [] 0 0 (lw_Z below #[Value.ref b] s) (entryFrame m ([Value.ref b] : List Value).toArray 4) := by
      rw [hh0]
      exact whole_start l hbd ⟨B.exec, B.bytes, B.returns, hml, hown, hts, hX, hbl, B.notSynchronized, hgv⟩
    obtain ⟨t, a1, o, b1, b2, b3⟩ := K s₁ rfl X₀
    exact ⟨t, o, a1, b1, b2, b3⟩
theorem lw_pre_spec {args : Array Value} {s : State} (h : (Jvm.Cond.and given_1 narrow_1).before args s = true) (hr : rest_1_c.before args s = true) : ∃ (b : Addr) (xs : List Int32), lw_P b xs args s := by
  have hs := flat_of_before _ h
  have hq := flat_of_before _ hr
  have hc : (Cond.count 1).before args s = true := hs _ (by decide +kernel)
  have harr : (Cond.arrayOf (.arg 0) .int).before args s = true := hs _ (by decide +kernel)
  have hle : (Cond.le (.length (.arg 0)) (.int 6)).before args s = true := hs _ (by decide +kernel)
  have hlen : (Cond.isInt (.length (.arg 0))).before args s = true := hq _ (by decide +kernel)
  have hall : (Cond.all (.arg 0) (.isInt (.elem (.arg 0) (.index 0)))).before args s = true := hq _ (by decide +kernel)
  obtain ⟨b, xs, hb, hx⟩ := State.ints_of_pre rfl harr hlen hall
  have hsm : xs.length < 2 ^ 31 := hx.choose_spec.2.2.2
  have hev : (Term.length (.arg 0)).eval args s none [] s = some (.int xs.length.toInt32) := hx.length_eval hb
  have hv := Cond.le_ints hev (show (Term.int 6).eval args s none [] s = some (.int 6) from rfl)
  have hd : xs.length.toInt32 ≤ 6 := by
    simpa [Cond.before, Cond.holds, hv] using hle
  have hN : xs.length ≤ 6 := (Int32.ofNat_le_ofNat hsm (by decide)).mp (show Int32.ofNat xs.length ≤ Int32.ofNat 6 from hd)
  exact ⟨b, xs, Cond.one_arg hc (show args[0]? = some (.ref b) from hb), hx, hN, h⟩
theorem lw_comes (l : Launch) : Comes l x (Jvm.Cond.code x code maxLocals ret :: tables_1) room_1 (fun tb e args s => Calls_1 tb e args s ∧ rest_1 tb e args s ∧ Pre_1 tb e args s)
    (fun _ _ args s o t => lw_Q args s o t) := by
  intro p e ha hc hk s m args below hf hfit hheap happ hpre
  obtain ⟨b, xs, hP⟩ := lw_pre_spec hpre.2.2 hpre.2.1
  obtain ⟨k, o, h1, h2, h3, hQ⟩ := lw_walk l b xs p e ha hc hk s m args below hf ((Spec.applies_iff_loose hf).mp happ).1 hP trivial
  exact ⟨k, o, h1, h2, h3, hQ⟩
theorem lw_frame {s t : State} {o : Outcome} {args : Array Value} (h : Framed s o t [] 600000 7302250) :
    Framed s o t (fieldLocs frame_1_writes args s ++ arrayLocs frame_1_arrays args s ++ staticLocs frame_1_statics s) 600000 7302250 := h
theorem lw_limb (L : Cond) (hL : ∀ (args : Array Value) (s t : State), L.after args s (.returned (some (.int 1))) t = true) :
    ArmFor flags0 classFile x code maxLocals ret World_1 tables_1 room_1 Calls_1 rest_1 Pre_1
      (fun tb e a s o t => postC L tb e a s o t ∧ Framed s o t (fieldLocs frame_1_writes a s ++ arrayLocs frame_1_arrays a s ++ staticLocs frame_1_statics s) 600000 7302250) := by
  intro l _ _ _ p e ha hc hk s m args below hf hfit hheap happ hpre
  obtain ⟨k, o, h1, h2, h3, rfl, hF⟩ := lw_comes l p e ha hc hk s m args below hf hfit hheap happ hpre
  exact ⟨k, _, h1, h2, h3, hL args s _, lw_frame hF⟩
theorem i_vc : Claimed_1_1 ∧ Claimed_1_2 := ⟨lw_limb limb_1_1 (fun args s t => by simp [limb_1_1, Cond.after, Cond.holds, Cond.value]), lw_limb limb_1_2 (fun args s t => Cond.after_iff.mpr (by
  first | (rw [show limb_1_2 = Cond.eq .result (.int 1) from rfl, Cond.eq_ints (x := 1) (y := 1) rfl rfl]; simp; done) | (simp [limb_1_2, Cond.value, Term.eval]; done)))⟩
end
