/-- a private method of a class that the tables say can be made, by its rows of tables_1 -/
def lw_okq (q : MethodName × Nat) : Prop := (q.1.cls ≠ "java/lang/invoke/MethodHandle" ∧ q.1.cls ≠ "java/lang/invoke/VarHandle") ∧ Cond.instantiable q.1.cls q.2 ∈ tables_1 ∧ Cond.privateMethod q.1 ∈ tables_1 ∧ Cond.instanceMethod q.1 ∈ tables_1
theorem lw_p0 : lw_okq (⟨"ShareHouse", "tapeIsShareName", "()Z"⟩, 18) := ⟨⟨by decide +kernel, by decide +kernel⟩, List.mem_of_getElem? (i := 28) (by decide +kernel), List.mem_of_getElem? (i := 421) (by decide +kernel), List.mem_of_getElem? (i := 422) (by decide +kernel)⟩
theorem lw_p1 : lw_okq (⟨"ShareHouse", "connection", "(I)LShareHouse$Conn;"⟩, 18) := ⟨⟨by decide +kernel, by decide +kernel⟩, List.mem_of_getElem? (i := 28) (by decide +kernel), List.mem_of_getElem? (i := 489) (by decide +kernel), List.mem_of_getElem? (i := 490) (by decide +kernel)⟩
theorem lw_p2 : lw_okq (⟨"ShareHouse", "comeToDisk", "()V"⟩, 18) := ⟨⟨by decide +kernel, by decide +kernel⟩, List.mem_of_getElem? (i := 28) (by decide +kernel), List.mem_of_getElem? (i := 447) (by decide +kernel), List.mem_of_getElem? (i := 448) (by decide +kernel)⟩
theorem lw_p3 : lw_okq (⟨"ShareHouseModel", "begin", "()V"⟩, 120) := ⟨⟨by decide +kernel, by decide +kernel⟩, List.mem_of_getElem? (i := 1595) (by decide +kernel), List.mem_of_getElem? (i := 1606) (by decide +kernel), List.mem_of_getElem? (i := 1607) (by decide +kernel)⟩
theorem lw_p4 : lw_okq (⟨"ShareHouseModel", "copyNode", "(II)V"⟩, 120) := ⟨⟨by decide +kernel, by decide +kernel⟩, List.mem_of_getElem? (i := 1595) (by decide +kernel), List.mem_of_getElem? (i := 1610) (by decide +kernel), List.mem_of_getElem? (i := 1611) (by decide +kernel)⟩
theorem lw_p5 : lw_okq (⟨"ShareHouseModel", "lay", "(I)V"⟩, 120) := ⟨⟨by decide +kernel, by decide +kernel⟩, List.mem_of_getElem? (i := 1595) (by decide +kernel), List.mem_of_getElem? (i := 1980) (by decide +kernel), List.mem_of_getElem? (i := 1981) (by decide +kernel)⟩
theorem lw_p6 : lw_okq (⟨"ShareHouseModel", "come", "(IZ)V"⟩, 120) := ⟨⟨by decide +kernel, by decide +kernel⟩, List.mem_of_getElem? (i := 1595) (by decide +kernel), List.mem_of_getElem? (i := 2003) (by decide +kernel), List.mem_of_getElem? (i := 2004) (by decide +kernel)⟩
theorem lw_p7 : lw_okq (⟨"ShareHouseModel", "nodes", "(I)I"⟩, 120) := ⟨⟨by decide +kernel, by decide +kernel⟩, List.mem_of_getElem? (i := 1595) (by decide +kernel), List.mem_of_getElem? (i := 1995) (by decide +kernel), List.mem_of_getElem? (i := 1996) (by decide +kernel)⟩
theorem lw_p8 : lw_okq (⟨"ShareHouseModel", "count", "([J)I"⟩, 120) := ⟨⟨by decide +kernel, by decide +kernel⟩, List.mem_of_getElem? (i := 1595) (by decide +kernel), List.mem_of_getElem? (i := 2207) (by decide +kernel), List.mem_of_getElem? (i := 2208) (by decide +kernel)⟩
def lw_privs : List (MethodName × Nat) := [(⟨"ShareHouse", "tapeIsShareName", "()Z"⟩, 18), (⟨"ShareHouse", "connection", "(I)LShareHouse$Conn;"⟩, 18), (⟨"ShareHouse", "comeToDisk", "()V"⟩, 18), (⟨"ShareHouseModel", "begin", "()V"⟩, 120), (⟨"ShareHouseModel", "copyNode", "(II)V"⟩, 120), (⟨"ShareHouseModel", "lay", "(I)V"⟩, 120), (⟨"ShareHouseModel", "come", "(IZ)V"⟩, 120), (⟨"ShareHouseModel", "nodes", "(I)I"⟩, 120), (⟨"ShareHouseModel", "count", "([J)I"⟩, 120)]
def lw_tbl : List Cond := k2_sels lw_privs ++ tables_1
theorem lw_privs_ok : ∀ q ∈ lw_privs, lw_okq q := List.forall_mem_cons.mpr ⟨lw_p0, List.forall_mem_cons.mpr ⟨lw_p1, List.forall_mem_cons.mpr ⟨lw_p2, List.forall_mem_cons.mpr ⟨lw_p3, List.forall_mem_cons.mpr ⟨lw_p4, List.forall_mem_cons.mpr ⟨lw_p5, List.forall_mem_cons.mpr ⟨lw_p6, List.forall_mem_cons.mpr ⟨lw_p7, List.forall_mem_cons.mpr ⟨lw_p8, fun _ h => absurd h List.not_mem_nil⟩⟩⟩⟩⟩⟩⟩⟩⟩
def RX12 : String := "ShareHouseModel"
def TX12 : u_T := fun k => match k with
  | 0 => ("ShareHouseModel", "tape", "[B", true)
  | 1 => ("ShareHouseModel", "tapeSize", "I", false)
  | 2 => ("ShareHouseModel", "now", "J", false)
  | 3 => ("ShareHouseModel", "is", "[Z", true)
  | 4 => ("ShareHouseModel", "above", "[I", true)
  | 5 => ("ShareHouseModel", "isDir", "[Z", true)
  | 6 => ("ShareHouseModel", "names", "[B", true)
  | 7 => ("ShareHouseModel", "nameSize", "[I", true)
  | 8 => ("ShareHouseModel", "attributes", "[I", true)
  | 9 => ("ShareHouseModel", "times", "[J", true)
  | 10 => ("ShareHouseModel", "sizes", "[I", true)
  | 11 => ("ShareHouseModel", "bytes", "[B", true)
  | 12 => ("ShareHouseModel", "isToGo", "[Z", true)
  | 13 => ("ShareHouseModel", "shareRoot", "[I", true)
  | 14 => ("ShareHouseModel", "shareNames", "[B", true)
  | 15 => ("ShareHouseModel", "shareSize", "[I", true)
  | 16 => ("ShareHouseModel", "records", "I", false)
  | 17 => ("ShareHouseModel", "rKind", "[I", true)
  | 18 => ("ShareHouseModel", "rNode", "[I", true)
  | 19 => ("ShareHouseModel", "rAbove", "[I", true)
  | 20 => ("ShareHouseModel", "rDir", "[Z", true)
  | 21 => ("ShareHouseModel", "rName", "[B", true)
  | 22 => ("ShareHouseModel", "rNameSize", "[I", true)
  | 23 => ("ShareHouseModel", "rAttributes", "[I", true)
  | 24 => ("ShareHouseModel", "rTimes", "[J", true)
  | 25 => ("ShareHouseModel", "rFrom", "[I", true)
  | 26 => ("ShareHouseModel", "rMany", "[I", true)
  | 27 => ("ShareHouseModel", "rBytes", "[B", true)
  | 28 => ("ShareHouseModel", "isConnected", "[Z", true)
  | 29 => ("ShareHouseModel", "isAgreed", "[Z", true)
  | 30 => ("ShareHouseModel", "outs", "[B", true)
  | 31 => ("ShareHouseModel", "outSize", "[I", true)
  | 32 => ("ShareHouseModel", "ins", "[B", true)
  | 33 => ("ShareHouseModel", "inSize", "[I", true)
  | 34 => ("ShareHouseModel", "free", "[J", true)
  | 35 => ("ShareHouseModel", "frees", "[I", true)
  | 36 => ("ShareHouseModel", "highest", "[J", true)
  | 37 => ("ShareHouseModel", "sessionSerial", "[J", true)
  | 38 => ("ShareHouseModel", "sessionOn", "[I", true)
  | 39 => ("ShareHouseModel", "users", "[B", true)
  | 40 => ("ShareHouseModel", "userSize", "[I", true)
  | 41 => ("ShareHouseModel", "treeSerial", "[J", true)
  | 42 => ("ShareHouseModel", "treeOf", "[I", true)
  | 43 => ("ShareHouseModel", "treeShare", "[I", true)
  | 44 => ("ShareHouseModel", "openSerial", "[J", true)
  | 45 => ("ShareHouseModel", "openTree", "[I", true)
  | 46 => ("ShareHouseModel", "openNode", "[I", true)
  | 47 => ("ShareHouseModel", "access", "[I", true)
  | 48 => ("ShareHouseModel", "shares", "[I", true)
  | 49 => ("ShareHouseModel", "oplock", "[I", true)
  | 50 => ("ShareHouseModel", "isBroken", "[Z", true)
  | 51 => ("ShareHouseModel", "brokenTo", "[I", true)
  | 52 => ("ShareHouseModel", "brokenAt", "[J", true)
  | 53 => ("ShareHouseModel", "goesOnClose", "[Z", true)
  | 54 => ("ShareHouseModel", "patternSize", "[I", true)
  | 55 => ("ShareHouseModel", "patterns", "[I", true)
  | 56 => ("ShareHouseModel", "lastKind", "[I", true)
  | 57 => ("ShareHouseModel", "lastName", "[B", true)
  | 58 => ("ShareHouseModel", "lastSize", "[I", true)
  | 59 => ("ShareHouseModel", "sessionRow", "J", false)
  | 60 => ("ShareHouseModel", "treeRow", "J", false)
  | 61 => ("ShareHouseModel", "openRow", "J", false)
  | 62 => ("ShareHouseModel", "asyncRow", "J", false)
  | 63 => ("ShareHouseModel", "locks", "I", false)
  | 64 => ("ShareHouseModel", "lockOpen", "[J", true)
  | 65 => ("ShareHouseModel", "lockNode", "[I", true)
  | 66 => ("ShareHouseModel", "lockFrom", "[J", true)
  | 67 => ("ShareHouseModel", "lockMany", "[J", true)
  | 68 => ("ShareHouseModel", "lockShared", "[Z", true)
  | 69 => ("ShareHouseModel", "waits", "I", false)
  | 70 => ("ShareHouseModel", "wOn", "[I", true)
  | 71 => ("ShareHouseModel", "wCommand", "[I", true)
  | 72 => ("ShareHouseModel", "wCharge", "[I", true)
  | 73 => ("ShareHouseModel", "wRelated", "[Z", true)
  | 74 => ("ShareHouseModel", "wId", "[J", true)
  | 75 => ("ShareHouseModel", "wAsync", "[J", true)
  | 76 => ("ShareHouseModel", "wSession", "[I", true)
  | 77 => ("ShareHouseModel", "wTree", "[I", true)
  | 78 => ("ShareHouseModel", "wOpen", "[J", true)
  | 79 => ("ShareHouseModel", "wNode", "[I", true)
  | 80 => ("ShareHouseModel", "wFrom", "[J", true)
  | 81 => ("ShareHouseModel", "wMany", "[J", true)
  | 82 => ("ShareHouseModel", "wShared", "[Z", true)
  | 83 => ("ShareHouseModel", "wSize", "[I", true)
  | 84 => ("ShareHouseModel", "wBytes", "[B", true)
  | 85 => ("ShareHouseModel", "in", "[B", false)
  | 86 => ("ShareHouseModel", "base", "I", false)
  | 87 => ("ShareHouseModel", "length", "I", false)
  | 88 => ("ShareHouseModel", "line", "I", false)
  | 89 => ("ShareHouseModel", "answer", "[B", true)
  | 90 => ("ShareHouseModel", "start", "I", false)
  | 91 => ("ShareHouseModel", "size", "I", false)
  | 92 => ("ShareHouseModel", "isCut", "Z", false)
  | 93 => ("ShareHouseModel", "command", "I", false)
  | 94 => ("ShareHouseModel", "isRelated", "Z", false)
  | 95 => ("ShareHouseModel", "isLast", "Z", false)
  | 96 => ("ShareHouseModel", "sessionAsked", "J", false)
  | 97 => ("ShareHouseModel", "treeAsked", "J", false)
  | 98 => ("ShareHouseModel", "session", "I", false)
  | 99 => ("ShareHouseModel", "tree", "I", false)
  | 100 => ("ShareHouseModel", "open", "I", false)
  | 101 => ("ShareHouseModel", "fileLow", "J", false)
  | 102 => ("ShareHouseModel", "fileHigh", "J", false)
  | 103 => ("ShareHouseModel", "hasFile", "Z", false)
  | 104 => ("ShareHouseModel", "sessionBefore", "J", false)
  | 105 => ("ShareHouseModel", "treeBefore", "J", false)
  | 106 => ("ShareHouseModel", "lowBefore", "J", false)
  | 107 => ("ShareHouseModel", "highBefore", "J", false)
  | 108 => ("ShareHouseModel", "hadFile", "Z", false)
  | 109 => ("ShareHouseModel", "isWaiting", "Z", false)
  | 110 => ("ShareHouseModel", "answers", "I", false)
  | 111 => ("ShareHouseModel", "opened", "J", false)
  | 112 => ("ShareHouseModel", "units", "[I", true)
  | 113 => ("ShareHouseModel", "partFrom", "[I", true)
  | 114 => ("ShareHouseModel", "partSize", "[I", true)
  | 115 => ("ShareHouseModel", "parts", "I", false)
  | 116 => ("ShareHouseModel", "inside", "I", false)
  | 117 => ("ShareHouseModel", "found", "I", false)
  | 118 => ("ShareHouseModel", "nextKind", "I", false)
  | _ => ("ShareHouseModel", "nextNode", "I", false)
def tyX12 : Nat → FieldType := fun k => match k with
  | 0 => .array .byte
  | 1 => .int
  | 2 => .long
  | 3 => .array .boolean
  | 4 => .array .int
  | 5 => .array .boolean
  | 6 => .array .byte
  | 7 => .array .int
  | 8 => .array .int
  | 9 => .array .long
  | 10 => .array .int
  | 11 => .array .byte
  | 12 => .array .boolean
  | 13 => .array .int
  | 14 => .array .byte
  | 15 => .array .int
  | 16 => .int
  | 17 => .array .int
  | 18 => .array .int
  | 19 => .array .int
  | 20 => .array .boolean
  | 21 => .array .byte
  | 22 => .array .int
  | 23 => .array .int
  | 24 => .array .long
  | 25 => .array .int
  | 26 => .array .int
  | 27 => .array .byte
  | 28 => .array .boolean
  | 29 => .array .boolean
  | 30 => .array .byte
  | 31 => .array .int
  | 32 => .array .byte
  | 33 => .array .int
  | 34 => .array .long
  | 35 => .array .int
  | 36 => .array .long
  | 37 => .array .long
  | 38 => .array .int
  | 39 => .array .byte
  | 40 => .array .int
  | 41 => .array .long
  | 42 => .array .int
  | 43 => .array .int
  | 44 => .array .long
  | 45 => .array .int
  | 46 => .array .int
  | 47 => .array .int
  | 48 => .array .int
  | 49 => .array .int
  | 50 => .array .boolean
  | 51 => .array .int
  | 52 => .array .long
  | 53 => .array .boolean
  | 54 => .array .int
  | 55 => .array .int
  | 56 => .array .int
  | 57 => .array .byte
  | 58 => .array .int
  | 59 => .long
  | 60 => .long
  | 61 => .long
  | 62 => .long
  | 63 => .int
  | 64 => .array .long
  | 65 => .array .int
  | 66 => .array .long
  | 67 => .array .long
  | 68 => .array .boolean
  | 69 => .int
  | 70 => .array .int
  | 71 => .array .int
  | 72 => .array .int
  | 73 => .array .boolean
  | 74 => .array .long
  | 75 => .array .long
  | 76 => .array .int
  | 77 => .array .int
  | 78 => .array .long
  | 79 => .array .int
  | 80 => .array .long
  | 81 => .array .long
  | 82 => .array .boolean
  | 83 => .array .int
  | 84 => .array .byte
  | 85 => .array .byte
  | 86 => .int
  | 87 => .int
  | 88 => .int
  | 89 => .array .byte
  | 90 => .int
  | 91 => .int
  | 92 => .boolean
  | 93 => .int
  | 94 => .boolean
  | 95 => .boolean
  | 96 => .long
  | 97 => .long
  | 98 => .int
  | 99 => .int
  | 100 => .int
  | 101 => .long
  | 102 => .long
  | 103 => .boolean
  | 104 => .long
  | 105 => .long
  | 106 => .long
  | 107 => .long
  | 108 => .boolean
  | 109 => .boolean
  | 110 => .int
  | 111 => .long
  | 112 => .array .int
  | 113 => .array .int
  | 114 => .array .int
  | 115 => .int
  | 116 => .int
  | 117 => .int
  | 118 => .int
  | _ => .int
theorem nmX12 : ∀ a, a < 120 → ∀ b, b < 120 → a ≠ b → (TX12 a).2.1 ≠ (TX12 b).2.1 := by decide +kernel
theorem tyX12_ok : ∀ k, k < 120 → parseFieldDescriptor (TX12 k).2.2.1 = some (tyX12 k) := by decide +kernel
def RX11 : String := "ShareHouse"
def TX11 : u_T := fun k => match k with
  | 0 => ("ShareHouse", "tape", "LShareHouse$Row;", true)
  | 1 => ("ShareHouse", "conns", "[LShareHouse$Conn;", true)
  | 2 => ("ShareHouse", "roots", "[I", true)
  | 3 => ("ShareHouse", "live", "LShareHouse$Volume;", true)
  | 4 => ("ShareHouse", "disk", "LShareHouse$Volume;", true)
  | 5 => ("ShareHouse", "waiting", "[LShareHouse$Change;", true)
  | 6 => ("ShareHouse", "recordsWaiting", "I", false)
  | 7 => ("ShareHouse", "now", "J", false)
  | 8 => ("ShareHouse", "sessions", "Ljava/util/ArrayList;", true)
  | 9 => ("ShareHouse", "trees", "Ljava/util/ArrayList;", true)
  | 10 => ("ShareHouse", "opens", "Ljava/util/ArrayList;", true)
  | 11 => ("ShareHouse", "locks", "Ljava/util/ArrayList;", true)
  | 12 => ("ShareHouse", "waits", "Ljava/util/ArrayList;", true)
  | 13 => ("ShareHouse", "serials", "[J", true)
  | 14 => ("ShareHouse", "reply", "LShareHouse$Row;", true)
  | 15 => ("ShareHouse", "answer", "LShareHouse$Row;", true)
  | 16 => ("ShareHouse", "later", "LShareHouse$Row;", true)
  | _ => ("ShareHouse", "breaking", "LShareHouse$Row;", true)
def tyX11 : Nat → FieldType := fun k => match k with
  | 0 => .object "ShareHouse$Row"
  | 1 => .array (.object "ShareHouse$Conn")
  | 2 => .array .int
  | 3 => .object "ShareHouse$Volume"
  | 4 => .object "ShareHouse$Volume"
  | 5 => .array (.object "ShareHouse$Change")
  | 6 => .int
  | 7 => .long
  | 8 => .object "java/util/ArrayList"
  | 9 => .object "java/util/ArrayList"
  | 10 => .object "java/util/ArrayList"
  | 11 => .object "java/util/ArrayList"
  | 12 => .object "java/util/ArrayList"
  | 13 => .array .long
  | 14 => .object "ShareHouse$Row"
  | 15 => .object "ShareHouse$Row"
  | 16 => .object "ShareHouse$Row"
  | _ => .object "ShareHouse$Row"
theorem nmX11 : ∀ a, a < 18 → ∀ b, b < 18 → a ≠ b → (TX11 a).2.1 ≠ (TX11 b).2.1 := by decide +kernel
theorem tyX11_ok : ∀ k, k < 18 → parseFieldDescriptor (TX11 k).2.2.1 = some (tyX11 k) := by decide +kernel
def RX6 : String := "ShareHouse$Row"
def TX6 : u_T := fun k => match k with
  | 0 => ("ShareHouse$Row", "bytes", "[B", false)
  | _ => ("ShareHouse$Row", "length", "I", false)
def tyX6 : Nat → FieldType := fun k => match k with
  | 0 => .array .byte
  | _ => .int
theorem nmX6 : ∀ a, a < 2 → ∀ b, b < 2 → a ≠ b → (TX6 a).2.1 ≠ (TX6 b).2.1 := by decide +kernel
theorem tyX6_ok : ∀ k, k < 2 → parseFieldDescriptor (TX6 k).2.2.1 = some (tyX6 k) := by decide +kernel
def RX2 : String := "ShareHouse$Conn"
def TX2 : u_T := fun k => match k with
  | 0 => ("ShareHouse$Conn", "there", "Z", false)
  | 1 => ("ShareHouse$Conn", "negotiated", "Z", false)
  | 2 => ("ShareHouse$Conn", "came", "LShareHouse$Row;", true)
  | 3 => ("ShareHouse$Conn", "size", "J", false)
  | 4 => ("ShareHouse$Conn", "sent", "LShareHouse$Row;", true)
  | 5 => ("ShareHouse$Conn", "free", "[J", true)
  | 6 => ("ShareHouse$Conn", "freeCount", "I", false)
  | 7 => ("ShareHouse$Conn", "highest", "J", false)
  | 8 => ("ShareHouse$Conn", "at", "I", false)
  | 9 => ("ShareHouse$Conn", "answerAt", "I", false)
  | 10 => ("ShareHouse$Conn", "beforeSession", "J", false)
  | 11 => ("ShareHouse$Conn", "beforeTree", "J", false)
  | 12 => ("ShareHouse$Conn", "beforeFile", "Z", false)
  | 13 => ("ShareHouse$Conn", "beforeLow", "J", false)
  | _ => ("ShareHouse$Conn", "beforeHigh", "J", false)
def tyX2 : Nat → FieldType := fun k => match k with
  | 0 => .boolean
  | 1 => .boolean
  | 2 => .object "ShareHouse$Row"
  | 3 => .long
  | 4 => .object "ShareHouse$Row"
  | 5 => .array .long
  | 6 => .int
  | 7 => .long
  | 8 => .int
  | 9 => .int
  | 10 => .long
  | 11 => .long
  | 12 => .boolean
  | 13 => .long
  | _ => .long
theorem nmX2 : ∀ a, a < 15 → ∀ b, b < 15 → a ≠ b → (TX2 a).2.1 ≠ (TX2 b).2.1 := by decide +kernel
theorem tyX2_ok : ∀ k, k < 15 → parseFieldDescriptor (TX2 k).2.2.1 = some (tyX2 k) := by decide +kernel
def RX1 : String := "ShareHouse$Change"
def TX1 : u_T := fun k => match k with
  | 0 => ("ShareHouse$Change", "kind", "I", false)
  | 1 => ("ShareHouse$Change", "node", "I", false)
  | 2 => ("ShareHouse$Change", "parent", "I", false)
  | 3 => ("ShareHouse$Change", "directory", "Z", false)
  | 4 => ("ShareHouse$Change", "name", "[B", true)
  | 5 => ("ShareHouse$Change", "nameLength", "I", false)
  | 6 => ("ShareHouse$Change", "attributes", "I", false)
  | 7 => ("ShareHouse$Change", "made", "J", false)
  | 8 => ("ShareHouse$Change", "looked", "J", false)
  | 9 => ("ShareHouse$Change", "written", "J", false)
  | 10 => ("ShareHouse$Change", "changed", "J", false)
  | 11 => ("ShareHouse$Change", "size", "I", false)
  | 12 => ("ShareHouse$Change", "from", "I", false)
  | 13 => ("ShareHouse$Change", "many", "I", false)
  | _ => ("ShareHouse$Change", "bytes", "[B", false)
def tyX1 : Nat → FieldType := fun k => match k with
  | 0 => .int
  | 1 => .int
  | 2 => .int
  | 3 => .boolean
  | 4 => .array .byte
  | 5 => .int
  | 6 => .int
  | 7 => .long
  | 8 => .long
  | 9 => .long
  | 10 => .long
  | 11 => .int
  | 12 => .int
  | 13 => .int
  | _ => .array .byte
theorem nmX1 : ∀ a, a < 15 → ∀ b, b < 15 → a ≠ b → (TX1 a).2.1 ≠ (TX1 b).2.1 := by decide +kernel
theorem tyX1_ok : ∀ k, k < 15 → parseFieldDescriptor (TX1 k).2.2.1 = some (tyX1 k) := by decide +kernel
def RX4 : String := "ShareHouse$Node"
def TX4 : u_T := fun k => match k with
  | 0 => ("ShareHouse$Node", "number", "I", true)
  | 1 => ("ShareHouse$Node", "used", "Z", false)
  | 2 => ("ShareHouse$Node", "directory", "Z", false)
  | 3 => ("ShareHouse$Node", "toGo", "Z", false)
  | 4 => ("ShareHouse$Node", "parent", "I", false)
  | 5 => ("ShareHouse$Node", "name", "[B", true)
  | 6 => ("ShareHouse$Node", "nameLength", "I", false)
  | 7 => ("ShareHouse$Node", "attributes", "I", false)
  | 8 => ("ShareHouse$Node", "made", "J", false)
  | 9 => ("ShareHouse$Node", "looked", "J", false)
  | 10 => ("ShareHouse$Node", "written", "J", false)
  | 11 => ("ShareHouse$Node", "changed", "J", false)
  | 12 => ("ShareHouse$Node", "size", "I", false)
  | _ => ("ShareHouse$Node", "data", "[B", false)
def tyX4 : Nat → FieldType := fun k => match k with
  | 0 => .int
  | 1 => .boolean
  | 2 => .boolean
  | 3 => .boolean
  | 4 => .int
  | 5 => .array .byte
  | 6 => .int
  | 7 => .int
  | 8 => .long
  | 9 => .long
  | 10 => .long
  | 11 => .long
  | 12 => .int
  | _ => .array .byte
theorem nmX4 : ∀ a, a < 14 → ∀ b, b < 14 → a ≠ b → (TX4 a).2.1 ≠ (TX4 b).2.1 := by decide +kernel
theorem tyX4_ok : ∀ k, k < 14 → parseFieldDescriptor (TX4 k).2.2.1 = some (tyX4 k) := by decide +kernel
def RX9 : String := "ShareHouse$Volume"
def TX9 : u_T := fun k => match k with
  | 0 => ("ShareHouse$Volume", "nodes", "[LShareHouse$Node;", true)
  | _ => ("ShareHouse$Volume", "count", "I", false)
def tyX9 : Nat → FieldType := fun k => match k with
  | 0 => .array (.object "ShareHouse$Node")
  | _ => .int
theorem nmX9 : ∀ a, a < 2 → ∀ b, b < 2 → a ≠ b → (TX9 a).2.1 ≠ (TX9 b).2.1 := by decide +kernel
theorem tyX9_ok : ∀ k, k < 2 → parseFieldDescriptor (TX9 k).2.2.1 = some (tyX9 k) := by decide +kernel
def RJx4a65c : String := "java/util/ArrayList"
def TJx4a65c : u_T := fun k => match k with
  | 0 => ("java/util/AbstractList", "modCount", "I", false)
  | 1 => ("java/util/ArrayList", "elementData", "[Ljava/lang/Object;", false)
  | _ => ("java/util/ArrayList", "size", "I", false)
def tyJx4a65c : Nat → FieldType := fun k => match k with
  | 0 => .int
  | 1 => .array (.object "java/lang/Object")
  | _ => .int
theorem nmJx4a65c : ∀ a, a < 3 → ∀ b, b < 3 → a ≠ b → (TJx4a65c a).2.1 ≠ (TJx4a65c b).2.1 := by decide +kernel
theorem tyJx4a65c_ok : ∀ k, k < 3 → parseFieldDescriptor (TJx4a65c k).2.2.1 = some (tyJx4a65c k) := by decide +kernel
def RJxc12de : String := "java/util/AbstractList"
def RJxa1e45 : String := "java/util/AbstractCollection"
def RJ7 : String := "java/util/Arrays"
def RL : String := "ShareHouseLaw"
abbrev cX6_init : ByteArray := prog_8_method_1_code
def yX6_init : MethodName := ⟨RX6, "<init>", "()V"⟩
abbrev cX2_init : ByteArray := prog_4_method_1_code
def yX2_init : MethodName := ⟨RX2, "<init>", "()V"⟩
abbrev cX1_init : ByteArray := prog_3_method_1_code
def yX1_init : MethodName := ⟨RX1, "<init>", "()V"⟩
abbrev cX4_init : ByteArray := prog_6_method_1_code
def yX4_init : MethodName := ⟨RX4, "<init>", "(I)V"⟩
abbrev cX9_init : ByteArray := prog_11_method_1_code
def yX9_init : MethodName := ⟨RX9, "<init>", "()V"⟩
abbrev cX11_init : ByteArray := prog_1_method_1_code
def yX11_init : MethodName := ⟨RX11, "<init>", "()V"⟩
abbrev cJx4a65c_init_da8c8 : ByteArray := prog_26_method_2_code
def yJx4a65c_init_da8c8 : MethodName := ⟨RJx4a65c, "<init>", "()V"⟩
abbrev cJxc12de_init_da8c8 : ByteArray := prog_25_method_1_code
def yJxc12de_init_da8c8 : MethodName := ⟨RJxc12de, "<init>", "()V"⟩
abbrev cJxa1e45_init_da8c8 : ByteArray := prog_24_method_1_code
def yJxa1e45_init_da8c8 : MethodName := ⟨RJxa1e45, "<init>", "()V"⟩
abbrev cJ7_fill_53178 : ByteArray := prog_27_method_103_code
def yJ7_fill_53178 : MethodName := ⟨RJ7, "fill", "([II)V"⟩
abbrev cX6_add : ByteArray := prog_8_method_3_code
def yX6_add : MethodName := ⟨RX6, "add", "(I)V"⟩
abbrev cX6_addHighestFirst : ByteArray := prog_8_method_4_code
def yX6_addHighestFirst : MethodName := ⟨RX6, "addHighestFirst", "(I)V"⟩
abbrev cX11_feed : ByteArray := prog_1_method_2_code
def yX11_feed : MethodName := ⟨RX11, "feed", "(IIIII)I"⟩
abbrev cX11_cut : ByteArray := prog_1_method_3_code
def yX11_cut : MethodName := ⟨RX11, "cut", "(I)I"⟩
abbrev cX11_share : ByteArray := prog_1_method_4_code
def yX11_share : MethodName := ⟨RX11, "share", "(I)Z"⟩
abbrev cX11_tapeIsShareName : ByteArray := prog_1_method_16_code
def yX11_tapeIsShareName : MethodName := ⟨RX11, "tapeIsShareName", "()Z"⟩
abbrev cX11_connection : ByteArray := prog_1_method_15_code
def yX11_connection : MethodName := ⟨RX11, "connection", "(I)LShareHouse$Conn;"⟩
abbrev cX11_connect : ByteArray := prog_1_method_5_code
def yX11_connect : MethodName := ⟨RX11, "connect", "(I)Z"⟩
abbrev cX2_begin : ByteArray := prog_4_method_2_code
def yX2_begin : MethodName := ⟨RX2, "begin", "()V"⟩
abbrev cX11_hang : ByteArray := prog_1_method_6_code
def yX11_hang : MethodName := ⟨RX11, "hang", "(I)Z"⟩
abbrev cX11_come : ByteArray := prog_1_method_7_code
def yX11_come : MethodName := ⟨RX11, "come", "(I)I"⟩
abbrev cX11_isOpen : ByteArray := prog_1_method_8_code
def yX11_isOpen : MethodName := ⟨RX11, "isOpen", "(I)Z"⟩
abbrev cX11_tick : ByteArray := prog_1_method_9_code
def yX11_tick : MethodName := ⟨RX11, "tick", "(I)Z"⟩
abbrev cJx4a65c_size_8abf5 : ByteArray := prog_26_method_8_code
def yJx4a65c_size_8abf5 : MethodName := ⟨RJx4a65c, "size", "()I"⟩
abbrev cX11_crash : ByteArray := prog_1_method_10_code
def yX11_crash : MethodName := ⟨RX11, "crash", "(I)I"⟩
abbrev cX11_comeToDisk : ByteArray := prog_1_method_21_code
def yX11_comeToDisk : MethodName := ⟨RX11, "comeToDisk", "()V"⟩
abbrev cX9_copyFrom : ByteArray := prog_11_method_8_code
def yX9_copyFrom : MethodName := ⟨RX9, "copyFrom", "(LShareHouse$Volume;)V"⟩
abbrev cX4_copyFrom : ByteArray := prog_6_method_9_code
def yX4_copyFrom : MethodName := ⟨RX4, "copyFrom", "(LShareHouse$Node;)V"⟩
abbrev cX2_vanish : ByteArray := prog_4_method_3_code
def yX2_vanish : MethodName := ⟨RX2, "vanish", "()V"⟩
abbrev cJx4a65c_clear_da8c8 : ByteArray := prog_26_method_40_code
def yJx4a65c_clear_da8c8 : MethodName := ⟨RJx4a65c, "clear", "()V"⟩
abbrev cJ7_fill_d0a16 : ByteArray := prog_27_method_101_code
def yJ7_fill_d0a16 : MethodName := ⟨RJ7, "fill", "([JJ)V"⟩
abbrev cX11_outs : ByteArray := prog_1_method_11_code
def yX11_outs : MethodName := ⟨RX11, "outs", "(I)I"⟩
abbrev cX11_out : ByteArray := prog_1_method_12_code
def yX11_out : MethodName := ⟨RX11, "out", "(II)I"⟩
abbrev cX11_drop : ByteArray := prog_1_method_13_code
def yX11_drop : MethodName := ⟨RX11, "drop", "(I)I"⟩
abbrev cX11_told : ByteArray := prog_1_method_14_code
def yX11_told : MethodName := ⟨RX11, "told", "(I)I"⟩
abbrev cX12_init : ByteArray := prog_14_method_1_code
def yX12_init : MethodName := ⟨RX12, "<init>", "()V"⟩
abbrev cX12_begin : ByteArray := prog_14_method_17_code
def yX12_begin : MethodName := ⟨RX12, "begin", "()V"⟩
abbrev cX12_copyNode : ByteArray := prog_14_method_10_code
def yX12_copyNode : MethodName := ⟨RX12, "copyNode", "(II)V"⟩
abbrev cX12_feed : ByteArray := prog_14_method_3_code
def yX12_feed : MethodName := ⟨RX12, "feed", "(IIIII)I"⟩
abbrev cX12_lay : ByteArray := prog_14_method_4_code
def yX12_lay : MethodName := ⟨RX12, "lay", "(I)V"⟩
abbrev cX12_cut : ByteArray := prog_14_method_5_code
def yX12_cut : MethodName := ⟨RX12, "cut", "(I)I"⟩
abbrev cX12_share : ByteArray := prog_14_method_18_code
def yX12_share : MethodName := ⟨RX12, "share", "(I)Z"⟩
abbrev cX12_isLine : ByteArray := prog_14_method_19_code
def yX12_isLine : MethodName := ⟨RX12, "isLine", "(I)Z"⟩
abbrev cX12_connect : ByteArray := prog_14_method_20_code
def yX12_connect : MethodName := ⟨RX12, "connect", "(I)Z"⟩
abbrev cX12_hang : ByteArray := prog_14_method_21_code
def yX12_hang : MethodName := ⟨RX12, "hang", "(I)Z"⟩
abbrev cX12_come_ : ByteArray := prog_14_method_33_code
def yX12_come_ : MethodName := ⟨RX12, "come", "(I)I"⟩
abbrev cX12_isOpen : ByteArray := prog_14_method_22_code
def yX12_isOpen : MethodName := ⟨RX12, "isOpen", "(I)Z"⟩
abbrev cX12_tick : ByteArray := prog_14_method_116_code
def yX12_tick : MethodName := ⟨RX12, "tick", "(I)Z"⟩
abbrev cX12_crash : ByteArray := prog_14_method_117_code
def yX12_crash : MethodName := ⟨RX12, "crash", "(I)I"⟩
abbrev cX12_come : ByteArray := prog_14_method_14_code
def yX12_come : MethodName := ⟨RX12, "come", "(IZ)V"⟩
abbrev cX12_outs : ByteArray := prog_14_method_118_code
def yX12_outs : MethodName := ⟨RX12, "outs", "(I)I"⟩
abbrev cX12_out : ByteArray := prog_14_method_119_code
def yX12_out : MethodName := ⟨RX12, "out", "(II)I"⟩
abbrev cX12_drop : ByteArray := prog_14_method_120_code
def yX12_drop : MethodName := ⟨RX12, "drop", "(I)I"⟩
abbrev cX12_told : ByteArray := prog_14_method_121_code
def yX12_told : MethodName := ⟨RX12, "told", "(I)I"⟩
abbrev cX12_nodes : ByteArray := prog_14_method_8_code
def yX12_nodes : MethodName := ⟨RX12, "nodes", "(I)I"⟩
abbrev cX12_count : ByteArray := prog_14_method_31_code
def yX12_count : MethodName := ⟨RX12, "count", "([J)I"⟩
abbrev cL_law : ByteArray := code
theorem in_r {bg ws : List Cond} (ps : List Nat) (hp : ws = ps.filterMap (fun i => bg[i]?)) : ∀ w ∈ ws, w ∈ bg := by
  intro w hw
  rw [hp] at hw
  obtain ⟨i, -, hi⟩ := List.mem_filterMap.mp hw
  exact List.mem_of_getElem? hi
theorem tb_0 {w : Cond} (h : w ∈ k2_sels lw_privs) : w ∈ lw_tbl := List.mem_append_left _ h
theorem tb_1 {w : Cond} (h : w ∈ tables_1_1) : w ∈ lw_tbl := List.mem_append_right _ (List.mem_append_left _ h)
theorem tb_2 {w : Cond} (h : w ∈ tables_1_2) : w ∈ lw_tbl := List.mem_append_right _ (List.mem_append_right _ (List.mem_append_left _ h))
theorem tb_3 {w : Cond} (h : w ∈ tables_1_3) : w ∈ lw_tbl := List.mem_append_right _ (List.mem_append_right _ (List.mem_append_right _ (List.mem_append_left _ h)))
theorem tb_4 {w : Cond} (h : w ∈ tables_1_4) : w ∈ lw_tbl := List.mem_append_right _ (List.mem_append_right _ (List.mem_append_right _ (List.mem_append_right _ (List.mem_append_left _ h))))
theorem tb_5 {w : Cond} (h : w ∈ tables_1_5) : w ∈ lw_tbl := List.mem_append_right _ (List.mem_append_right _ (List.mem_append_right _ (List.mem_append_right _ (List.mem_append_right _ (List.mem_append_left _ h)))))
theorem tb_6 {w : Cond} (h : w ∈ tables_1_6) : w ∈ lw_tbl := List.mem_append_right _ (List.mem_append_right _ (List.mem_append_right _ (List.mem_append_right _ (List.mem_append_right _ (List.mem_append_right _ (List.mem_append_left _ h))))))
theorem tb_7 {w : Cond} (h : w ∈ tables_1_7) : w ∈ lw_tbl := List.mem_append_right _ (List.mem_append_right _ (List.mem_append_right _ (List.mem_append_right _ (List.mem_append_right _ (List.mem_append_right _ (List.mem_append_right _ (List.mem_append_left _ h)))))))
theorem tb_8 {w : Cond} (h : w ∈ tables_1_8) : w ∈ lw_tbl := List.mem_append_right _ (List.mem_append_right _ (List.mem_append_right _ (List.mem_append_right _ (List.mem_append_right _ (List.mem_append_right _ (List.mem_append_right _ (List.mem_append_right _ (List.mem_append_left _ h))))))))
theorem tb_9 {w : Cond} (h : w ∈ tables_1_9) : w ∈ lw_tbl := List.mem_append_right _ (List.mem_append_right _ (List.mem_append_right _ (List.mem_append_right _ (List.mem_append_right _ (List.mem_append_right _ (List.mem_append_right _ (List.mem_append_right _ (List.mem_append_right _ (List.mem_append_left _ h)))))))))
theorem tb_10 {w : Cond} (h : w ∈ tables_1_10) : w ∈ lw_tbl := List.mem_append_right _ (List.mem_append_right _ (List.mem_append_right _ (List.mem_append_right _ (List.mem_append_right _ (List.mem_append_right _ (List.mem_append_right _ (List.mem_append_right _ (List.mem_append_right _ (List.mem_append_right _ (List.mem_append_left _ h))))))))))
theorem tb_11 {w : Cond} (h : w ∈ tables_1_11) : w ∈ lw_tbl := List.mem_append_right _ (List.mem_append_right _ (List.mem_append_right _ (List.mem_append_right _ (List.mem_append_right _ (List.mem_append_right _ (List.mem_append_right _ (List.mem_append_right _ (List.mem_append_right _ (List.mem_append_right _ (List.mem_append_right _ (h)))))))))))
def big_0_0 : List Cond := [Cond.selects "ShareHouse" ⟨"ShareHouse", "tapeIsShareName", "()Z"⟩ ⟨"ShareHouse", "tapeIsShareName", "()Z"⟩, Cond.selects "ShareHouse" ⟨"ShareHouse", "connection", "(I)LShareHouse$Conn;"⟩ ⟨"ShareHouse", "connection", "(I)LShareHouse$Conn;"⟩, Cond.selects "ShareHouse" ⟨"ShareHouse", "comeToDisk", "()V"⟩ ⟨"ShareHouse", "comeToDisk", "()V"⟩, Cond.selects "ShareHouseModel" ⟨"ShareHouseModel", "begin", "()V"⟩ ⟨"ShareHouseModel", "begin", "()V"⟩, Cond.selects "ShareHouseModel" ⟨"ShareHouseModel", "copyNode", "(II)V"⟩ ⟨"ShareHouseModel", "copyNode", "(II)V"⟩, Cond.selects "ShareHouseModel" ⟨"ShareHouseModel", "lay", "(I)V"⟩ ⟨"ShareHouseModel", "lay", "(I)V"⟩, Cond.selects "ShareHouseModel" ⟨"ShareHouseModel", "come", "(IZ)V"⟩ ⟨"ShareHouseModel", "come", "(IZ)V"⟩, Cond.selects "ShareHouseModel" ⟨"ShareHouseModel", "nodes", "(I)I"⟩ ⟨"ShareHouseModel", "nodes", "(I)I"⟩, Cond.selects "ShareHouseModel" ⟨"ShareHouseModel", "count", "([J)I"⟩ ⟨"ShareHouseModel", "count", "([J)I"⟩]
theorem big_0_0_in : big_0_0 = [0, 1, 2, 3, 4, 5, 6, 7, 8].filterMap (fun i => (k2_sels lw_privs)[i]?) := rfl
theorem big_0_0_tbl : ∀ w ∈ big_0_0, w ∈ lw_tbl := fun w h => tb_0 (in_r _ big_0_0_in w h)
theorem big_0_0_good : big_0_0.all goodWord = true := by decide +kernel
def big_1_9 : List Cond := [Cond.methodLink "ShareHouse$Row" 1 ⟨"java/lang/Object", "<init>", "()V"⟩, Cond.instanceMethod ⟨"java/lang/Object", "<init>", "()V"⟩, Cond.code ⟨"java/lang/Object", "<init>", "()V"⟩ object_method_1_code 1 none, Cond.arrayClass .byte, Cond.fieldLink "ShareHouse$Row" 7 "ShareHouse$Row" "bytes" "[B", Cond.methodLink "ShareHouse$Conn" 3 ⟨"java/lang/Object", "<init>", "()V"⟩, Cond.classLink "ShareHouse$Conn" 9 "ShareHouse$Row", Cond.initialized "ShareHouse$Row", Cond.instantiable "ShareHouse$Row" 2, Cond.code ⟨"ShareHouse$Row", "<init>", "()V"⟩ prog_8_method_1_code 1 none, Cond.instanceMethod ⟨"ShareHouse$Row", "<init>", "()V"⟩, Cond.fieldLink "ShareHouse$Conn" 12 "ShareHouse$Conn" "came" "LShareHouse$Row;", Cond.fieldLink "ShareHouse$Conn" 18 "ShareHouse$Conn" "sent" "LShareHouse$Row;", Cond.fieldLink "ShareHouse$Conn" 21 "ShareHouse$Conn" "free" "[J", Cond.methodLink "ShareHouse$Node" 3 ⟨"java/lang/Object", "<init>", "()V"⟩, Cond.fieldLink "ShareHouse$Node" 9 "ShareHouse$Node" "parent" "I", Cond.fieldLink "ShareHouse$Node" 15 "ShareHouse$Node" "name" "[B", Cond.fieldLink "ShareHouse$Node" 19 "ShareHouse$Node" "data" "[B", Cond.fieldLink "ShareHouse$Node" 22 "ShareHouse$Node" "number" "I", Cond.methodLink "ShareHouse$Volume" 3 ⟨"java/lang/Object", "<init>", "()V"⟩, Cond.classLink "ShareHouse$Volume" 9 "ShareHouse$Node", Cond.fieldLink "ShareHouse$Volume" 11 "ShareHouse$Volume" "nodes" "[LShareHouse$Node;", Cond.initialized "ShareHouse$Node", Cond.instantiable "ShareHouse$Node" 14, Cond.methodLink "ShareHouse$Volume" 17 ⟨"ShareHouse$Node", "<init>", "(I)V"⟩, Cond.code ⟨"ShareHouse$Node", "<init>", "(I)V"⟩ prog_6_method_1_code 2 none, Cond.instanceMethod ⟨"ShareHouse$Node", "<init>", "(I)V"⟩, Cond.methodLink "ShareHouse" 1 ⟨"java/lang/Object", "<init>", "()V"⟩, Cond.classLink "ShareHouse" 7 "ShareHouse$Row", Cond.classLink "ShareHouse" 16 "ShareHouse$Conn"]
theorem big_1_9_in : big_1_9 = [40, 33, 34, 53, 41, 187, 188, 2, 36, 39, 38, 194, 198, 200, 68, 81, 85, 115, 69, 61, 62, 147, 4, 64, 65, 67, 66, 32, 35, 54].filterMap (fun i => (tables_1_1)[i]?) := rfl
theorem big_1_9_tbl : ∀ w ∈ big_1_9, w ∈ lw_tbl := fun w h => tb_1 (in_r _ big_1_9_in w h)
theorem big_1_9_good : big_1_9.all goodWord = true := by decide +kernel
def big_1_39 : List Cond := [Cond.arrayClass .int, Cond.classLink "ShareHouse" 26 "ShareHouse$Volume", Cond.initialized "ShareHouse$Volume", Cond.instantiable "ShareHouse$Volume" 2, Cond.methodLink "ShareHouse" 28 ⟨"ShareHouse$Volume", "<init>", "()V"⟩, Cond.code ⟨"ShareHouse$Volume", "<init>", "()V"⟩ prog_11_method_1_code 2 none, Cond.instanceMethod ⟨"ShareHouse$Volume", "<init>", "()V"⟩, Cond.classLink "ShareHouse" 36 "ShareHouse$Change", Cond.classLink "ShareHouse" 42 "java/util/ArrayList", Cond.initialized "java/util/ArrayList", Cond.instantiable "java/util/ArrayList" 3, Cond.methodLink "ShareHouse" 44 ⟨"java/util/ArrayList", "<init>", "()V"⟩, Cond.code ⟨"java/util/ArrayList", "<init>", "()V"⟩ prog_26_method_2_code 1 none, Cond.instanceMethod ⟨"java/util/ArrayList", "<init>", "()V"⟩, Cond.initialized "ShareHouse$Conn", Cond.instantiable "ShareHouse$Conn" 15, Cond.code ⟨"ShareHouse$Conn", "<init>", "()V"⟩ prog_4_method_1_code 1 none, Cond.instanceMethod ⟨"ShareHouse$Conn", "<init>", "()V"⟩, Cond.initialized "ShareHouse$Change", Cond.initialized "java/util/Arrays", Cond.methodLink "java/util/ArrayList" 1 ⟨"java/util/AbstractList", "<init>", "()V"⟩, Cond.initialized "java/util/AbstractList", Cond.code ⟨"java/util/AbstractList", "<init>", "()V"⟩ prog_25_method_1_code 1 none, Cond.instanceMethod ⟨"java/util/AbstractList", "<init>", "()V"⟩, Cond.fieldLink "java/util/ArrayList" 39 "java/util/ArrayList" "DEFAULTCAPACITY_EMPTY_ELEMENTDATA" "[Ljava/lang/Object;", Cond.fieldLink "java/util/ArrayList" 9 "java/util/ArrayList" "elementData" "[Ljava/lang/Object;", Cond.methodLink "java/util/AbstractList" 1 ⟨"java/util/AbstractCollection", "<init>", "()V"⟩, Cond.initialized "java/util/AbstractCollection", Cond.code ⟨"java/util/AbstractCollection", "<init>", "()V"⟩ prog_24_method_1_code 1 none, Cond.instanceMethod ⟨"java/util/AbstractCollection", "<init>", "()V"⟩]
theorem big_1_39_in : big_1_39 = [146, 56, 3, 57, 58, 60, 59, 155, 157, 7, 158, 159, 161, 160, 8, 183, 186, 185, 9, 10, 162, 6, 164, 163, 169, 171, 165, 5, 167, 166].filterMap (fun i => (tables_1_1)[i]?) := rfl
theorem big_1_39_tbl : ∀ w ∈ big_1_39, w ∈ lw_tbl := fun w h => tb_1 (in_r _ big_1_39_in w h)
theorem big_1_39_good : big_1_39.all goodWord = true := by decide +kernel
def big_1_69 : List Cond := [Cond.fieldLink "java/util/AbstractList" 7 "java/util/AbstractList" "modCount" "I", Cond.methodLink "java/util/AbstractCollection" 1 ⟨"java/lang/Object", "<init>", "()V"⟩, Cond.fieldLink "ShareHouse$Row" 25 "ShareHouse$Row" "length" "I", Cond.fieldLink "ShareHouse" 85 "ShareHouse$Row" "length" "I", Cond.initialized "ShareHouse", Cond.fieldLink "ShareHouse" 112 "ShareHouse$Conn" "there" "Z", Cond.fieldLink "ShareHouse$Conn" 25 "ShareHouse$Conn" "there" "Z", Cond.fieldLink "ShareHouse$Conn" 29 "ShareHouse$Conn" "negotiated" "Z", Cond.fieldLink "ShareHouse$Conn" 32 "ShareHouse$Row" "length" "I", Cond.fieldLink "ShareHouse$Conn" 36 "ShareHouse$Conn" "freeCount" "I", Cond.fieldLink "ShareHouse$Conn" 39 "ShareHouse$Conn" "highest" "J", Cond.fieldLink "ShareHouse" 126 "ShareHouse$Row" "bytes" "[B", Cond.initialized "java/lang/Math", Cond.fieldLink "java/util/ArrayList" 48 "java/util/ArrayList" "size" "I", Cond.fieldLink "ShareHouse$Volume" 52 "ShareHouse$Volume" "count" "I", Cond.fieldLink "ShareHouse$Node" 77 "ShareHouse$Node" "used" "Z", Cond.fieldLink "ShareHouse$Node" 28 "ShareHouse$Node" "directory" "Z", Cond.fieldLink "ShareHouse$Node" 61 "ShareHouse$Node" "toGo" "Z", Cond.fieldLink "ShareHouse$Node" 64 "ShareHouse$Node" "nameLength" "I", Cond.initialized "java/lang/System", Cond.fieldLink "ShareHouse$Node" 25 "ShareHouse$Node" "attributes" "I", Cond.fieldLink "ShareHouse$Node" 35 "ShareHouse$Node" "made" "J", Cond.fieldLink "ShareHouse$Node" 45 "ShareHouse$Node" "looked" "J", Cond.fieldLink "ShareHouse$Node" 48 "ShareHouse$Node" "written" "J", Cond.fieldLink "ShareHouse$Node" 51 "ShareHouse$Node" "changed" "J", Cond.fieldLink "ShareHouse$Node" 32 "ShareHouse$Node" "size" "I", Cond.fieldLink "java/util/ArrayList" 63 "java/util/ArrayList" "modCount" "I", Cond.fieldLink "ShareHouse" 201 "ShareHouse$Conn" "sent" "LShareHouse$Row;", Cond.fieldLink "ShareHouse" 101 "ShareHouse$Volume" "count" "I", Cond.initialized "ShareHouseModel"]
theorem big_1_69_in : big_1_69 = [173, 168, 47, 45, 1, 191, 190, 192, 46, 201, 202, 42, 12, 172, 149, 73, 74, 78, 93, 13, 95, 100, 103, 106, 109, 112, 174, 199, 148, 11].filterMap (fun i => (tables_1_1)[i]?) := rfl
theorem big_1_69_tbl : ∀ w ∈ big_1_69, w ∈ lw_tbl := fun w h => tb_1 (in_r _ big_1_69_in w h)
theorem big_1_69_good : big_1_69.all goodWord = true := by decide +kernel
def big_1_99 : List Cond := [Cond.classLink "ShareHouseLaw" 7 "ShareHouse", Cond.instantiable "ShareHouse" 18, Cond.methodLink "ShareHouseLaw" 9 ⟨"ShareHouse", "<init>", "()V"⟩, Cond.code ⟨"ShareHouse", "<init>", "()V"⟩ prog_1_method_1_code 2 none, Cond.instanceMethod ⟨"ShareHouse", "<init>", "()V"⟩, Cond.sameField "java/util/ArrayList" "java/util/AbstractList" "modCount" "I", Cond.lays "ShareHouse$Row" "ShareHouse$Row" "bytes" "[B", Cond.lays "ShareHouse$Row" "ShareHouse$Row" "length" "I", Cond.lays "ShareHouse$Conn" "ShareHouse$Conn" "there" "Z", Cond.lays "ShareHouse$Conn" "ShareHouse$Conn" "negotiated" "Z", Cond.laysFinal "ShareHouse$Conn" "ShareHouse$Conn" "came" "LShareHouse$Row;", Cond.lays "ShareHouse$Conn" "ShareHouse$Conn" "size" "J", Cond.laysFinal "ShareHouse$Conn" "ShareHouse$Conn" "sent" "LShareHouse$Row;", Cond.laysFinal "ShareHouse$Conn" "ShareHouse$Conn" "free" "[J", Cond.lays "ShareHouse$Conn" "ShareHouse$Conn" "freeCount" "I", Cond.lays "ShareHouse$Conn" "ShareHouse$Conn" "highest" "J", Cond.lays "ShareHouse$Conn" "ShareHouse$Conn" "at" "I", Cond.lays "ShareHouse$Conn" "ShareHouse$Conn" "answerAt" "I", Cond.lays "ShareHouse$Conn" "ShareHouse$Conn" "beforeSession" "J", Cond.lays "ShareHouse$Conn" "ShareHouse$Conn" "beforeTree" "J", Cond.laysFinal "ShareHouse$Node" "ShareHouse$Node" "number" "I", Cond.lays "ShareHouse$Node" "ShareHouse$Node" "used" "Z", Cond.lays "ShareHouse$Node" "ShareHouse$Node" "directory" "Z", Cond.lays "ShareHouse$Node" "ShareHouse$Node" "toGo" "Z", Cond.lays "ShareHouse$Node" "ShareHouse$Node" "parent" "I", Cond.laysFinal "ShareHouse$Node" "ShareHouse$Node" "name" "[B", Cond.lays "ShareHouse$Node" "ShareHouse$Node" "nameLength" "I", Cond.lays "ShareHouse$Node" "ShareHouse$Node" "attributes" "I", Cond.lays "ShareHouse$Node" "ShareHouse$Node" "made" "J", Cond.lays "ShareHouse$Node" "ShareHouse$Node" "looked" "J"]
theorem big_1_99_in : big_1_99 = [27, 28, 29, 31, 30, 175, 48, 50, 217, 219, 221, 223, 225, 227, 229, 231, 233, 235, 237, 239, 117, 119, 121, 123, 125, 127, 129, 131, 133, 135].filterMap (fun i => (tables_1_1)[i]?) := rfl
theorem big_1_99_tbl : ∀ w ∈ big_1_99, w ∈ lw_tbl := fun w h => tb_1 (in_r _ big_1_99_in w h)
theorem big_1_99_good : big_1_99.all goodWord = true := by decide +kernel
def big_1_129 : List Cond := [Cond.lays "ShareHouse$Node" "ShareHouse$Node" "written" "J", Cond.lays "ShareHouse$Node" "ShareHouse$Node" "changed" "J", Cond.lays "ShareHouse$Node" "ShareHouse$Node" "size" "I", Cond.lays "ShareHouse$Node" "ShareHouse$Node" "data" "[B", Cond.laysFinal "ShareHouse$Volume" "ShareHouse$Volume" "nodes" "[LShareHouse$Node;", Cond.lays "ShareHouse$Volume" "ShareHouse$Volume" "count" "I", Cond.lays "java/util/ArrayList" "java/util/AbstractList" "modCount" "I", Cond.lays "java/util/ArrayList" "java/util/ArrayList" "elementData" "[Ljava/lang/Object;", Cond.lays "java/util/ArrayList" "java/util/ArrayList" "size" "I"]
theorem big_1_129_in : big_1_129 = [137, 139, 141, 143, 150, 152, 180, 176, 178].filterMap (fun i => (tables_1_1)[i]?) := rfl
theorem big_1_129_tbl : ∀ w ∈ big_1_129, w ∈ lw_tbl := fun w h => tb_1 (in_r _ big_1_129_in w h)
theorem big_1_129_good : big_1_129.all goodWord = true := by decide +kernel
def big_2_138 : List Cond := [Cond.arrayClass .long, Cond.methodLink "ShareHouse$Change" 3 ⟨"java/lang/Object", "<init>", "()V"⟩, Cond.fieldLink "ShareHouse$Change" 9 "ShareHouse$Change" "name" "[B", Cond.fieldLink "ShareHouse$Change" 15 "ShareHouse$Change" "bytes" "[B", Cond.fieldLink "ShareHouse" 10 "ShareHouse" "tape" "LShareHouse$Row;", Cond.fieldLink "ShareHouse" 18 "ShareHouse" "conns" "[LShareHouse$Conn;", Cond.fieldLink "ShareHouse" 22 "ShareHouse" "roots" "[I", Cond.fieldLink "ShareHouse" 29 "ShareHouse" "live" "LShareHouse$Volume;", Cond.fieldLink "ShareHouse" 33 "ShareHouse" "disk" "LShareHouse$Volume;", Cond.fieldLink "ShareHouse" 38 "ShareHouse" "waiting" "[LShareHouse$Change;", Cond.fieldLink "ShareHouse" 45 "ShareHouse" "sessions" "Ljava/util/ArrayList;", Cond.fieldLink "ShareHouse" 49 "ShareHouse" "trees" "Ljava/util/ArrayList;", Cond.fieldLink "ShareHouse" 52 "ShareHouse" "opens" "Ljava/util/ArrayList;", Cond.fieldLink "ShareHouse" 55 "ShareHouse" "locks" "Ljava/util/ArrayList;", Cond.fieldLink "ShareHouse" 58 "ShareHouse" "waits" "Ljava/util/ArrayList;", Cond.fieldLink "ShareHouse" 61 "ShareHouse" "serials" "[J", Cond.fieldLink "ShareHouse" 65 "ShareHouse" "reply" "LShareHouse$Row;", Cond.fieldLink "ShareHouse" 68 "ShareHouse" "answer" "LShareHouse$Row;", Cond.fieldLink "ShareHouse" 71 "ShareHouse" "later" "LShareHouse$Row;", Cond.fieldLink "ShareHouse" 74 "ShareHouse" "breaking" "LShareHouse$Row;", Cond.instantiable "ShareHouse$Change" 15, Cond.code ⟨"ShareHouse$Change", "<init>", "()V"⟩ prog_3_method_1_code 1 none, Cond.instanceMethod ⟨"ShareHouse$Change", "<init>", "()V"⟩, Cond.methodLink "ShareHouse" 79 ⟨"java/util/Arrays", "fill", "([II)V"⟩, Cond.code ⟨"java/util/Arrays", "fill", "([II)V"⟩ prog_27_method_103_code 4 none, Cond.static ⟨"java/util/Arrays", "fill", "([II)V"⟩, Cond.methodLink "ShareHouse$Row" 33 ⟨"ShareHouse$Row", "add", "(I)V"⟩, Cond.code ⟨"ShareHouse$Row", "add", "(I)V"⟩ prog_8_method_3_code 2 none, Cond.instanceMethod ⟨"ShareHouse$Row", "add", "(I)V"⟩, Cond.selects "ShareHouse$Row" ⟨"ShareHouse$Row", "add", "(I)V"⟩ ⟨"ShareHouse$Row", "add", "(I)V"⟩]
theorem big_2_138_in : big_2_138 = [8, 13, 23, 53, 89, 90, 91, 92, 93, 94, 97, 98, 99, 100, 101, 102, 103, 104, 105, 106, 9, 12, 11, 86, 88, 87, 152, 155, 153, 154].filterMap (fun i => (tables_1_2)[i]?) := rfl
theorem big_2_138_tbl : ∀ w ∈ big_2_138, w ∈ lw_tbl := fun w h => tb_2 (in_r _ big_2_138_in w h)
theorem big_2_138_good : big_2_138.all goodWord = true := by decide +kernel
def big_2_168 : List Cond := [Cond.methodLink "ShareHouse" 89 ⟨"ShareHouse$Row", "addHighestFirst", "(I)V"⟩, Cond.code ⟨"ShareHouse$Row", "addHighestFirst", "(I)V"⟩ prog_8_method_4_code 2 none, Cond.instanceMethod ⟨"ShareHouse$Row", "addHighestFirst", "(I)V"⟩, Cond.selects "ShareHouse$Row" ⟨"ShareHouse$Row", "addHighestFirst", "(I)V"⟩ ⟨"ShareHouse$Row", "addHighestFirst", "(I)V"⟩, Cond.methodLink "ShareHouse" 93 ⟨"ShareHouse", "tapeIsShareName", "()Z"⟩, Cond.code ⟨"ShareHouse", "tapeIsShareName", "()Z"⟩ prog_1_method_16_code 4 (some .boolean), Cond.instanceMethod ⟨"ShareHouse", "tapeIsShareName", "()Z"⟩, Cond.code ⟨"java/lang/Math", "min", "(II)I"⟩ prog_19_method_69_code 2 (some .int), Cond.static ⟨"java/lang/Math", "min", "(II)I"⟩, Cond.fieldLink "ShareHouse" 157 "ShareHouse" "now" "J", Cond.fieldLink "ShareHouse" 182 "ShareHouse" "recordsWaiting" "I", Cond.methodLink "ShareHouse" 185 ⟨"ShareHouse", "comeToDisk", "()V"⟩, Cond.code ⟨"ShareHouse", "comeToDisk", "()V"⟩ prog_1_method_21_code 2 none, Cond.instanceMethod ⟨"ShareHouse", "comeToDisk", "()V"⟩, Cond.native ⟨"java/lang/System", "arraycopy", "(Ljava/lang/Object;ILjava/lang/Object;II)V"⟩, Cond.static ⟨"java/lang/System", "arraycopy", "(Ljava/lang/Object;ILjava/lang/Object;II)V"⟩, Cond.methodLink "ShareHouseLaw" 13 ⟨"ShareHouse", "feed", "(IIIII)I"⟩, Cond.code ⟨"ShareHouse", "feed", "(IIIII)I"⟩ prog_1_method_2_code 6 (some .int), Cond.instanceMethod ⟨"ShareHouse", "feed", "(IIIII)I"⟩, Cond.selects "ShareHouse" ⟨"ShareHouse", "feed", "(IIIII)I"⟩ ⟨"ShareHouse", "feed", "(IIIII)I"⟩, Cond.methodLink "ShareHouseLaw" 18 ⟨"ShareHouse", "cut", "(I)I"⟩, Cond.code ⟨"ShareHouse", "cut", "(I)I"⟩ prog_1_method_3_code 3 (some .int), Cond.instanceMethod ⟨"ShareHouse", "cut", "(I)I"⟩, Cond.selects "ShareHouse" ⟨"ShareHouse", "cut", "(I)I"⟩ ⟨"ShareHouse", "cut", "(I)I"⟩, Cond.methodLink "ShareHouseLaw" 23 ⟨"ShareHouse", "share", "(I)Z"⟩, Cond.code ⟨"ShareHouse", "share", "(I)Z"⟩ prog_1_method_4_code 3 (some .boolean), Cond.instanceMethod ⟨"ShareHouse", "share", "(I)Z"⟩, Cond.selects "ShareHouse" ⟨"ShareHouse", "share", "(I)Z"⟩ ⟨"ShareHouse", "share", "(I)Z"⟩, Cond.laysFinal "ShareHouse" "ShareHouse" "tape" "LShareHouse$Row;", Cond.laysFinal "ShareHouse" "ShareHouse" "conns" "[LShareHouse$Conn;"]
theorem big_2_168_in : big_2_168 = [148, 151, 149, 150, 180, 183, 182, 168, 167, 96, 95, 206, 209, 208, 171, 170, 144, 147, 145, 146, 172, 175, 173, 174, 176, 179, 177, 178, 107, 109].filterMap (fun i => (tables_1_2)[i]?) := rfl
theorem big_2_168_tbl : ∀ w ∈ big_2_168, w ∈ lw_tbl := fun w h => tb_2 (in_r _ big_2_168_in w h)
theorem big_2_168_good : big_2_168.all goodWord = true := by decide +kernel
def big_2_198 : List Cond := [Cond.laysFinal "ShareHouse" "ShareHouse" "roots" "[I", Cond.laysFinal "ShareHouse" "ShareHouse" "live" "LShareHouse$Volume;", Cond.laysFinal "ShareHouse" "ShareHouse" "disk" "LShareHouse$Volume;", Cond.laysFinal "ShareHouse" "ShareHouse" "waiting" "[LShareHouse$Change;", Cond.lays "ShareHouse" "ShareHouse" "recordsWaiting" "I", Cond.lays "ShareHouse" "ShareHouse" "now" "J", Cond.laysFinal "ShareHouse" "ShareHouse" "sessions" "Ljava/util/ArrayList;", Cond.laysFinal "ShareHouse" "ShareHouse" "trees" "Ljava/util/ArrayList;", Cond.laysFinal "ShareHouse" "ShareHouse" "opens" "Ljava/util/ArrayList;", Cond.laysFinal "ShareHouse" "ShareHouse" "locks" "Ljava/util/ArrayList;", Cond.laysFinal "ShareHouse" "ShareHouse" "waits" "Ljava/util/ArrayList;", Cond.laysFinal "ShareHouse" "ShareHouse" "serials" "[J", Cond.laysFinal "ShareHouse" "ShareHouse" "reply" "LShareHouse$Row;", Cond.laysFinal "ShareHouse" "ShareHouse" "answer" "LShareHouse$Row;", Cond.laysFinal "ShareHouse" "ShareHouse" "later" "LShareHouse$Row;", Cond.laysFinal "ShareHouse" "ShareHouse" "breaking" "LShareHouse$Row;", Cond.lays "ShareHouse$Conn" "ShareHouse$Conn" "beforeFile" "Z", Cond.lays "ShareHouse$Conn" "ShareHouse$Conn" "beforeLow" "J", Cond.lays "ShareHouse$Conn" "ShareHouse$Conn" "beforeHigh" "J", Cond.lays "ShareHouse$Change" "ShareHouse$Change" "kind" "I", Cond.lays "ShareHouse$Change" "ShareHouse$Change" "node" "I", Cond.lays "ShareHouse$Change" "ShareHouse$Change" "parent" "I", Cond.lays "ShareHouse$Change" "ShareHouse$Change" "directory" "Z", Cond.laysFinal "ShareHouse$Change" "ShareHouse$Change" "name" "[B", Cond.lays "ShareHouse$Change" "ShareHouse$Change" "nameLength" "I", Cond.lays "ShareHouse$Change" "ShareHouse$Change" "attributes" "I", Cond.lays "ShareHouse$Change" "ShareHouse$Change" "made" "J", Cond.lays "ShareHouse$Change" "ShareHouse$Change" "looked" "J", Cond.lays "ShareHouse$Change" "ShareHouse$Change" "written" "J", Cond.lays "ShareHouse$Change" "ShareHouse$Change" "changed" "J"]
theorem big_2_198_in : big_2_198 = [111, 113, 115, 117, 119, 121, 123, 125, 127, 129, 131, 133, 135, 137, 139, 141, 1, 3, 5, 55, 57, 59, 61, 63, 65, 67, 69, 71, 73, 75].filterMap (fun i => (tables_1_2)[i]?) := rfl
theorem big_2_198_tbl : ∀ w ∈ big_2_198, w ∈ lw_tbl := fun w h => tb_2 (in_r _ big_2_198_in w h)
theorem big_2_198_good : big_2_198.all goodWord = true := by decide +kernel
def big_2_228 : List Cond := [Cond.lays "ShareHouse$Change" "ShareHouse$Change" "size" "I", Cond.lays "ShareHouse$Change" "ShareHouse$Change" "from" "I", Cond.lays "ShareHouse$Change" "ShareHouse$Change" "many" "I", Cond.lays "ShareHouse$Change" "ShareHouse$Change" "bytes" "[B"]
theorem big_2_228_in : big_2_228 = [77, 79, 81, 83].filterMap (fun i => (tables_1_2)[i]?) := rfl
theorem big_2_228_tbl : ∀ w ∈ big_2_228, w ∈ lw_tbl := fun w h => tb_2 (in_r _ big_2_228_in w h)
theorem big_2_228_good : big_2_228.all goodWord = true := by decide +kernel
def big_3_232 : List Cond := [Cond.methodLink "ShareHouse" 108 ⟨"ShareHouse", "connection", "(I)LShareHouse$Conn;"⟩, Cond.code ⟨"ShareHouse", "connection", "(I)LShareHouse$Conn;"⟩ prog_1_method_15_code 2 (some (.object "ShareHouse$Conn")), Cond.instanceMethod ⟨"ShareHouse", "connection", "(I)LShareHouse$Conn;"⟩, Cond.methodLink "ShareHouse" 116 ⟨"ShareHouse$Conn", "begin", "()V"⟩, Cond.code ⟨"ShareHouse$Conn", "begin", "()V"⟩ prog_4_method_2_code 1 none, Cond.instanceMethod ⟨"ShareHouse$Conn", "begin", "()V"⟩, Cond.selects "ShareHouse$Conn" ⟨"ShareHouse$Conn", "begin", "()V"⟩ ⟨"ShareHouse$Conn", "begin", "()V"⟩, Cond.methodLink "ShareHouse" 130 ⟨"java/lang/Math", "min", "(II)I"⟩, Cond.constant "ShareHouse" 156 1000000, Cond.methodLink "ShareHouse" 161 ⟨"java/util/ArrayList", "size", "()I"⟩, Cond.code ⟨"java/util/ArrayList", "size", "()I"⟩ prog_26_method_8_code 1 (some .int), Cond.instanceMethod ⟨"java/util/ArrayList", "size", "()I"⟩, Cond.selects "java/util/ArrayList" ⟨"java/util/ArrayList", "size", "()I"⟩ ⟨"java/util/ArrayList", "size", "()I"⟩, Cond.methodLink "ShareHouseLaw" 28 ⟨"ShareHouse", "connect", "(I)Z"⟩, Cond.code ⟨"ShareHouse", "connect", "(I)Z"⟩ prog_1_method_5_code 3 (some .boolean), Cond.instanceMethod ⟨"ShareHouse", "connect", "(I)Z"⟩, Cond.selects "ShareHouse" ⟨"ShareHouse", "connect", "(I)Z"⟩ ⟨"ShareHouse", "connect", "(I)Z"⟩, Cond.methodLink "ShareHouseLaw" 32 ⟨"ShareHouse", "hang", "(I)Z"⟩, Cond.code ⟨"ShareHouse", "hang", "(I)Z"⟩ prog_1_method_6_code 3 (some .boolean), Cond.instanceMethod ⟨"ShareHouse", "hang", "(I)Z"⟩, Cond.selects "ShareHouse" ⟨"ShareHouse", "hang", "(I)Z"⟩ ⟨"ShareHouse", "hang", "(I)Z"⟩]
theorem big_3_232_in : big_3_232 = [8, 11, 10, 12, 15, 13, 14, 3, 61, 28, 31, 29, 30, 4, 7, 5, 6, 16, 19, 17, 18].filterMap (fun i => (tables_1_3)[i]?) := rfl
theorem big_3_232_tbl : ∀ w ∈ big_3_232, w ∈ lw_tbl := fun w h => tb_3 (in_r _ big_3_232_in w h)
theorem big_3_232_good : big_3_232.all goodWord = true := by decide +kernel
def big_4_253 : List Cond := [Cond.methodLink "ShareHouseLaw" 36 ⟨"ShareHouse", "come", "(I)I"⟩, Cond.code ⟨"ShareHouse", "come", "(I)I"⟩ prog_1_method_7_code 9 (some .int), Cond.instanceMethod ⟨"ShareHouse", "come", "(I)I"⟩, Cond.selects "ShareHouse" ⟨"ShareHouse", "come", "(I)I"⟩ ⟨"ShareHouse", "come", "(I)I"⟩]
theorem big_4_253_in : big_4_253 = [148, 151, 149, 150].filterMap (fun i => (tables_1_4)[i]?) := rfl
theorem big_4_253_tbl : ∀ w ∈ big_4_253, w ∈ lw_tbl := fun w h => tb_4 (in_r _ big_4_253_in w h)
theorem big_4_253_good : big_4_253.all goodWord = true := by decide +kernel
def big_7_257 : List Cond := [Cond.methodLink "ShareHouse" 188 ⟨"ShareHouse$Volume", "copyFrom", "(LShareHouse$Volume;)V"⟩, Cond.code ⟨"ShareHouse$Volume", "copyFrom", "(LShareHouse$Volume;)V"⟩ prog_11_method_8_code 3 none, Cond.instanceMethod ⟨"ShareHouse$Volume", "copyFrom", "(LShareHouse$Volume;)V"⟩, Cond.selects "ShareHouse$Volume" ⟨"ShareHouse$Volume", "copyFrom", "(LShareHouse$Volume;)V"⟩ ⟨"ShareHouse$Volume", "copyFrom", "(LShareHouse$Volume;)V"⟩, Cond.methodLink "ShareHouse" 192 ⟨"ShareHouse$Conn", "vanish", "()V"⟩, Cond.code ⟨"ShareHouse$Conn", "vanish", "()V"⟩ prog_4_method_3_code 1 none, Cond.instanceMethod ⟨"ShareHouse$Conn", "vanish", "()V"⟩, Cond.selects "ShareHouse$Conn" ⟨"ShareHouse$Conn", "vanish", "()V"⟩ ⟨"ShareHouse$Conn", "vanish", "()V"⟩, Cond.methodLink "ShareHouse" 195 ⟨"java/util/ArrayList", "clear", "()V"⟩, Cond.code ⟨"java/util/ArrayList", "clear", "()V"⟩ prog_26_method_40_code 4 none, Cond.instanceMethod ⟨"java/util/ArrayList", "clear", "()V"⟩, Cond.selects "java/util/ArrayList" ⟨"java/util/ArrayList", "clear", "()V"⟩ ⟨"java/util/ArrayList", "clear", "()V"⟩, Cond.methodLink "ShareHouse" 198 ⟨"java/util/Arrays", "fill", "([JJ)V"⟩, Cond.code ⟨"java/util/Arrays", "fill", "([JJ)V"⟩ prog_27_method_101_code 5 none, Cond.static ⟨"java/util/Arrays", "fill", "([JJ)V"⟩, Cond.methodLink "ShareHouse$Volume" 130 ⟨"ShareHouse$Node", "copyFrom", "(LShareHouse$Node;)V"⟩, Cond.code ⟨"ShareHouse$Node", "copyFrom", "(LShareHouse$Node;)V"⟩ prog_6_method_9_code 2 none, Cond.instanceMethod ⟨"ShareHouse$Node", "copyFrom", "(LShareHouse$Node;)V"⟩, Cond.selects "ShareHouse$Node" ⟨"ShareHouse$Node", "copyFrom", "(LShareHouse$Node;)V"⟩ ⟨"ShareHouse$Node", "copyFrom", "(LShareHouse$Node;)V"⟩, Cond.methodLink "ShareHouse$Node" 80 ⟨"java/lang/System", "arraycopy", "(Ljava/lang/Object;ILjava/lang/Object;II)V"⟩, Cond.methodLink "ShareHouseModel" 1 ⟨"java/lang/Object", "<init>", "()V"⟩, Cond.fieldLink "ShareHouseModel" 7 "ShareHouseModel" "tape" "[B", Cond.fieldLink "ShareHouseModel" 13 "ShareHouseModel" "is" "[Z", Cond.fieldLink "ShareHouseModel" 17 "ShareHouseModel" "above" "[I", Cond.fieldLink "ShareHouseModel" 21 "ShareHouseModel" "isDir" "[Z", Cond.fieldLink "ShareHouseModel" 24 "ShareHouseModel" "names" "[B", Cond.fieldLink "ShareHouseModel" 27 "ShareHouseModel" "nameSize" "[I", Cond.fieldLink "ShareHouseModel" 30 "ShareHouseModel" "attributes" "[I", Cond.fieldLink "ShareHouseModel" 33 "ShareHouseModel" "times" "[J", Cond.fieldLink "ShareHouseModel" 37 "ShareHouseModel" "sizes" "[I"]
theorem big_7_257_in : big_7_257 = [118, 121, 119, 120, 127, 130, 128, 129, 131, 134, 132, 133, 135, 137, 136, 122, 125, 123, 124, 126, 159, 173, 176, 177, 178, 179, 180, 181, 182, 183].filterMap (fun i => (tables_1_7)[i]?) := rfl
theorem big_7_257_tbl : ∀ w ∈ big_7_257, w ∈ lw_tbl := fun w h => tb_7 (in_r _ big_7_257_in w h)
theorem big_7_257_good : big_7_257.all goodWord = true := by decide +kernel
def big_7_287 : List Cond := [Cond.constant "ShareHouseModel" 40 655360, Cond.fieldLink "ShareHouseModel" 41 "ShareHouseModel" "bytes" "[B", Cond.fieldLink "ShareHouseModel" 44 "ShareHouseModel" "isToGo" "[Z", Cond.fieldLink "ShareHouseModel" 47 "ShareHouseModel" "shareRoot" "[I", Cond.fieldLink "ShareHouseModel" 50 "ShareHouseModel" "shareNames" "[B", Cond.fieldLink "ShareHouseModel" 53 "ShareHouseModel" "shareSize" "[I", Cond.fieldLink "ShareHouseModel" 56 "ShareHouseModel" "rKind" "[I", Cond.fieldLink "ShareHouseModel" 59 "ShareHouseModel" "rNode" "[I", Cond.fieldLink "ShareHouseModel" 62 "ShareHouseModel" "rAbove" "[I", Cond.fieldLink "ShareHouseModel" 65 "ShareHouseModel" "rDir" "[Z", Cond.fieldLink "ShareHouseModel" 68 "ShareHouseModel" "rName" "[B", Cond.fieldLink "ShareHouseModel" 71 "ShareHouseModel" "rNameSize" "[I", Cond.fieldLink "ShareHouseModel" 74 "ShareHouseModel" "rAttributes" "[I", Cond.fieldLink "ShareHouseModel" 77 "ShareHouseModel" "rTimes" "[J", Cond.fieldLink "ShareHouseModel" 80 "ShareHouseModel" "rFrom" "[I", Cond.fieldLink "ShareHouseModel" 83 "ShareHouseModel" "rMany" "[I", Cond.fieldLink "ShareHouseModel" 86 "ShareHouseModel" "rBytes" "[B", Cond.fieldLink "ShareHouseModel" 89 "ShareHouseModel" "isConnected" "[Z", Cond.fieldLink "ShareHouseModel" 92 "ShareHouseModel" "isAgreed" "[Z", Cond.constant "ShareHouseModel" 95 96000, Cond.fieldLink "ShareHouseModel" 96 "ShareHouseModel" "outs" "[B", Cond.fieldLink "ShareHouseModel" 99 "ShareHouseModel" "outSize" "[I", Cond.constant "ShareHouseModel" 102 72600, Cond.fieldLink "ShareHouseModel" 103 "ShareHouseModel" "ins" "[B", Cond.fieldLink "ShareHouseModel" 106 "ShareHouseModel" "inSize" "[I", Cond.fieldLink "ShareHouseModel" 109 "ShareHouseModel" "free" "[J", Cond.fieldLink "ShareHouseModel" 112 "ShareHouseModel" "frees" "[I", Cond.fieldLink "ShareHouseModel" 115 "ShareHouseModel" "highest" "[J", Cond.fieldLink "ShareHouseModel" 118 "ShareHouseModel" "sessionSerial" "[J", Cond.fieldLink "ShareHouseModel" 121 "ShareHouseModel" "sessionOn" "[I"]
theorem big_7_287_in : big_7_287 = [160, 184, 185, 186, 187, 188, 190, 191, 192, 193, 194, 195, 196, 197, 198, 199, 200, 201, 202, 161, 203, 204, 162, 205, 206, 207, 208, 209, 210, 211].filterMap (fun i => (tables_1_7)[i]?) := rfl
theorem big_7_287_tbl : ∀ w ∈ big_7_287, w ∈ lw_tbl := fun w h => tb_7 (in_r _ big_7_287_in w h)
theorem big_7_287_good : big_7_287.all goodWord = true := by decide +kernel
def big_7_317 : List Cond := [Cond.fieldLink "ShareHouseModel" 124 "ShareHouseModel" "users" "[B", Cond.fieldLink "ShareHouseModel" 127 "ShareHouseModel" "userSize" "[I", Cond.fieldLink "ShareHouseModel" 130 "ShareHouseModel" "treeSerial" "[J", Cond.fieldLink "ShareHouseModel" 133 "ShareHouseModel" "treeOf" "[I", Cond.fieldLink "ShareHouseModel" 136 "ShareHouseModel" "treeShare" "[I", Cond.fieldLink "ShareHouseModel" 139 "ShareHouseModel" "openSerial" "[J", Cond.fieldLink "ShareHouseModel" 142 "ShareHouseModel" "openTree" "[I", Cond.fieldLink "ShareHouseModel" 145 "ShareHouseModel" "openNode" "[I", Cond.fieldLink "ShareHouseModel" 148 "ShareHouseModel" "access" "[I", Cond.fieldLink "ShareHouseModel" 151 "ShareHouseModel" "shares" "[I", Cond.fieldLink "ShareHouseModel" 154 "ShareHouseModel" "oplock" "[I", Cond.fieldLink "ShareHouseModel" 157 "ShareHouseModel" "isBroken" "[Z", Cond.fieldLink "ShareHouseModel" 160 "ShareHouseModel" "brokenTo" "[I", Cond.fieldLink "ShareHouseModel" 163 "ShareHouseModel" "brokenAt" "[J", Cond.fieldLink "ShareHouseModel" 166 "ShareHouseModel" "goesOnClose" "[Z", Cond.fieldLink "ShareHouseModel" 169 "ShareHouseModel" "patternSize" "[I", Cond.fieldLink "ShareHouseModel" 172 "ShareHouseModel" "patterns" "[I", Cond.fieldLink "ShareHouseModel" 175 "ShareHouseModel" "lastKind" "[I", Cond.fieldLink "ShareHouseModel" 178 "ShareHouseModel" "lastName" "[B", Cond.fieldLink "ShareHouseModel" 181 "ShareHouseModel" "lastSize" "[I", Cond.fieldLink "ShareHouseModel" 184 "ShareHouseModel" "lockOpen" "[J", Cond.fieldLink "ShareHouseModel" 187 "ShareHouseModel" "lockNode" "[I", Cond.fieldLink "ShareHouseModel" 190 "ShareHouseModel" "lockFrom" "[J", Cond.constant "ShareHouseModel" 241 64000, Cond.constant "ShareHouseModel" 245 90000, Cond.methodLink "ShareHouseModel" 258 ⟨"ShareHouseModel", "begin", "()V"⟩, Cond.code ⟨"ShareHouseModel", "begin", "()V"⟩ prog_14_method_17_code 2 none, Cond.instanceMethod ⟨"ShareHouseModel", "begin", "()V"⟩, Cond.fieldLink "ShareHouseModel" 289 "ShareHouseModel" "locks" "I", Cond.fieldLink "ShareHouseModel" 271 "ShareHouseModel" "records" "I"]
theorem big_7_317_in : big_7_317 = [212, 213, 214, 215, 216, 217, 218, 219, 220, 221, 222, 223, 224, 225, 226, 227, 228, 229, 230, 231, 237, 238, 239, 163, 164, 165, 168, 167, 236, 189].filterMap (fun i => (tables_1_7)[i]?) := rfl
theorem big_7_317_tbl : ∀ w ∈ big_7_317, w ∈ lw_tbl := fun w h => tb_7 (in_r _ big_7_317_in w h)
theorem big_7_317_good : big_7_317.all goodWord = true := by decide +kernel
def big_7_347 : List Cond := [Cond.fieldLink "ShareHouseModel" 295 "ShareHouseModel" "sessionRow" "J", Cond.fieldLink "ShareHouseModel" 299 "ShareHouseModel" "treeRow" "J", Cond.fieldLink "ShareHouseModel" 302 "ShareHouseModel" "openRow" "J", Cond.fieldLink "ShareHouseModel" 305 "ShareHouseModel" "asyncRow" "J", Cond.methodLink "ShareHouseModel" 308 ⟨"ShareHouseModel", "copyNode", "(II)V"⟩, Cond.code ⟨"ShareHouseModel", "copyNode", "(II)V"⟩ prog_14_method_10_code 4 none, Cond.instanceMethod ⟨"ShareHouseModel", "copyNode", "(II)V"⟩, Cond.fieldLink "ShareHouseModel" 261 "ShareHouseModel" "tapeSize" "I", Cond.fieldLink "ShareHouseModel" 322 "ShareHouseModel" "now" "J", Cond.classLink "ShareHouseLaw" 10 "ShareHouseModel", Cond.instantiable "ShareHouseModel" 120, Cond.methodLink "ShareHouseLaw" 12 ⟨"ShareHouseModel", "<init>", "()V"⟩, Cond.code ⟨"ShareHouseModel", "<init>", "()V"⟩ prog_14_method_1_code 2 none, Cond.instanceMethod ⟨"ShareHouseModel", "<init>", "()V"⟩, Cond.methodLink "ShareHouseLaw" 40 ⟨"ShareHouse", "isOpen", "(I)Z"⟩, Cond.code ⟨"ShareHouse", "isOpen", "(I)Z"⟩ prog_1_method_8_code 3 (some .boolean), Cond.instanceMethod ⟨"ShareHouse", "isOpen", "(I)Z"⟩, Cond.selects "ShareHouse" ⟨"ShareHouse", "isOpen", "(I)Z"⟩ ⟨"ShareHouse", "isOpen", "(I)Z"⟩, Cond.methodLink "ShareHouseLaw" 44 ⟨"ShareHouse", "tick", "(I)Z"⟩, Cond.code ⟨"ShareHouse", "tick", "(I)Z"⟩ prog_1_method_9_code 4 (some .boolean), Cond.instanceMethod ⟨"ShareHouse", "tick", "(I)Z"⟩, Cond.selects "ShareHouse" ⟨"ShareHouse", "tick", "(I)Z"⟩ ⟨"ShareHouse", "tick", "(I)Z"⟩, Cond.methodLink "ShareHouseLaw" 48 ⟨"ShareHouse", "crash", "(I)I"⟩, Cond.code ⟨"ShareHouse", "crash", "(I)I"⟩ prog_1_method_10_code 4 (some .int), Cond.instanceMethod ⟨"ShareHouse", "crash", "(I)I"⟩, Cond.selects "ShareHouse" ⟨"ShareHouse", "crash", "(I)I"⟩ ⟨"ShareHouse", "crash", "(I)I"⟩, Cond.methodLink "ShareHouseLaw" 52 ⟨"ShareHouse", "outs", "(I)I"⟩, Cond.code ⟨"ShareHouse", "outs", "(I)I"⟩ prog_1_method_11_code 3 (some .int), Cond.instanceMethod ⟨"ShareHouse", "outs", "(I)I"⟩, Cond.selects "ShareHouse" ⟨"ShareHouse", "outs", "(I)I"⟩ ⟨"ShareHouse", "outs", "(I)I"⟩]
theorem big_7_347_in : big_7_347 = [232, 233, 234, 235, 169, 172, 171, 174, 175, 154, 155, 156, 158, 157, 105, 108, 106, 107, 109, 112, 110, 111, 114, 117, 115, 116, 138, 141, 139, 140].filterMap (fun i => (tables_1_7)[i]?) := rfl
theorem big_7_347_tbl : ∀ w ∈ big_7_347, w ∈ lw_tbl := fun w h => tb_7 (in_r _ big_7_347_in w h)
theorem big_7_347_good : big_7_347.all goodWord = true := by decide +kernel
def big_7_377 : List Cond := [Cond.methodLink "ShareHouseLaw" 56 ⟨"ShareHouse", "out", "(II)I"⟩, Cond.code ⟨"ShareHouse", "out", "(II)I"⟩ prog_1_method_12_code 4 (some .int), Cond.instanceMethod ⟨"ShareHouse", "out", "(II)I"⟩, Cond.selects "ShareHouse" ⟨"ShareHouse", "out", "(II)I"⟩ ⟨"ShareHouse", "out", "(II)I"⟩, Cond.methodLink "ShareHouseLaw" 61 ⟨"ShareHouse", "drop", "(I)I"⟩, Cond.code ⟨"ShareHouse", "drop", "(I)I"⟩ prog_1_method_13_code 4 (some .int), Cond.instanceMethod ⟨"ShareHouse", "drop", "(I)I"⟩, Cond.selects "ShareHouse" ⟨"ShareHouse", "drop", "(I)I"⟩ ⟨"ShareHouse", "drop", "(I)I"⟩, Cond.methodLink "ShareHouseLaw" 65 ⟨"ShareHouse", "told", "(I)I"⟩, Cond.code ⟨"ShareHouse", "told", "(I)I"⟩ prog_1_method_14_code 2 (some .int), Cond.instanceMethod ⟨"ShareHouse", "told", "(I)I"⟩, Cond.selects "ShareHouse" ⟨"ShareHouse", "told", "(I)I"⟩ ⟨"ShareHouse", "told", "(I)I"⟩]
theorem big_7_377_in : big_7_377 = [142, 145, 143, 144, 146, 149, 147, 148, 150, 153, 151, 152].filterMap (fun i => (tables_1_7)[i]?) := rfl
theorem big_7_377_tbl : ∀ w ∈ big_7_377, w ∈ lw_tbl := fun w h => tb_7 (in_r _ big_7_377_in w h)
theorem big_7_377_good : big_7_377.all goodWord = true := by decide +kernel
def big_8_389 : List Cond := [Cond.fieldLink "ShareHouseModel" 193 "ShareHouseModel" "lockMany" "[J", Cond.fieldLink "ShareHouseModel" 196 "ShareHouseModel" "lockShared" "[Z", Cond.fieldLink "ShareHouseModel" 199 "ShareHouseModel" "wOn" "[I", Cond.fieldLink "ShareHouseModel" 202 "ShareHouseModel" "wCommand" "[I", Cond.fieldLink "ShareHouseModel" 205 "ShareHouseModel" "wCharge" "[I", Cond.fieldLink "ShareHouseModel" 208 "ShareHouseModel" "wRelated" "[Z", Cond.fieldLink "ShareHouseModel" 211 "ShareHouseModel" "wId" "[J", Cond.fieldLink "ShareHouseModel" 214 "ShareHouseModel" "wAsync" "[J", Cond.fieldLink "ShareHouseModel" 217 "ShareHouseModel" "wSession" "[I", Cond.fieldLink "ShareHouseModel" 220 "ShareHouseModel" "wTree" "[I", Cond.fieldLink "ShareHouseModel" 223 "ShareHouseModel" "wOpen" "[J", Cond.fieldLink "ShareHouseModel" 226 "ShareHouseModel" "wNode" "[I", Cond.fieldLink "ShareHouseModel" 229 "ShareHouseModel" "wFrom" "[J", Cond.fieldLink "ShareHouseModel" 232 "ShareHouseModel" "wMany" "[J", Cond.fieldLink "ShareHouseModel" 235 "ShareHouseModel" "wShared" "[Z", Cond.fieldLink "ShareHouseModel" 238 "ShareHouseModel" "wSize" "[I", Cond.fieldLink "ShareHouseModel" 242 "ShareHouseModel" "wBytes" "[B", Cond.fieldLink "ShareHouseModel" 246 "ShareHouseModel" "answer" "[B", Cond.fieldLink "ShareHouseModel" 249 "ShareHouseModel" "units" "[I", Cond.fieldLink "ShareHouseModel" 252 "ShareHouseModel" "partFrom" "[I", Cond.fieldLink "ShareHouseModel" 255 "ShareHouseModel" "partSize" "[I", Cond.fieldLink "ShareHouseModel" 292 "ShareHouseModel" "waits" "I", Cond.laysFinal "ShareHouseModel" "ShareHouseModel" "tape" "[B", Cond.lays "ShareHouseModel" "ShareHouseModel" "tapeSize" "I", Cond.lays "ShareHouseModel" "ShareHouseModel" "now" "J", Cond.laysFinal "ShareHouseModel" "ShareHouseModel" "is" "[Z", Cond.laysFinal "ShareHouseModel" "ShareHouseModel" "above" "[I", Cond.laysFinal "ShareHouseModel" "ShareHouseModel" "isDir" "[Z", Cond.laysFinal "ShareHouseModel" "ShareHouseModel" "names" "[B", Cond.laysFinal "ShareHouseModel" "ShareHouseModel" "nameSize" "[I"]
theorem big_8_389_in : big_8_389 = [0, 1, 3, 4, 5, 6, 7, 8, 9, 10, 11, 12, 13, 14, 15, 16, 17, 22, 45, 46, 47, 2, 53, 55, 57, 59, 61, 63, 65, 67].filterMap (fun i => (tables_1_8)[i]?) := rfl
theorem big_8_389_tbl : ∀ w ∈ big_8_389, w ∈ lw_tbl := fun w h => tb_8 (in_r _ big_8_389_in w h)
theorem big_8_389_good : big_8_389.all goodWord = true := by decide +kernel
def big_8_419 : List Cond := [Cond.laysFinal "ShareHouseModel" "ShareHouseModel" "attributes" "[I", Cond.laysFinal "ShareHouseModel" "ShareHouseModel" "times" "[J", Cond.laysFinal "ShareHouseModel" "ShareHouseModel" "sizes" "[I", Cond.laysFinal "ShareHouseModel" "ShareHouseModel" "bytes" "[B", Cond.laysFinal "ShareHouseModel" "ShareHouseModel" "isToGo" "[Z", Cond.laysFinal "ShareHouseModel" "ShareHouseModel" "shareRoot" "[I", Cond.laysFinal "ShareHouseModel" "ShareHouseModel" "shareNames" "[B", Cond.laysFinal "ShareHouseModel" "ShareHouseModel" "shareSize" "[I", Cond.lays "ShareHouseModel" "ShareHouseModel" "records" "I", Cond.laysFinal "ShareHouseModel" "ShareHouseModel" "rKind" "[I", Cond.laysFinal "ShareHouseModel" "ShareHouseModel" "rNode" "[I", Cond.laysFinal "ShareHouseModel" "ShareHouseModel" "rAbove" "[I", Cond.laysFinal "ShareHouseModel" "ShareHouseModel" "rDir" "[Z", Cond.laysFinal "ShareHouseModel" "ShareHouseModel" "rName" "[B", Cond.laysFinal "ShareHouseModel" "ShareHouseModel" "rNameSize" "[I", Cond.laysFinal "ShareHouseModel" "ShareHouseModel" "rAttributes" "[I", Cond.laysFinal "ShareHouseModel" "ShareHouseModel" "rTimes" "[J", Cond.laysFinal "ShareHouseModel" "ShareHouseModel" "rFrom" "[I", Cond.laysFinal "ShareHouseModel" "ShareHouseModel" "rMany" "[I", Cond.laysFinal "ShareHouseModel" "ShareHouseModel" "rBytes" "[B", Cond.laysFinal "ShareHouseModel" "ShareHouseModel" "isConnected" "[Z", Cond.laysFinal "ShareHouseModel" "ShareHouseModel" "isAgreed" "[Z", Cond.laysFinal "ShareHouseModel" "ShareHouseModel" "outs" "[B", Cond.laysFinal "ShareHouseModel" "ShareHouseModel" "outSize" "[I", Cond.laysFinal "ShareHouseModel" "ShareHouseModel" "ins" "[B", Cond.laysFinal "ShareHouseModel" "ShareHouseModel" "inSize" "[I", Cond.laysFinal "ShareHouseModel" "ShareHouseModel" "free" "[J", Cond.laysFinal "ShareHouseModel" "ShareHouseModel" "frees" "[I", Cond.laysFinal "ShareHouseModel" "ShareHouseModel" "highest" "[J", Cond.laysFinal "ShareHouseModel" "ShareHouseModel" "sessionSerial" "[J"]
theorem big_8_419_in : big_8_419 = [69, 71, 73, 75, 77, 79, 81, 83, 85, 87, 89, 91, 93, 95, 97, 99, 101, 103, 105, 107, 109, 111, 113, 115, 117, 119, 121, 123, 125, 127].filterMap (fun i => (tables_1_8)[i]?) := rfl
theorem big_8_419_tbl : ∀ w ∈ big_8_419, w ∈ lw_tbl := fun w h => tb_8 (in_r _ big_8_419_in w h)
theorem big_8_419_good : big_8_419.all goodWord = true := by decide +kernel
def big_8_449 : List Cond := [Cond.laysFinal "ShareHouseModel" "ShareHouseModel" "sessionOn" "[I", Cond.laysFinal "ShareHouseModel" "ShareHouseModel" "users" "[B", Cond.laysFinal "ShareHouseModel" "ShareHouseModel" "userSize" "[I", Cond.laysFinal "ShareHouseModel" "ShareHouseModel" "treeSerial" "[J", Cond.laysFinal "ShareHouseModel" "ShareHouseModel" "treeOf" "[I", Cond.laysFinal "ShareHouseModel" "ShareHouseModel" "treeShare" "[I", Cond.laysFinal "ShareHouseModel" "ShareHouseModel" "openSerial" "[J", Cond.laysFinal "ShareHouseModel" "ShareHouseModel" "openTree" "[I", Cond.laysFinal "ShareHouseModel" "ShareHouseModel" "openNode" "[I", Cond.laysFinal "ShareHouseModel" "ShareHouseModel" "access" "[I", Cond.laysFinal "ShareHouseModel" "ShareHouseModel" "shares" "[I", Cond.laysFinal "ShareHouseModel" "ShareHouseModel" "oplock" "[I", Cond.laysFinal "ShareHouseModel" "ShareHouseModel" "isBroken" "[Z", Cond.laysFinal "ShareHouseModel" "ShareHouseModel" "brokenTo" "[I", Cond.laysFinal "ShareHouseModel" "ShareHouseModel" "brokenAt" "[J", Cond.laysFinal "ShareHouseModel" "ShareHouseModel" "goesOnClose" "[Z", Cond.laysFinal "ShareHouseModel" "ShareHouseModel" "patternSize" "[I", Cond.laysFinal "ShareHouseModel" "ShareHouseModel" "patterns" "[I", Cond.laysFinal "ShareHouseModel" "ShareHouseModel" "lastKind" "[I", Cond.laysFinal "ShareHouseModel" "ShareHouseModel" "lastName" "[B", Cond.laysFinal "ShareHouseModel" "ShareHouseModel" "lastSize" "[I", Cond.lays "ShareHouseModel" "ShareHouseModel" "sessionRow" "J", Cond.lays "ShareHouseModel" "ShareHouseModel" "treeRow" "J", Cond.lays "ShareHouseModel" "ShareHouseModel" "openRow" "J", Cond.lays "ShareHouseModel" "ShareHouseModel" "asyncRow" "J", Cond.lays "ShareHouseModel" "ShareHouseModel" "locks" "I", Cond.laysFinal "ShareHouseModel" "ShareHouseModel" "lockOpen" "[J", Cond.laysFinal "ShareHouseModel" "ShareHouseModel" "lockNode" "[I", Cond.laysFinal "ShareHouseModel" "ShareHouseModel" "lockFrom" "[J", Cond.laysFinal "ShareHouseModel" "ShareHouseModel" "lockMany" "[J"]
theorem big_8_449_in : big_8_449 = [129, 131, 133, 135, 137, 139, 141, 143, 145, 147, 149, 151, 153, 155, 157, 159, 161, 163, 165, 167, 169, 171, 173, 175, 177, 179, 181, 183, 185, 187].filterMap (fun i => (tables_1_8)[i]?) := rfl
theorem big_8_449_tbl : ∀ w ∈ big_8_449, w ∈ lw_tbl := fun w h => tb_8 (in_r _ big_8_449_in w h)
theorem big_8_449_good : big_8_449.all goodWord = true := by decide +kernel
def big_8_479 : List Cond := [Cond.laysFinal "ShareHouseModel" "ShareHouseModel" "lockShared" "[Z", Cond.lays "ShareHouseModel" "ShareHouseModel" "waits" "I", Cond.laysFinal "ShareHouseModel" "ShareHouseModel" "wOn" "[I", Cond.laysFinal "ShareHouseModel" "ShareHouseModel" "wCommand" "[I", Cond.laysFinal "ShareHouseModel" "ShareHouseModel" "wCharge" "[I", Cond.laysFinal "ShareHouseModel" "ShareHouseModel" "wRelated" "[Z", Cond.laysFinal "ShareHouseModel" "ShareHouseModel" "wId" "[J", Cond.laysFinal "ShareHouseModel" "ShareHouseModel" "wAsync" "[J", Cond.laysFinal "ShareHouseModel" "ShareHouseModel" "wSession" "[I", Cond.laysFinal "ShareHouseModel" "ShareHouseModel" "wTree" "[I", Cond.laysFinal "ShareHouseModel" "ShareHouseModel" "wOpen" "[J", Cond.laysFinal "ShareHouseModel" "ShareHouseModel" "wNode" "[I", Cond.laysFinal "ShareHouseModel" "ShareHouseModel" "wFrom" "[J", Cond.laysFinal "ShareHouseModel" "ShareHouseModel" "wMany" "[J", Cond.laysFinal "ShareHouseModel" "ShareHouseModel" "wShared" "[Z", Cond.laysFinal "ShareHouseModel" "ShareHouseModel" "wSize" "[I", Cond.laysFinal "ShareHouseModel" "ShareHouseModel" "wBytes" "[B", Cond.lays "ShareHouseModel" "ShareHouseModel" "in" "[B", Cond.lays "ShareHouseModel" "ShareHouseModel" "base" "I", Cond.lays "ShareHouseModel" "ShareHouseModel" "length" "I", Cond.lays "ShareHouseModel" "ShareHouseModel" "line" "I", Cond.laysFinal "ShareHouseModel" "ShareHouseModel" "answer" "[B", Cond.lays "ShareHouseModel" "ShareHouseModel" "start" "I", Cond.lays "ShareHouseModel" "ShareHouseModel" "size" "I", Cond.lays "ShareHouseModel" "ShareHouseModel" "isCut" "Z", Cond.lays "ShareHouseModel" "ShareHouseModel" "command" "I"]
theorem big_8_479_in : big_8_479 = [189, 191, 193, 195, 197, 199, 201, 203, 205, 207, 209, 211, 213, 215, 217, 219, 221, 223, 225, 227, 229, 231, 233, 235, 237, 239].filterMap (fun i => (tables_1_8)[i]?) := rfl
theorem big_8_479_tbl : ∀ w ∈ big_8_479, w ∈ lw_tbl := fun w h => tb_8 (in_r _ big_8_479_in w h)
theorem big_8_479_good : big_8_479.all goodWord = true := by decide +kernel
def big_9_505 : List Cond := [Cond.arrayClass .boolean, Cond.methodLink "ShareHouseModel" 265 ⟨"ShareHouseModel", "lay", "(I)V"⟩, Cond.code ⟨"ShareHouseModel", "lay", "(I)V"⟩ prog_14_method_4_code 3 none, Cond.instanceMethod ⟨"ShareHouseModel", "lay", "(I)V"⟩, Cond.methodLink "ShareHouseModel" 325 ⟨"ShareHouseModel", "isLine", "(I)Z"⟩, Cond.code ⟨"ShareHouseModel", "isLine", "(I)Z"⟩ prog_14_method_19_code 1 (some .boolean), Cond.static ⟨"ShareHouseModel", "isLine", "(I)Z"⟩, Cond.methodLink "ShareHouseModel" 281 ⟨"ShareHouseModel", "come", "(IZ)V"⟩, Cond.code ⟨"ShareHouseModel", "come", "(IZ)V"⟩ prog_14_method_14_code 4 none, Cond.instanceMethod ⟨"ShareHouseModel", "come", "(IZ)V"⟩, Cond.methodLink "ShareHouseModel" 315 ⟨"ShareHouseModel", "nodes", "(I)I"⟩, Cond.code ⟨"ShareHouseModel", "nodes", "(I)I"⟩ prog_14_method_8_code 4 (some .int), Cond.instanceMethod ⟨"ShareHouseModel", "nodes", "(I)I"⟩, Cond.methodLink "ShareHouseLaw" 17 ⟨"ShareHouseModel", "feed", "(IIIII)I"⟩, Cond.code ⟨"ShareHouseModel", "feed", "(IIIII)I"⟩ prog_14_method_3_code 6 (some .int), Cond.instanceMethod ⟨"ShareHouseModel", "feed", "(IIIII)I"⟩, Cond.selects "ShareHouseModel" ⟨"ShareHouseModel", "feed", "(IIIII)I"⟩ ⟨"ShareHouseModel", "feed", "(IIIII)I"⟩, Cond.methodLink "ShareHouseLaw" 22 ⟨"ShareHouseModel", "cut", "(I)I"⟩, Cond.code ⟨"ShareHouseModel", "cut", "(I)I"⟩ prog_14_method_5_code 3 (some .int), Cond.instanceMethod ⟨"ShareHouseModel", "cut", "(I)I"⟩, Cond.selects "ShareHouseModel" ⟨"ShareHouseModel", "cut", "(I)I"⟩ ⟨"ShareHouseModel", "cut", "(I)I"⟩, Cond.methodLink "ShareHouseLaw" 27 ⟨"ShareHouseModel", "share", "(I)Z"⟩, Cond.code ⟨"ShareHouseModel", "share", "(I)Z"⟩ prog_14_method_18_code 7 (some .boolean), Cond.instanceMethod ⟨"ShareHouseModel", "share", "(I)Z"⟩, Cond.selects "ShareHouseModel" ⟨"ShareHouseModel", "share", "(I)Z"⟩ ⟨"ShareHouseModel", "share", "(I)Z"⟩, Cond.methodLink "ShareHouseLaw" 31 ⟨"ShareHouseModel", "connect", "(I)Z"⟩, Cond.code ⟨"ShareHouseModel", "connect", "(I)Z"⟩ prog_14_method_20_code 2 (some .boolean), Cond.instanceMethod ⟨"ShareHouseModel", "connect", "(I)Z"⟩, Cond.selects "ShareHouseModel" ⟨"ShareHouseModel", "connect", "(I)Z"⟩ ⟨"ShareHouseModel", "connect", "(I)Z"⟩, Cond.methodLink "ShareHouseLaw" 35 ⟨"ShareHouseModel", "hang", "(I)Z"⟩]
theorem big_9_505_in : big_9_505 = [54, 59, 62, 61, 102, 104, 103, 82, 85, 84, 74, 77, 76, 55, 58, 56, 57, 63, 66, 64, 65, 67, 70, 68, 69, 98, 101, 99, 100, 105].filterMap (fun i => (tables_1_9)[i]?) := rfl
theorem big_9_505_tbl : ∀ w ∈ big_9_505, w ∈ lw_tbl := fun w h => tb_9 (in_r _ big_9_505_in w h)
theorem big_9_505_good : big_9_505.all goodWord = true := by decide +kernel
def big_9_535 : List Cond := [Cond.code ⟨"ShareHouseModel", "hang", "(I)Z"⟩ prog_14_method_21_code 2 (some .boolean), Cond.instanceMethod ⟨"ShareHouseModel", "hang", "(I)Z"⟩, Cond.selects "ShareHouseModel" ⟨"ShareHouseModel", "hang", "(I)Z"⟩ ⟨"ShareHouseModel", "hang", "(I)Z"⟩, Cond.lays "ShareHouseModel" "ShareHouseModel" "isRelated" "Z", Cond.lays "ShareHouseModel" "ShareHouseModel" "isLast" "Z", Cond.lays "ShareHouseModel" "ShareHouseModel" "sessionAsked" "J", Cond.lays "ShareHouseModel" "ShareHouseModel" "treeAsked" "J", Cond.lays "ShareHouseModel" "ShareHouseModel" "session" "I", Cond.lays "ShareHouseModel" "ShareHouseModel" "tree" "I", Cond.lays "ShareHouseModel" "ShareHouseModel" "open" "I", Cond.lays "ShareHouseModel" "ShareHouseModel" "fileLow" "J", Cond.lays "ShareHouseModel" "ShareHouseModel" "fileHigh" "J", Cond.lays "ShareHouseModel" "ShareHouseModel" "hasFile" "Z", Cond.lays "ShareHouseModel" "ShareHouseModel" "sessionBefore" "J", Cond.lays "ShareHouseModel" "ShareHouseModel" "treeBefore" "J", Cond.lays "ShareHouseModel" "ShareHouseModel" "lowBefore" "J", Cond.lays "ShareHouseModel" "ShareHouseModel" "highBefore" "J", Cond.lays "ShareHouseModel" "ShareHouseModel" "hadFile" "Z", Cond.lays "ShareHouseModel" "ShareHouseModel" "isWaiting" "Z", Cond.lays "ShareHouseModel" "ShareHouseModel" "answers" "I", Cond.lays "ShareHouseModel" "ShareHouseModel" "opened" "J", Cond.laysFinal "ShareHouseModel" "ShareHouseModel" "units" "[I", Cond.laysFinal "ShareHouseModel" "ShareHouseModel" "partFrom" "[I", Cond.laysFinal "ShareHouseModel" "ShareHouseModel" "partSize" "[I", Cond.lays "ShareHouseModel" "ShareHouseModel" "parts" "I", Cond.lays "ShareHouseModel" "ShareHouseModel" "inside" "I", Cond.lays "ShareHouseModel" "ShareHouseModel" "found" "I", Cond.lays "ShareHouseModel" "ShareHouseModel" "nextKind" "I", Cond.lays "ShareHouseModel" "ShareHouseModel" "nextNode" "I"]
theorem big_9_535_in : big_9_535 = [108, 106, 107, 1, 3, 5, 7, 9, 11, 13, 15, 17, 19, 21, 23, 25, 27, 29, 31, 33, 35, 37, 39, 41, 43, 45, 47, 49, 51].filterMap (fun i => (tables_1_9)[i]?) := rfl
theorem big_9_535_tbl : ∀ w ∈ big_9_535, w ∈ lw_tbl := fun w h => tb_9 (in_r _ big_9_535_in w h)
theorem big_9_535_good : big_9_535.all goodWord = true := by decide +kernel
def big_10_564 : List Cond := [Cond.methodLink "ShareHouseModel" 688 ⟨"ShareHouseModel", "count", "([J)I"⟩, Cond.code ⟨"ShareHouseModel", "count", "([J)I"⟩ prog_14_method_31_code 4 (some .int), Cond.instanceMethod ⟨"ShareHouseModel", "count", "([J)I"⟩, Cond.methodLink "ShareHouseLaw" 39 ⟨"ShareHouseModel", "come", "(I)I"⟩, Cond.code ⟨"ShareHouseModel", "come", "(I)I"⟩ prog_14_method_33_code 8 (some .int), Cond.instanceMethod ⟨"ShareHouseModel", "come", "(I)I"⟩, Cond.selects "ShareHouseModel" ⟨"ShareHouseModel", "come", "(I)I"⟩ ⟨"ShareHouseModel", "come", "(I)I"⟩, Cond.methodLink "ShareHouseLaw" 43 ⟨"ShareHouseModel", "isOpen", "(I)Z"⟩, Cond.code ⟨"ShareHouseModel", "isOpen", "(I)Z"⟩ prog_14_method_22_code 2 (some .boolean), Cond.instanceMethod ⟨"ShareHouseModel", "isOpen", "(I)Z"⟩, Cond.selects "ShareHouseModel" ⟨"ShareHouseModel", "isOpen", "(I)Z"⟩ ⟨"ShareHouseModel", "isOpen", "(I)Z"⟩]
theorem big_10_564_in : big_10_564 = [46, 49, 48, 124, 127, 125, 126, 120, 123, 121, 122].filterMap (fun i => (tables_1_10)[i]?) := rfl
theorem big_10_564_tbl : ∀ w ∈ big_10_564, w ∈ lw_tbl := fun w h => tb_10 (in_r _ big_10_564_in w h)
theorem big_10_564_good : big_10_564.all goodWord = true := by decide +kernel
def big_11_575 : List Cond := [Cond.constant "ShareHouseModel" 863 1000000, Cond.methodLink "ShareHouseLaw" 47 ⟨"ShareHouseModel", "tick", "(I)Z"⟩, Cond.code ⟨"ShareHouseModel", "tick", "(I)Z"⟩ prog_14_method_116_code 8 (some .boolean), Cond.instanceMethod ⟨"ShareHouseModel", "tick", "(I)Z"⟩, Cond.selects "ShareHouseModel" ⟨"ShareHouseModel", "tick", "(I)Z"⟩ ⟨"ShareHouseModel", "tick", "(I)Z"⟩, Cond.methodLink "ShareHouseLaw" 51 ⟨"ShareHouseModel", "crash", "(I)I"⟩, Cond.code ⟨"ShareHouseModel", "crash", "(I)I"⟩ prog_14_method_117_code 3 (some .int), Cond.instanceMethod ⟨"ShareHouseModel", "crash", "(I)I"⟩, Cond.selects "ShareHouseModel" ⟨"ShareHouseModel", "crash", "(I)I"⟩ ⟨"ShareHouseModel", "crash", "(I)I"⟩, Cond.methodLink "ShareHouseLaw" 55 ⟨"ShareHouseModel", "outs", "(I)I"⟩, Cond.code ⟨"ShareHouseModel", "outs", "(I)I"⟩ prog_14_method_118_code 2 (some .int), Cond.instanceMethod ⟨"ShareHouseModel", "outs", "(I)I"⟩, Cond.selects "ShareHouseModel" ⟨"ShareHouseModel", "outs", "(I)I"⟩ ⟨"ShareHouseModel", "outs", "(I)I"⟩, Cond.methodLink "ShareHouseLaw" 60 ⟨"ShareHouseModel", "out", "(II)I"⟩, Cond.code ⟨"ShareHouseModel", "out", "(II)I"⟩ prog_14_method_119_code 3 (some .int), Cond.instanceMethod ⟨"ShareHouseModel", "out", "(II)I"⟩, Cond.selects "ShareHouseModel" ⟨"ShareHouseModel", "out", "(II)I"⟩ ⟨"ShareHouseModel", "out", "(II)I"⟩, Cond.methodLink "ShareHouseLaw" 64 ⟨"ShareHouseModel", "drop", "(I)I"⟩, Cond.code ⟨"ShareHouseModel", "drop", "(I)I"⟩ prog_14_method_120_code 3 (some .int), Cond.instanceMethod ⟨"ShareHouseModel", "drop", "(I)I"⟩, Cond.selects "ShareHouseModel" ⟨"ShareHouseModel", "drop", "(I)I"⟩ ⟨"ShareHouseModel", "drop", "(I)I"⟩, Cond.methodLink "ShareHouseLaw" 68 ⟨"ShareHouseModel", "told", "(I)I"⟩, Cond.code ⟨"ShareHouseModel", "told", "(I)I"⟩ prog_14_method_121_code 2 (some .int), Cond.instanceMethod ⟨"ShareHouseModel", "told", "(I)I"⟩, Cond.selects "ShareHouseModel" ⟨"ShareHouseModel", "told", "(I)I"⟩ ⟨"ShareHouseModel", "told", "(I)I"⟩]
theorem big_11_575_in : big_11_575 = [83, 79, 82, 80, 81, 85, 88, 86, 87, 89, 92, 90, 91, 93, 96, 94, 95, 97, 100, 98, 99, 101, 104, 102, 103].filterMap (fun i => (tables_1_11)[i]?) := rfl
theorem big_11_575_tbl : ∀ w ∈ big_11_575, w ∈ lw_tbl := fun w h => tb_11 (in_r _ big_11_575_in w h)
theorem big_11_575_good : big_11_575.all goodWord = true := by decide +kernel
def big : List Cond := big_0_0 ++ (big_1_9 ++ (big_1_39 ++ (big_1_69 ++ (big_1_99 ++ (big_1_129 ++ (big_2_138 ++ (big_2_168 ++ (big_2_198 ++ (big_2_228 ++ (big_3_232 ++ (big_4_253 ++ (big_7_257 ++ (big_7_287 ++ (big_7_317 ++ (big_7_347 ++ (big_7_377 ++ (big_8_389 ++ (big_8_419 ++ (big_8_449 ++ (big_8_479 ++ (big_9_505 ++ (big_9_535 ++ (big_10_564 ++ (big_11_575))))))))))))))))))))))))
theorem big_tbl : ∀ w ∈ big, w ∈ lw_tbl := by
  show ∀ w ∈ big_0_0 ++ (big_1_9 ++ (big_1_39 ++ (big_1_69 ++ (big_1_99 ++ (big_1_129 ++ (big_2_138 ++ (big_2_168 ++ (big_2_198 ++ (big_2_228 ++ (big_3_232 ++ (big_4_253 ++ (big_7_257 ++ (big_7_287 ++ (big_7_317 ++ (big_7_347 ++ (big_7_377 ++ (big_8_389 ++ (big_8_419 ++ (big_8_449 ++ (big_8_479 ++ (big_9_505 ++ (big_9_535 ++ (big_10_564 ++ (big_11_575)))))))))))))))))))))))), w ∈ lw_tbl
  exact List.forall_mem_append.mpr ⟨big_0_0_tbl, List.forall_mem_append.mpr ⟨big_1_9_tbl, List.forall_mem_append.mpr ⟨big_1_39_tbl, List.forall_mem_append.mpr ⟨big_1_69_tbl, List.forall_mem_append.mpr ⟨big_1_99_tbl, List.forall_mem_append.mpr ⟨big_1_129_tbl, List.forall_mem_append.mpr ⟨big_2_138_tbl, List.forall_mem_append.mpr ⟨big_2_168_tbl, List.forall_mem_append.mpr ⟨big_2_198_tbl, List.forall_mem_append.mpr ⟨big_2_228_tbl, List.forall_mem_append.mpr ⟨big_3_232_tbl, List.forall_mem_append.mpr ⟨big_4_253_tbl, List.forall_mem_append.mpr ⟨big_7_257_tbl, List.forall_mem_append.mpr ⟨big_7_287_tbl, List.forall_mem_append.mpr ⟨big_7_317_tbl, List.forall_mem_append.mpr ⟨big_7_347_tbl, List.forall_mem_append.mpr ⟨big_7_377_tbl, List.forall_mem_append.mpr ⟨big_8_389_tbl, List.forall_mem_append.mpr ⟨big_8_419_tbl, List.forall_mem_append.mpr ⟨big_8_449_tbl, List.forall_mem_append.mpr ⟨big_8_479_tbl, List.forall_mem_append.mpr ⟨big_9_505_tbl, List.forall_mem_append.mpr ⟨big_9_535_tbl, List.forall_mem_append.mpr ⟨big_10_564_tbl, big_11_575_tbl⟩⟩⟩⟩⟩⟩⟩⟩⟩⟩⟩⟩⟩⟩⟩⟩⟩⟩⟩⟩⟩⟩⟩⟩
theorem big_good : ∀ w ∈ big, goodWord w = true := by
  show ∀ w ∈ big_0_0 ++ (big_1_9 ++ (big_1_39 ++ (big_1_69 ++ (big_1_99 ++ (big_1_129 ++ (big_2_138 ++ (big_2_168 ++ (big_2_198 ++ (big_2_228 ++ (big_3_232 ++ (big_4_253 ++ (big_7_257 ++ (big_7_287 ++ (big_7_317 ++ (big_7_347 ++ (big_7_377 ++ (big_8_389 ++ (big_8_419 ++ (big_8_449 ++ (big_8_479 ++ (big_9_505 ++ (big_9_535 ++ (big_10_564 ++ (big_11_575)))))))))))))))))))))))), goodWord w = true
  exact List.forall_mem_append.mpr ⟨List.all_eq_true.mp big_0_0_good, List.forall_mem_append.mpr ⟨List.all_eq_true.mp big_1_9_good, List.forall_mem_append.mpr ⟨List.all_eq_true.mp big_1_39_good, List.forall_mem_append.mpr ⟨List.all_eq_true.mp big_1_69_good, List.forall_mem_append.mpr ⟨List.all_eq_true.mp big_1_99_good, List.forall_mem_append.mpr ⟨List.all_eq_true.mp big_1_129_good, List.forall_mem_append.mpr ⟨List.all_eq_true.mp big_2_138_good, List.forall_mem_append.mpr ⟨List.all_eq_true.mp big_2_168_good, List.forall_mem_append.mpr ⟨List.all_eq_true.mp big_2_198_good, List.forall_mem_append.mpr ⟨List.all_eq_true.mp big_2_228_good, List.forall_mem_append.mpr ⟨List.all_eq_true.mp big_3_232_good, List.forall_mem_append.mpr ⟨List.all_eq_true.mp big_4_253_good, List.forall_mem_append.mpr ⟨List.all_eq_true.mp big_7_257_good, List.forall_mem_append.mpr ⟨List.all_eq_true.mp big_7_287_good, List.forall_mem_append.mpr ⟨List.all_eq_true.mp big_7_317_good, List.forall_mem_append.mpr ⟨List.all_eq_true.mp big_7_347_good, List.forall_mem_append.mpr ⟨List.all_eq_true.mp big_7_377_good, List.forall_mem_append.mpr ⟨List.all_eq_true.mp big_8_389_good, List.forall_mem_append.mpr ⟨List.all_eq_true.mp big_8_419_good, List.forall_mem_append.mpr ⟨List.all_eq_true.mp big_8_449_good, List.forall_mem_append.mpr ⟨List.all_eq_true.mp big_8_479_good, List.forall_mem_append.mpr ⟨List.all_eq_true.mp big_9_505_good, List.forall_mem_append.mpr ⟨List.all_eq_true.mp big_9_535_good, List.forall_mem_append.mpr ⟨List.all_eq_true.mp big_10_564_good, List.all_eq_true.mp big_11_575_good⟩⟩⟩⟩⟩⟩⟩⟩⟩⟩⟩⟩⟩⟩⟩⟩⟩⟩⟩⟩⟩⟩⟩⟩
theorem wb {w : Cond} (i : Nat) (h : big[i]? = some w) : w ∈ big := List.mem_of_getElem? h
theorem lay_X12 : ∀ w ∈ u_ws RX12 TX12 120, w ∈ big := in_r [411, 412, 413, 414, 415, 416, 417, 418, 419, 420, 421, 422, 423, 424, 425, 426, 427, 428, 429, 430, 431, 432, 433, 434, 435, 436, 437, 438, 439, 440, 441, 442, 443, 444, 445, 446, 447, 448, 449, 450, 451, 452, 453, 454, 455, 456, 457, 458, 459, 460, 461, 462, 463, 464, 465, 466, 467, 468, 469, 470, 471, 472, 473, 474, 475, 476, 477, 478, 479, 480, 481, 482, 483, 484, 485, 486, 487, 488, 489, 490, 491, 492, 493, 494, 495, 496, 497, 498, 499, 500, 501, 502, 503, 504, 538, 539, 540, 541, 542, 543, 544, 545, 546, 547, 548, 549, 550, 551, 552, 553, 554, 555, 556, 557, 558, 559, 560, 561, 562, 563] (by decide +kernel)
theorem lay_X11 : ∀ w ∈ u_ws RX11 TX11 18, w ∈ big := in_r [196, 197, 198, 199, 200, 201, 202, 203, 204, 205, 206, 207, 208, 209, 210, 211, 212, 213] (by decide +kernel)
theorem lay_X6 : ∀ w ∈ u_ws RX6 TX6 2, w ∈ big := in_r [105, 106] (by decide +kernel)
theorem lay_X2 : ∀ w ∈ u_ws RX2 TX2 15, w ∈ big := in_r [107, 108, 109, 110, 111, 112, 113, 114, 115, 116, 117, 118, 214, 215, 216] (by decide +kernel)
theorem lay_X1 : ∀ w ∈ u_ws RX1 TX1 15, w ∈ big := in_r [217, 218, 219, 220, 221, 222, 223, 224, 225, 226, 227, 228, 229, 230, 231] (by decide +kernel)
theorem lay_X4 : ∀ w ∈ u_ws RX4 TX4 14, w ∈ big := in_r [119, 120, 121, 122, 123, 124, 125, 126, 127, 128, 129, 130, 131, 132] (by decide +kernel)
theorem lay_X9 : ∀ w ∈ u_ws RX9 TX9 2, w ∈ big := in_r [133, 134] (by decide +kernel)
theorem lay_Jx4a65c : ∀ w ∈ u_ws RJx4a65c TJx4a65c 3, w ∈ big := in_r [135, 136, 137] (by decide +kernel)
abbrev cl1 : List vw_C := [(RX12, TX12, 120), (RX11, TX11, 18), (RX6, TX6, 2), (RX2, TX2, 15), (RX1, TX1, 15), (RX4, TX4, 14), (RX9, TX9, 2), (RJx4a65c, TJx4a65c, 3)]
