section
-- ===== PART A: goes FIRST, ahead of the names: the tables' words, and 'selects' of the private methods out of them =====
/-- a private method of a class that the tables say can be made, by its rows of tables_1 -/
def lw_okq (q : MethodName × Nat) : Prop := (q.1.cls ≠ "java/lang/invoke/MethodHandle" ∧ q.1.cls ≠ "java/lang/invoke/VarHandle") ∧ Cond.instantiable q.1.cls q.2 ∈ tables_1 ∧ Cond.privateMethod q.1 ∈ tables_1 ∧ Cond.instanceMethod q.1 ∈ tables_1
theorem lw_p0 : lw_okq (⟨"CodedGroups$Sender", "frameGroups", "()I"⟩, 4) := ⟨⟨by decide +kernel, by decide +kernel⟩, List.mem_of_getElem? (i := 36) (by decide +kernel), List.mem_of_getElem? (i := 261) (by decide +kernel), List.mem_of_getElem? (i := 262) (by decide +kernel)⟩
theorem lw_p1 : lw_okq (⟨"CodedGroups$Line", "has", "(I)Z"⟩, 2) := ⟨⟨by decide +kernel, by decide +kernel⟩, List.mem_of_getElem? (i := 21) (by decide +kernel), List.mem_of_getElem? (i := 278) (by decide +kernel), List.mem_of_getElem? (i := 279) (by decide +kernel)⟩
theorem lw_p2 : lw_okq (⟨"CodedGroups$Receiver", "readGroup", "()I"⟩, 12) := ⟨⟨by decide +kernel, by decide +kernel⟩, List.mem_of_getElem? (i := 58) (by decide +kernel), List.mem_of_getElem? (i := 323) (by decide +kernel), List.mem_of_getElem? (i := 324) (by decide +kernel)⟩
theorem lw_p3 : lw_okq (⟨"CodedGroups$Receiver", "laterGroup", "(IZ)V"⟩, 12) := ⟨⟨by decide +kernel, by decide +kernel⟩, List.mem_of_getElem? (i := 58) (by decide +kernel), List.mem_of_getElem? (i := 337) (by decide +kernel), List.mem_of_getElem? (i := 338) (by decide +kernel)⟩
theorem lw_p4 : lw_okq (⟨"CodedGroups$Receiver", "climb", "(ZZ)V"⟩, 12) := ⟨⟨by decide +kernel, by decide +kernel⟩, List.mem_of_getElem? (i := 58) (by decide +kernel), List.mem_of_getElem? (i := 341) (by decide +kernel), List.mem_of_getElem? (i := 342) (by decide +kernel)⟩
theorem lw_p5 : lw_okq (⟨"CodedGroups$Receiver", "searchAgain", "()V"⟩, 12) := ⟨⟨by decide +kernel, by decide +kernel⟩, List.mem_of_getElem? (i := 58) (by decide +kernel), List.mem_of_getElem? (i := 345) (by decide +kernel), List.mem_of_getElem? (i := 346) (by decide +kernel)⟩
theorem lw_p6 : lw_okq (⟨"CodedGroups$FrameShelf", "finish", "(Z)V"⟩, 9) := ⟨⟨by decide +kernel, by decide +kernel⟩, List.mem_of_getElem? (i := 84) (by decide +kernel), List.mem_of_getElem? (i := 353) (by decide +kernel), List.mem_of_getElem? (i := 354) (by decide +kernel)⟩
theorem lw_p7 : lw_okq (⟨"CodedGroups$FrameShelf", "begin", "()V"⟩, 9) := ⟨⟨by decide +kernel, by decide +kernel⟩, List.mem_of_getElem? (i := 84) (by decide +kernel), List.mem_of_getElem? (i := 367) (by decide +kernel), List.mem_of_getElem? (i := 368) (by decide +kernel)⟩
theorem lw_p8 : lw_okq (⟨"CodedGroups$FrameShelf", "lookInside", "(I)V"⟩, 9) := ⟨⟨by decide +kernel, by decide +kernel⟩, List.mem_of_getElem? (i := 84) (by decide +kernel), List.mem_of_getElem? (i := 371) (by decide +kernel), List.mem_of_getElem? (i := 372) (by decide +kernel)⟩
theorem lw_p9 : lw_okq (⟨"CodedGroups$FrameShelf", "addByte", "(I)V"⟩, 9) := ⟨⟨by decide +kernel, by decide +kernel⟩, List.mem_of_getElem? (i := 84) (by decide +kernel), List.mem_of_getElem? (i := 375) (by decide +kernel), List.mem_of_getElem? (i := 376) (by decide +kernel)⟩
theorem lw_p10 : lw_okq (⟨"CodedGroups$Receiver", "weigh", "(Z)V"⟩, 12) := ⟨⟨by decide +kernel, by decide +kernel⟩, List.mem_of_getElem? (i := 58) (by decide +kernel), List.mem_of_getElem? (i := 379) (by decide +kernel), List.mem_of_getElem? (i := 380) (by decide +kernel)⟩
theorem lw_p11 : lw_okq (⟨"CodedGroups$Receiver", "firstGroup", "(I)V"⟩, 12) := ⟨⟨by decide +kernel, by decide +kernel⟩, List.mem_of_getElem? (i := 58) (by decide +kernel), List.mem_of_getElem? (i := 387) (by decide +kernel), List.mem_of_getElem? (i := 388) (by decide +kernel)⟩
theorem lw_p12 : lw_okq (⟨"CodedGroups$FrameShelf", "has", "(I)Z"⟩, 9) := ⟨⟨by decide +kernel, by decide +kernel⟩, List.mem_of_getElem? (i := 84) (by decide +kernel), List.mem_of_getElem? (i := 419) (by decide +kernel), List.mem_of_getElem? (i := 420) (by decide +kernel)⟩
theorem lw_p13 : lw_okq (⟨"CodedGroups$FrameShelf", "slotOf", "(I)I"⟩, 9) := ⟨⟨by decide +kernel, by decide +kernel⟩, List.mem_of_getElem? (i := 84) (by decide +kernel), List.mem_of_getElem? (i := 423) (by decide +kernel), List.mem_of_getElem? (i := 424) (by decide +kernel)⟩
theorem lw_p14 : lw_okq (⟨"CodedGroupsModel", "groupOf", "(IZI)I"⟩, 32) := ⟨⟨by decide +kernel, by decide +kernel⟩, List.mem_of_getElem? (i := 456) (by decide +kernel), List.mem_of_getElem? (i := 563) (by decide +kernel), List.mem_of_getElem? (i := 564) (by decide +kernel)⟩
theorem lw_p15 : lw_okq (⟨"CodedGroupsModel", "takeBit", "(I)V"⟩, 32) := ⟨⟨by decide +kernel, by decide +kernel⟩, List.mem_of_getElem? (i := 456) (by decide +kernel), List.mem_of_getElem? (i := 627) (by decide +kernel), List.mem_of_getElem? (i := 628) (by decide +kernel)⟩
def lw_privs_1 : List (MethodName × Nat) := [(⟨"CodedGroups$Sender", "frameGroups", "()I"⟩, 4), (⟨"CodedGroups$Line", "has", "(I)Z"⟩, 2), (⟨"CodedGroups$Receiver", "readGroup", "()I"⟩, 12), (⟨"CodedGroups$Receiver", "laterGroup", "(IZ)V"⟩, 12), (⟨"CodedGroups$Receiver", "climb", "(ZZ)V"⟩, 12), (⟨"CodedGroups$Receiver", "searchAgain", "()V"⟩, 12), (⟨"CodedGroups$FrameShelf", "finish", "(Z)V"⟩, 9), (⟨"CodedGroups$FrameShelf", "begin", "()V"⟩, 9), (⟨"CodedGroups$FrameShelf", "lookInside", "(I)V"⟩, 9), (⟨"CodedGroups$FrameShelf", "addByte", "(I)V"⟩, 9), (⟨"CodedGroups$Receiver", "weigh", "(Z)V"⟩, 12), (⟨"CodedGroups$Receiver", "firstGroup", "(I)V"⟩, 12), (⟨"CodedGroups$FrameShelf", "has", "(I)Z"⟩, 9), (⟨"CodedGroups$FrameShelf", "slotOf", "(I)I"⟩, 9), (⟨"CodedGroupsModel", "groupOf", "(IZI)I"⟩, 32), (⟨"CodedGroupsModel", "takeBit", "(I)V"⟩, 32)]
theorem lw_r1 : ∀ q ∈ lw_privs_1, lw_okq q := List.forall_mem_cons.mpr ⟨lw_p0, List.forall_mem_cons.mpr ⟨lw_p1, List.forall_mem_cons.mpr ⟨lw_p2, List.forall_mem_cons.mpr ⟨lw_p3, List.forall_mem_cons.mpr ⟨lw_p4, List.forall_mem_cons.mpr ⟨lw_p5, List.forall_mem_cons.mpr ⟨lw_p6, List.forall_mem_cons.mpr ⟨lw_p7, List.forall_mem_cons.mpr ⟨lw_p8, List.forall_mem_cons.mpr ⟨lw_p9, List.forall_mem_cons.mpr ⟨lw_p10, List.forall_mem_cons.mpr ⟨lw_p11, List.forall_mem_cons.mpr ⟨lw_p12, List.forall_mem_cons.mpr ⟨lw_p13, List.forall_mem_cons.mpr ⟨lw_p14, List.forall_mem_cons.mpr ⟨lw_p15, fun _ h => absurd h List.not_mem_nil⟩⟩⟩⟩⟩⟩⟩⟩⟩⟩⟩⟩⟩⟩⟩⟩
theorem lw_p16 : lw_okq (⟨"CodedGroupsModel", "takeGroup", "(Z)V"⟩, 32) := ⟨⟨by decide +kernel, by decide +kernel⟩, List.mem_of_getElem? (i := 456) (by decide +kernel), List.mem_of_getElem? (i := 634) (by decide +kernel), List.mem_of_getElem? (i := 635) (by decide +kernel)⟩
theorem lw_p17 : lw_okq (⟨"CodedGroupsModel", "searchAgain", "()V"⟩, 32) := ⟨⟨by decide +kernel, by decide +kernel⟩, List.mem_of_getElem? (i := 456) (by decide +kernel), List.mem_of_getElem? (i := 639) (by decide +kernel), List.mem_of_getElem? (i := 640) (by decide +kernel)⟩
theorem lw_p18 : lw_okq (⟨"CodedGroupsModel", "end", "(Z)V"⟩, 32) := ⟨⟨by decide +kernel, by decide +kernel⟩, List.mem_of_getElem? (i := 456) (by decide +kernel), List.mem_of_getElem? (i := 643) (by decide +kernel), List.mem_of_getElem? (i := 644) (by decide +kernel)⟩
theorem lw_p19 : lw_okq (⟨"CodedGroupsModel", "receive", "(I)V"⟩, 32) := ⟨⟨by decide +kernel, by decide +kernel⟩, List.mem_of_getElem? (i := 456) (by decide +kernel), List.mem_of_getElem? (i := 647) (by decide +kernel), List.mem_of_getElem? (i := 648) (by decide +kernel)⟩
theorem lw_p20 : lw_okq (⟨"CodedGroupsModel", "isFrame", "(I)Z"⟩, 32) := ⟨⟨by decide +kernel, by decide +kernel⟩, List.mem_of_getElem? (i := 456) (by decide +kernel), List.mem_of_getElem? (i := 667) (by decide +kernel), List.mem_of_getElem? (i := 668) (by decide +kernel)⟩
def lw_privs_2 : List (MethodName × Nat) := [(⟨"CodedGroupsModel", "takeGroup", "(Z)V"⟩, 32), (⟨"CodedGroupsModel", "searchAgain", "()V"⟩, 32), (⟨"CodedGroupsModel", "end", "(Z)V"⟩, 32), (⟨"CodedGroupsModel", "receive", "(I)V"⟩, 32), (⟨"CodedGroupsModel", "isFrame", "(I)Z"⟩, 32)]
theorem lw_r2 : ∀ q ∈ lw_privs_2, lw_okq q := List.forall_mem_cons.mpr ⟨lw_p16, List.forall_mem_cons.mpr ⟨lw_p17, List.forall_mem_cons.mpr ⟨lw_p18, List.forall_mem_cons.mpr ⟨lw_p19, List.forall_mem_cons.mpr ⟨lw_p20, fun _ h => absurd h List.not_mem_nil⟩⟩⟩⟩⟩
def lw_privs : List (MethodName × Nat) := lw_privs_1 ++ (lw_privs_2)
def lw_tbl : List Cond := k2_sels lw_privs ++ tables_1
theorem lw_privs_ok : ∀ q ∈ lw_privs, lw_okq q := by
  show ∀ q ∈ lw_privs_1 ++ (lw_privs_2), lw_okq q
  exact List.forall_mem_append.mpr ⟨lw_r1, lw_r2⟩
-- ===== end of PART A; then your names; then what follows =====
end
section
/-! ===== BEGIN words of one list among another's, by their places ===== -/
theorem goodIn_r {big : List Cond} (ws : List Cond) (ps : List Nat) (hp : ws = ps.filterMap (fun i => big[i]?)) (h : ws.all goodWord = true) : GoodIn big ws := by
  intro w hw
  have h1 := List.all_eq_true.mp h w hw
  rw [hp] at hw
  obtain ⟨i, -, hi⟩ := List.mem_filterMap.mp hw
  have hm : w ∈ big := by first | exact List.mem_of_getElem? hi | exact List.getElem?_mem hi
  exact ⟨hm, good_of_word h1⟩
theorem goodIn_app {big a b : List Cond} (ha : GoodIn big a) (hb : GoodIn big b) : GoodIn big (a ++ b) := fun w h => (List.mem_append.mp h).elim (ha w) (hb w)
theorem goodIn_ca {big a b : List Cond} {c : Cond} (ha : GoodIn big (c :: a)) (hb : GoodIn big b) : GoodIn big (c :: (a ++ b)) := fun w h => (List.mem_cons.mp h).elim (fun e => ha w (List.mem_cons.mpr (Or.inl e))) (fun h => (List.mem_append.mp h).elim (fun h => ha w (List.mem_cons.mpr (Or.inr h))) (hb w))
theorem goodIn_sub {big ws : List Cond} (hm : ∀ w ∈ ws, w ∈ big) (h : ws.all goodWord = true) : GoodIn big ws := fun w hw => ⟨hm w hw, good_of_word (List.all_eq_true.mp h w hw)⟩
/-! ===== END ===== -/

/-! ===== BEGIN printed: names, fields, word lists, decode rows ===== -/
def RX0 : String := "CodedGroups$Code"
def TX0 : u_T := fun k => match k with
  | _ => ("", "", "", false)
def tyX0 : Nat → FieldType := fun k => match k with
  | _ => .int
abbrev wsX00 : List Cond := u_ws RX0 TX0 0
theorem nmX0 : ∀ a, a < 0 → ∀ b, b < 0 → a ≠ b → (TX0 a).2.1 ≠ (TX0 b).2.1 := by decide +kernel
theorem tyX0_ok : ∀ k, k < 0 → parseFieldDescriptor (TX0 k).2.2.1 = some (tyX0 k) := by decide +kernel
abbrev cX0_isSymbol : ByteArray := prog_2_method_2_code
def yX0_isSymbol : MethodName := ⟨RX0, "isSymbol", "(IZ)Z"⟩
abbrev cX0_isSign : ByteArray := prog_2_method_3_code
def yX0_isSign : MethodName := ⟨RX0, "isSign", "(II)Z"⟩
abbrev cX0_groupOf : ByteArray := prog_2_method_4_code
def yX0_groupOf : MethodName := ⟨RX0, "groupOf", "(IZI)I"⟩
abbrev cX0_sixOf : ByteArray := prog_2_method_5_code
def yX0_sixOf : MethodName := ⟨RX0, "sixOf", "(IZI)I"⟩
abbrev cX0_fourOf : ByteArray := prog_2_method_6_code
def yX0_fourOf : MethodName := ⟨RX0, "fourOf", "(IIZI)I"⟩
abbrev cX0_behindSix : ByteArray := prog_2_method_7_code
def yX0_behindSix : MethodName := ⟨RX0, "behindSix", "(II)I"⟩
abbrev cX0_behindFour : ByteArray := prog_2_method_8_code
def yX0_behindFour : MethodName := ⟨RX0, "behindFour", "(II)I"⟩
abbrev cX0_behindGroup : ByteArray := prog_2_method_9_code
def yX0_behindGroup : MethodName := ⟨RX0, "behindGroup", "(II)I"⟩
abbrev cX0_isComma : ByteArray := prog_2_method_10_code
def yX0_isComma : MethodName := ⟨RX0, "isComma", "(I)Z"⟩
abbrev cX0_leanBeforeComma : ByteArray := prog_2_method_11_code
def yX0_leanBeforeComma : MethodName := ⟨RX0, "leanBeforeComma", "(I)I"⟩
abbrev cX0_symbolOf : ByteArray := prog_2_method_12_code
def yX0_symbolOf : MethodName := ⟨RX0, "symbolOf", "(II)I"⟩
abbrev cX0_byteOfGroup : ByteArray := prog_2_method_13_code
def yX0_byteOfGroup : MethodName := ⟨RX0, "byteOfGroup", "(IZI)I"⟩
abbrev cX0_highPart : ByteArray := prog_2_method_14_code
def yX0_highPart : MethodName := ⟨RX0, "highPart", "(IIZI)I"⟩
def RX1 : String := "CodedGroups$FrameShelf"
def TX1 : u_T := fun k => match k with
  | 0 => ("CodedGroups$FrameShelf", "words", "[I", true)
  | 1 => ("CodedGroups$FrameShelf", "lengths", "[I", true)
  | 2 => ("CodedGroups$FrameShelf", "wholes", "[Z", true)
  | 3 => ("CodedGroups$FrameShelf", "slot", "I", false)
  | 4 => ("CodedGroups$FrameShelf", "kept", "I", false)
  | 5 => ("CodedGroups$FrameShelf", "state", "I", false)
  | 6 => ("CodedGroups$FrameShelf", "broken", "Z", false)
  | 7 => ("CodedGroups$FrameShelf", "ended", "I", false)
  | _ => ("CodedGroups$FrameShelf", "endedWhole", "I", false)
def tyX1 : Nat → FieldType := fun k => match k with
  | 0 => .array .int
  | 1 => .array .int
  | 2 => .array .boolean
  | 3 => .int
  | 4 => .int
  | 5 => .int
  | 6 => .boolean
  | 7 => .int
  | _ => .int
abbrev wsX10 : List Cond := u_ws RX1 TX1 9
theorem nmX1 : ∀ a, a < 9 → ∀ b, b < 9 → a ≠ b → (TX1 a).2.1 ≠ (TX1 b).2.1 := by decide +kernel
theorem tyX1_ok : ∀ k, k < 9 → parseFieldDescriptor (TX1 k).2.2.1 = some (tyX1 k) := by decide +kernel
abbrev cX1_init : ByteArray := prog_3_method_1_code
def yX1_init : MethodName := ⟨RX1, "<init>", "()V"⟩
abbrev cX1_look : ByteArray := prog_3_method_2_code
def yX1_look : MethodName := ⟨RX1, "look", "(I)V"⟩
abbrev cX1_lookInside : ByteArray := prog_3_method_3_code
def yX1_lookInside : MethodName := ⟨RX1, "lookInside", "(I)V"⟩
abbrev cX1_lose : ByteArray := prog_3_method_4_code
def yX1_lose : MethodName := ⟨RX1, "lose", "()V"⟩
abbrev cX1_begin : ByteArray := prog_3_method_5_code
def yX1_begin : MethodName := ⟨RX1, "begin", "()V"⟩
abbrev cX1_addByte : ByteArray := prog_3_method_6_code
def yX1_addByte : MethodName := ⟨RX1, "addByte", "(I)V"⟩
abbrev cX1_finish : ByteArray := prog_3_method_7_code
def yX1_finish : MethodName := ⟨RX1, "finish", "(Z)V"⟩
abbrev cX1_slotOf : ByteArray := prog_3_method_8_code
def yX1_slotOf : MethodName := ⟨RX1, "slotOf", "(I)I"⟩
abbrev cX1_has : ByteArray := prog_3_method_9_code
def yX1_has : MethodName := ⟨RX1, "has", "(I)Z"⟩
abbrev cX1_lengthOf : ByteArray := prog_3_method_10_code
def yX1_lengthOf : MethodName := ⟨RX1, "lengthOf", "(I)I"⟩
abbrev cX1_isWhole : ByteArray := prog_3_method_11_code
def yX1_isWhole : MethodName := ⟨RX1, "isWhole", "(I)Z"⟩
abbrev cX1_byteOf : ByteArray := prog_3_method_12_code
def yX1_byteOf : MethodName := ⟨RX1, "byteOf", "(II)I"⟩
def RX2 : String := "CodedGroups$Line"
def TX2 : u_T := fun k => match k with
  | 0 => ("CodedGroups$Line", "bits", "[B", true)
  | _ => ("CodedGroups$Line", "held", "I", false)
def tyX2 : Nat → FieldType := fun k => match k with
  | 0 => .array .byte
  | _ => .int
abbrev wsX20 : List Cond := u_ws RX2 TX2 2
theorem nmX2 : ∀ a, a < 2 → ∀ b, b < 2 → a ≠ b → (TX2 a).2.1 ≠ (TX2 b).2.1 := by decide +kernel
theorem tyX2_ok : ∀ k, k < 2 → parseFieldDescriptor (TX2 k).2.2.1 = some (tyX2 k) := by decide +kernel
abbrev cX2_init : ByteArray := prog_4_method_1_code
def yX2_init : MethodName := ⟨RX2, "<init>", "()V"⟩
abbrev cX2_hasRoomFor : ByteArray := prog_4_method_2_code
def yX2_hasRoomFor : MethodName := ⟨RX2, "hasRoomFor", "(I)Z"⟩
abbrev cX2_append : ByteArray := prog_4_method_3_code
def yX2_append : MethodName := ⟨RX2, "append", "(I)Z"⟩
abbrev cX2_has : ByteArray := prog_4_method_4_code
def yX2_has : MethodName := ⟨RX2, "has", "(I)Z"⟩
abbrev cX2_get : ByteArray := prog_4_method_5_code
def yX2_get : MethodName := ⟨RX2, "get", "(I)I"⟩
abbrev cX2_flip : ByteArray := prog_4_method_6_code
def yX2_flip : MethodName := ⟨RX2, "flip", "(I)Z"⟩
abbrev cX2_leaveOut : ByteArray := prog_4_method_7_code
def yX2_leaveOut : MethodName := ⟨RX2, "leaveOut", "(I)Z"⟩
abbrev cX2_cutFront : ByteArray := prog_4_method_8_code
def yX2_cutFront : MethodName := ⟨RX2, "cutFront", "(I)V"⟩
def RX3 : String := "CodedGroups$Receiver"
def TX3 : u_T := fun k => match k with
  | 0 => ("CodedGroups$Receiver", "log", "LCodedGroups$SymbolLog;", true)
  | 1 => ("CodedGroups$Receiver", "shelf", "LCodedGroups$FrameShelf;", true)
  | 2 => ("CodedGroups$Receiver", "window", "I", false)
  | 3 => ("CodedGroups$Receiver", "windowBits", "I", false)
  | 4 => ("CodedGroups$Receiver", "even", "Z", false)
  | 5 => ("CodedGroups$Receiver", "lean", "I", false)
  | 6 => ("CodedGroups$Receiver", "rank", "I", false)
  | 7 => ("CodedGroups$Receiver", "faith", "I", false)
  | 8 => ("CodedGroups$Receiver", "goodInRow", "I", false)
  | 9 => ("CodedGroups$Receiver", "groups", "I", false)
  | 10 => ("CodedGroups$Receiver", "badGroups", "I", false)
  | _ => ("CodedGroups$Receiver", "searches", "I", false)
def tyX3 : Nat → FieldType := fun k => match k with
  | 0 => .object "CodedGroups$SymbolLog"
  | 1 => .object "CodedGroups$FrameShelf"
  | 2 => .int
  | 3 => .int
  | 4 => .boolean
  | 5 => .int
  | 6 => .int
  | 7 => .int
  | 8 => .int
  | 9 => .int
  | 10 => .int
  | _ => .int
abbrev wsX30 : List Cond := u_ws RX3 TX3 12
theorem nmX3 : ∀ a, a < 12 → ∀ b, b < 12 → a ≠ b → (TX3 a).2.1 ≠ (TX3 b).2.1 := by decide +kernel
theorem tyX3_ok : ∀ k, k < 12 → parseFieldDescriptor (TX3 k).2.2.1 = some (tyX3 k) := by decide +kernel
abbrev cX3_init : ByteArray := prog_5_method_1_code
def yX3_init : MethodName := ⟨RX3, "<init>", "()V"⟩
abbrev cX3_accept : ByteArray := prog_5_method_2_code
def yX3_accept : MethodName := ⟨RX3, "accept", "(I)V"⟩
abbrev cX3_firstGroup : ByteArray := prog_5_method_3_code
def yX3_firstGroup : MethodName := ⟨RX3, "firstGroup", "(I)V"⟩
abbrev cX3_laterGroup : ByteArray := prog_5_method_4_code
def yX3_laterGroup : MethodName := ⟨RX3, "laterGroup", "(IZ)V"⟩
abbrev cX3_readGroup : ByteArray := prog_5_method_5_code
def yX3_readGroup : MethodName := ⟨RX3, "readGroup", "()I"⟩
abbrev cX3_climb : ByteArray := prog_5_method_6_code
def yX3_climb : MethodName := ⟨RX3, "climb", "(ZZ)V"⟩
abbrev cX3_weigh : ByteArray := prog_5_method_7_code
def yX3_weigh : MethodName := ⟨RX3, "weigh", "(Z)V"⟩
abbrev cX3_searchAgain : ByteArray := prog_5_method_8_code
def yX3_searchAgain : MethodName := ⟨RX3, "searchAgain", "()V"⟩
def RX4 : String := "CodedGroups$Sender"
def TX4 : u_T := fun k => match k with
  | 0 => ("CodedGroups$Sender", "tape", "[I", true)
  | 1 => ("CodedGroups$Sender", "taped", "I", false)
  | 2 => ("CodedGroups$Sender", "lean", "I", false)
  | _ => ("CodedGroups$Sender", "sent", "I", false)
def tyX4 : Nat → FieldType := fun k => match k with
  | 0 => .array .int
  | 1 => .int
  | 2 => .int
  | _ => .int
abbrev wsX40 : List Cond := u_ws RX4 TX4 4
theorem nmX4 : ∀ a, a < 4 → ∀ b, b < 4 → a ≠ b → (TX4 a).2.1 ≠ (TX4 b).2.1 := by decide +kernel
theorem tyX4_ok : ∀ k, k < 4 → parseFieldDescriptor (TX4 k).2.2.1 = some (tyX4 k) := by decide +kernel
abbrev cX4_init : ByteArray := prog_6_method_1_code
def yX4_init : MethodName := ⟨RX4, "<init>", "()V"⟩
abbrev cX4_put : ByteArray := prog_6_method_2_code
def yX4_put : MethodName := ⟨RX4, "put", "(IZLCodedGroups$Line;)I"⟩
abbrev cX4_putIdle : ByteArray := prog_6_method_3_code
def yX4_putIdle : MethodName := ⟨RX4, "putIdle", "(LCodedGroups$Line;)Z"⟩
abbrev cX4_keepOnTape : ByteArray := prog_6_method_4_code
def yX4_keepOnTape : MethodName := ⟨RX4, "keepOnTape", "(I)Z"⟩
abbrev cX4_putFrame : ByteArray := prog_6_method_5_code
def yX4_putFrame : MethodName := ⟨RX4, "putFrame", "(LCodedGroups$Line;)I"⟩
abbrev cX4_frameGroups : ByteArray := prog_6_method_6_code
def yX4_frameGroups : MethodName := ⟨RX4, "frameGroups", "()I"⟩
def RX5 : String := "CodedGroups$SymbolLog"
def TX5 : u_T := fun k => match k with
  | 0 => ("CodedGroups$SymbolLog", "row", "[I", true)
  | 1 => ("CodedGroups$SymbolLog", "next", "I", false)
  | 2 => ("CodedGroups$SymbolLog", "kept", "I", false)
  | _ => ("CodedGroups$SymbolLog", "received", "I", false)
def tyX5 : Nat → FieldType := fun k => match k with
  | 0 => .array .int
  | 1 => .int
  | 2 => .int
  | _ => .int
abbrev wsX50 : List Cond := u_ws RX5 TX5 4
theorem nmX5 : ∀ a, a < 4 → ∀ b, b < 4 → a ≠ b → (TX5 a).2.1 ≠ (TX5 b).2.1 := by decide +kernel
theorem tyX5_ok : ∀ k, k < 4 → parseFieldDescriptor (TX5 k).2.2.1 = some (tyX5 k) := by decide +kernel
abbrev cX5_init : ByteArray := prog_7_method_1_code
def yX5_init : MethodName := ⟨RX5, "<init>", "()V"⟩
abbrev cX5_keep : ByteArray := prog_7_method_2_code
def yX5_keep : MethodName := ⟨RX5, "keep", "(I)V"⟩
abbrev cX5_latest : ByteArray := prog_7_method_3_code
def yX5_latest : MethodName := ⟨RX5, "latest", "(I)I"⟩
def RX6 : String := "CodedGroups"
def TX6 : u_T := fun k => match k with
  | 0 => ("CodedGroups", "wire", "LCodedGroups$Line;", true)
  | 1 => ("CodedGroups", "sender", "LCodedGroups$Sender;", true)
  | _ => ("CodedGroups", "receiver", "LCodedGroups$Receiver;", true)
def tyX6 : Nat → FieldType := fun k => match k with
  | 0 => .object "CodedGroups$Line"
  | 1 => .object "CodedGroups$Sender"
  | _ => .object "CodedGroups$Receiver"
abbrev wsX60 : List Cond := u_ws RX6 TX6 3
theorem nmX6 : ∀ a, a < 3 → ∀ b, b < 3 → a ≠ b → (TX6 a).2.1 ≠ (TX6 b).2.1 := by decide +kernel
theorem tyX6_ok : ∀ k, k < 3 → parseFieldDescriptor (TX6 k).2.2.1 = some (tyX6 k) := by decide +kernel
abbrev cX6_init : ByteArray := prog_1_method_1_code
def yX6_init : MethodName := ⟨RX6, "<init>", "()V"⟩
abbrev cX6_send : ByteArray := prog_1_method_2_code
def yX6_send : MethodName := ⟨RX6, "send", "(IZ)I"⟩
abbrev cX6_idle : ByteArray := prog_1_method_3_code
def yX6_idle : MethodName := ⟨RX6, "idle", "()Z"⟩
abbrev cX6_feed : ByteArray := prog_1_method_4_code
def yX6_feed : MethodName := ⟨RX6, "feed", "(I)Z"⟩
abbrev cX6_frame : ByteArray := prog_1_method_5_code
def yX6_frame : MethodName := ⟨RX6, "frame", "()I"⟩
abbrev cX6_bit : ByteArray := prog_1_method_6_code
def yX6_bit : MethodName := ⟨RX6, "bit", "(I)Z"⟩
abbrev cX6_turn : ByteArray := prog_1_method_7_code
def yX6_turn : MethodName := ⟨RX6, "turn", "(I)Z"⟩
abbrev cX6_drop : ByteArray := prog_1_method_8_code
def yX6_drop : MethodName := ⟨RX6, "drop", "(I)Z"⟩
abbrev cX6_line : ByteArray := prog_1_method_9_code
def yX6_line : MethodName := ⟨RX6, "line", "(I)I"⟩
abbrev cX6_size : ByteArray := prog_1_method_10_code
def yX6_size : MethodName := ⟨RX6, "size", "()I"⟩
abbrev cX6_disparity : ByteArray := prog_1_method_11_code
def yX6_disparity : MethodName := ⟨RX6, "disparity", "(I)I"⟩
abbrev cX6_take : ByteArray := prog_1_method_12_code
def yX6_take : MethodName := ⟨RX6, "take", "(I)I"⟩
abbrev cX6_level : ByteArray := prog_1_method_13_code
def yX6_level : MethodName := ⟨RX6, "level", "()I"⟩
abbrev cX6_trust : ByteArray := prog_1_method_14_code
def yX6_trust : MethodName := ⟨RX6, "trust", "()I"⟩
abbrev cX6_symbol : ByteArray := prog_1_method_15_code
def yX6_symbol : MethodName := ⟨RX6, "symbol", "(I)I"⟩
abbrev cX6_length : ByteArray := prog_1_method_16_code
def yX6_length : MethodName := ⟨RX6, "length", "(I)I"⟩
abbrev cX6_whole : ByteArray := prog_1_method_17_code
def yX6_whole : MethodName := ⟨RX6, "whole", "(I)Z"⟩
abbrev cX6_at : ByteArray := prog_1_method_18_code
def yX6_at : MethodName := ⟨RX6, "at", "(II)I"⟩
abbrev cX6_decode : ByteArray := prog_1_method_19_code
def yX6_decode : MethodName := ⟨RX6, "decode", "(II)I"⟩
abbrev cX6_count : ByteArray := prog_1_method_20_code
def yX6_count : MethodName := ⟨RX6, "count", "(I)I"⟩
def RX7 : String := "CodedGroupsModel"
def TX7 : u_T := fun k => match k with
  | 0 => ("CodedGroupsModel", "six", "[I", true)
  | 1 => ("CodedGroupsModel", "four", "[I", true)
  | 2 => ("CodedGroupsModel", "signFour", "[I", true)
  | 3 => ("CodedGroupsModel", "line", "[B", true)
  | 4 => ("CodedGroupsModel", "size", "I", false)
  | 5 => ("CodedGroupsModel", "tape", "[B", true)
  | 6 => ("CodedGroupsModel", "tapeSize", "I", false)
  | 7 => ("CodedGroupsModel", "sendingDisparity", "I", false)
  | 8 => ("CodedGroupsModel", "sent", "I", false)
  | 9 => ("CodedGroupsModel", "disparity", "I", false)
  | 10 => ("CodedGroupsModel", "level", "I", false)
  | 11 => ("CodedGroupsModel", "trust", "I", false)
  | 12 => ("CodedGroupsModel", "goodRow", "I", false)
  | 13 => ("CodedGroupsModel", "bitsIn", "I", false)
  | 14 => ("CodedGroupsModel", "group", "I", false)
  | 15 => ("CodedGroupsModel", "isOdd", "Z", false)
  | 16 => ("CodedGroupsModel", "groups", "I", false)
  | 17 => ("CodedGroupsModel", "badGroups", "I", false)
  | 18 => ("CodedGroupsModel", "searches", "I", false)
  | 19 => ("CodedGroupsModel", "received", "I", false)
  | 20 => ("CodedGroupsModel", "latest", "[I", true)
  | 21 => ("CodedGroupsModel", "isOpen", "Z", false)
  | 22 => ("CodedGroupsModel", "isBroken", "Z", false)
  | 23 => ("CodedGroupsModel", "isClosed", "Z", false)
  | 24 => ("CodedGroupsModel", "openSize", "I", false)
  | 25 => ("CodedGroupsModel", "open", "[B", true)
  | 26 => ("CodedGroupsModel", "kept", "I", false)
  | 27 => ("CodedGroupsModel", "lengths", "[I", true)
  | 28 => ("CodedGroupsModel", "isWhole", "[Z", true)
  | 29 => ("CodedGroupsModel", "frames", "[B", true)
  | 30 => ("CodedGroupsModel", "ended", "I", false)
  | _ => ("CodedGroupsModel", "wholes", "I", false)
def tyX7 : Nat → FieldType := fun k => match k with
  | 0 => .array .int
  | 1 => .array .int
  | 2 => .array .int
  | 3 => .array .byte
  | 4 => .int
  | 5 => .array .byte
  | 6 => .int
  | 7 => .int
  | 8 => .int
  | 9 => .int
  | 10 => .int
  | 11 => .int
  | 12 => .int
  | 13 => .int
  | 14 => .int
  | 15 => .boolean
  | 16 => .int
  | 17 => .int
  | 18 => .int
  | 19 => .int
  | 20 => .array .int
  | 21 => .boolean
  | 22 => .boolean
  | 23 => .boolean
  | 24 => .int
  | 25 => .array .byte
  | 26 => .int
  | 27 => .array .int
  | 28 => .array .boolean
  | 29 => .array .byte
  | 30 => .int
  | _ => .int
abbrev wsX70 : List Cond := u_ws RX7 TX7 32
theorem nmX7 : ∀ a, a < 32 → ∀ b, b < 32 → a ≠ b → (TX7 a).2.1 ≠ (TX7 b).2.1 := by decide +kernel
theorem tyX7_ok : ∀ k, k < 32 → parseFieldDescriptor (TX7 k).2.2.1 = some (tyX7 k) := by decide +kernel
abbrev cX7_init : ByteArray := prog_9_method_1_code
def yX7_init : MethodName := ⟨RX7, "<init>", "()V"⟩
abbrev cX7_form : ByteArray := prog_9_method_3_code
def yX7_form : MethodName := ⟨RX7, "form", "([III)I"⟩
abbrev cX7_ones : ByteArray := prog_9_method_4_code
def yX7_ones : MethodName := ⟨RX7, "ones", "(I)I"⟩
abbrev cX7_behind : ByteArray := prog_9_method_5_code
def yX7_behind : MethodName := ⟨RX7, "behind", "(III)I"⟩
abbrev cX7_isSign : ByteArray := prog_9_method_6_code
def yX7_isSign : MethodName := ⟨RX7, "isSign", "(I)Z"⟩
abbrev cX7_groupOf : ByteArray := prog_9_method_7_code
def yX7_groupOf : MethodName := ⟨RX7, "groupOf", "(IZI)I"⟩
abbrev cX7_behindGroup : ByteArray := prog_9_method_8_code
def yX7_behindGroup : MethodName := ⟨RX7, "behindGroup", "(II)I"⟩
abbrev cX7_decode : ByteArray := prog_9_method_9_code
def yX7_decode : MethodName := ⟨RX7, "decode", "(II)I"⟩
abbrev cX7_send : ByteArray := prog_9_method_10_code
def yX7_send : MethodName := ⟨RX7, "send", "(IZ)I"⟩
abbrev cX7_idle : ByteArray := prog_9_method_11_code
def yX7_idle : MethodName := ⟨RX7, "idle", "()Z"⟩
abbrev cX7_feed : ByteArray := prog_9_method_12_code
def yX7_feed : MethodName := ⟨RX7, "feed", "(I)Z"⟩
abbrev cX7_frame : ByteArray := prog_9_method_13_code
def yX7_frame : MethodName := ⟨RX7, "frame", "()I"⟩
abbrev cX7_bit : ByteArray := prog_9_method_14_code
def yX7_bit : MethodName := ⟨RX7, "bit", "(I)Z"⟩
abbrev cX7_turn : ByteArray := prog_9_method_15_code
def yX7_turn : MethodName := ⟨RX7, "turn", "(I)Z"⟩
abbrev cX7_drop : ByteArray := prog_9_method_16_code
def yX7_drop : MethodName := ⟨RX7, "drop", "(I)Z"⟩
abbrev cX7_line : ByteArray := prog_9_method_17_code
def yX7_line : MethodName := ⟨RX7, "line", "(I)I"⟩
abbrev cX7_size : ByteArray := prog_9_method_18_code
def yX7_size : MethodName := ⟨RX7, "size", "()I"⟩
abbrev cX7_disparity : ByteArray := prog_9_method_19_code
def yX7_disparity : MethodName := ⟨RX7, "disparity", "(I)I"⟩
abbrev cX7_take : ByteArray := prog_9_method_20_code
def yX7_take : MethodName := ⟨RX7, "take", "(I)I"⟩
abbrev cX7_isComma : ByteArray := prog_9_method_21_code
def yX7_isComma : MethodName := ⟨RX7, "isComma", "(I)Z"⟩
abbrev cX7_takeBit : ByteArray := prog_9_method_22_code
def yX7_takeBit : MethodName := ⟨RX7, "takeBit", "(I)V"⟩
abbrev cX7_takeGroup : ByteArray := prog_9_method_23_code
def yX7_takeGroup : MethodName := ⟨RX7, "takeGroup", "(Z)V"⟩
abbrev cX7_searchAgain : ByteArray := prog_9_method_24_code
def yX7_searchAgain : MethodName := ⟨RX7, "searchAgain", "()V"⟩
abbrev cX7_end : ByteArray := prog_9_method_25_code
def yX7_end : MethodName := ⟨RX7, "end", "(Z)V"⟩
abbrev cX7_receive : ByteArray := prog_9_method_26_code
def yX7_receive : MethodName := ⟨RX7, "receive", "(I)V"⟩
abbrev cX7_level : ByteArray := prog_9_method_27_code
def yX7_level : MethodName := ⟨RX7, "level", "()I"⟩
abbrev cX7_trust : ByteArray := prog_9_method_28_code
def yX7_trust : MethodName := ⟨RX7, "trust", "()I"⟩
abbrev cX7_symbol : ByteArray := prog_9_method_29_code
def yX7_symbol : MethodName := ⟨RX7, "symbol", "(I)I"⟩
abbrev cX7_isFrame : ByteArray := prog_9_method_30_code
def yX7_isFrame : MethodName := ⟨RX7, "isFrame", "(I)Z"⟩
abbrev cX7_length : ByteArray := prog_9_method_31_code
def yX7_length : MethodName := ⟨RX7, "length", "(I)I"⟩
abbrev cX7_whole : ByteArray := prog_9_method_32_code
def yX7_whole : MethodName := ⟨RX7, "whole", "(I)Z"⟩
abbrev cX7_at : ByteArray := prog_9_method_33_code
def yX7_at : MethodName := ⟨RX7, "at", "(II)I"⟩
abbrev cX7_count : ByteArray := prog_9_method_34_code
def yX7_count : MethodName := ⟨RX7, "count", "(I)I"⟩
def RJ6 : String := "java/lang/Integer"
def TJ6 : u_T := fun k => match k with
  | _ => ("", "", "", false)
def tyJ6 : Nat → FieldType := fun k => match k with
  | _ => .int
abbrev wsJ60 : List Cond := u_ws RJ6 TJ6 0
theorem nmJ6 : ∀ a, a < 0 → ∀ b, b < 0 → a ≠ b → (TJ6 a).2.1 ≠ (TJ6 b).2.1 := by decide +kernel
theorem tyJ6_ok : ∀ k, k < 0 → parseFieldDescriptor (TJ6 k).2.2.1 = some (tyJ6 k) := by decide +kernel
abbrev cJ6_bitCount_0f7a4 : ByteArray := prog_10_method_49_code
def yJ6_bitCount_0f7a4 : MethodName := ⟨RJ6, "bitCount", "(I)I"⟩
def RJ9 : String := "java/lang/Math"
def TJ9 : u_T := fun k => match k with
  | _ => ("", "", "", false)
def tyJ9 : Nat → FieldType := fun k => match k with
  | _ => .int
abbrev wsJ90 : List Cond := u_ws RJ9 TJ9 0
theorem nmJ9 : ∀ a, a < 0 → ∀ b, b < 0 → a ≠ b → (TJ9 a).2.1 ≠ (TJ9 b).2.1 := by decide +kernel
theorem tyJ9_ok : ∀ k, k < 0 → parseFieldDescriptor (TJ9 k).2.2.1 = some (tyJ9 k) := by decide +kernel
abbrev cJ9_floorMod_7cf53 : ByteArray := prog_11_method_50_code
def yJ9_floorMod_7cf53 : MethodName := ⟨RJ9, "floorMod", "(II)I"⟩
abbrev cJ9_min_7cf53 : ByteArray := prog_11_method_69_code
def yJ9_min_7cf53 : MethodName := ⟨RJ9, "min", "(II)I"⟩
def RJ10 : String := "java/lang/System"
def TJ10 : u_T := fun k => match k with
  | _ => ("", "", "", false)
def tyJ10 : Nat → FieldType := fun k => match k with
  | _ => .int
abbrev wsJ100 : List Cond := u_ws RJ10 TJ10 0
theorem nmJ10 : ∀ a, a < 0 → ∀ b, b < 0 → a ≠ b → (TJ10 a).2.1 ≠ (TJ10 b).2.1 := by decide +kernel
theorem tyJ10_ok : ∀ k, k < 0 → parseFieldDescriptor (TJ10 k).2.2.1 = some (tyJ10 k) := by decide +kernel
def RL : String := "CodedGroupsLaw"
abbrev cL_law : ByteArray := code
def yL_law : MethodName := ⟨RL, "law", "([I)Z"⟩
def wsX0_isSign : List Cond := .code yX0_isSign cX0_isSign 2 (some .boolean) :: ([])
def wsX0_isSymbol : List Cond := .code yX0_isSymbol cX0_isSymbol 2 (some .boolean) :: ([.methodLink RX0 9 yX0_isSign, .static yX0_isSign, .initialized RX0, .code yX0_isSign cX0_isSign 2 (some .boolean)])
def wsX0_sixOf : List Cond := .code yX0_sixOf cX0_sixOf 3 (some .int) :: ([.fieldLink RX0 27 "CodedGroups$Code" "SIX_MINUS" "[I", .fieldLink RX0 31 "CodedGroups$Code" "SIX_PLUS" "[I"])
def wsJ6_bitCount_0f7a4 : List Cond := .code yJ6_bitCount_0f7a4 cJ6_bitCount_0f7a4 1 (some .int) :: ([.constant RJ6 265 (1431655765), .constant RJ6 266 (858993459), .constant RJ6 267 (252645135)])
def wsX0_behindSix : List Cond := .code yX0_behindSix cX0_behindSix 3 (some .int) :: ([.methodLink RX0 46 yJ6_bitCount_0f7a4, .static yJ6_bitCount_0f7a4, .initialized RJ6, .code yJ6_bitCount_0f7a4 cJ6_bitCount_0f7a4 1 (some .int), .constant RJ6 265 (1431655765), .constant RJ6 266 (858993459), .constant RJ6 267 (252645135)])
def wsX0_fourOf : List Cond := .code yX0_fourOf cX0_fourOf 4 (some .int) :: ([.fieldLink RX0 34 "CodedGroups$Code" "SIGN_FOUR_MINUS" "[I", .fieldLink RX0 37 "CodedGroups$Code" "SIGN_FOUR_PLUS" "[I", .fieldLink RX0 40 "CodedGroups$Code" "FOUR_MINUS" "[I", .fieldLink RX0 43 "CodedGroups$Code" "FOUR_PLUS" "[I"])
def wsX0_groupOf : List Cond := .code yX0_groupOf cX0_groupOf 6 (some .int) :: ([.methodLink RX0 15 yX0_sixOf, .static yX0_sixOf, .initialized RX0, .code yX0_sixOf cX0_sixOf 3 (some .int), .fieldLink RX0 27 "CodedGroups$Code" "SIX_MINUS" "[I", .fieldLink RX0 31 "CodedGroups$Code" "SIX_PLUS" "[I", .methodLink RX0 19 yX0_behindSix, .static yX0_behindSix, .code yX0_behindSix cX0_behindSix 3 (some .int), .methodLink RX0 46 yJ6_bitCount_0f7a4, .static yJ6_bitCount_0f7a4, .initialized RJ6, .code yJ6_bitCount_0f7a4 cJ6_bitCount_0f7a4 1 (some .int), .constant RJ6 265 (1431655765), .constant RJ6 266 (858993459), .constant RJ6 267 (252645135), .methodLink RX0 23 yX0_fourOf, .static yX0_fourOf, .code yX0_fourOf cX0_fourOf 4 (some .int), .fieldLink RX0 34 "CodedGroups$Code" "SIGN_FOUR_MINUS" "[I", .fieldLink RX0 37 "CodedGroups$Code" "SIGN_FOUR_PLUS" "[I", .fieldLink RX0 40 "CodedGroups$Code" "FOUR_MINUS" "[I", .fieldLink RX0 43 "CodedGroups$Code" "FOUR_PLUS" "[I"])
def wsX0_behindFour : List Cond := .code yX0_behindFour cX0_behindFour 3 (some .int) :: ([.methodLink RX0 46 yJ6_bitCount_0f7a4, .static yJ6_bitCount_0f7a4, .initialized RJ6, .code yJ6_bitCount_0f7a4 cJ6_bitCount_0f7a4 1 (some .int), .constant RJ6 265 (1431655765), .constant RJ6 266 (858993459), .constant RJ6 267 (252645135)])
def wsX0_behindGroup : List Cond := .code yX0_behindGroup cX0_behindGroup 2 (some .int) :: ([.methodLink RX0 19 yX0_behindSix, .static yX0_behindSix, .initialized RX0, .code yX0_behindSix cX0_behindSix 3 (some .int), .methodLink RX0 46 yJ6_bitCount_0f7a4, .static yJ6_bitCount_0f7a4, .initialized RJ6, .code yJ6_bitCount_0f7a4 cJ6_bitCount_0f7a4 1 (some .int), .constant RJ6 265 (1431655765), .constant RJ6 266 (858993459), .constant RJ6 267 (252645135), .methodLink RX0 52 yX0_behindFour, .static yX0_behindFour, .code yX0_behindFour cX0_behindFour 3 (some .int)])
def wsX0_isComma : List Cond := .code yX0_isComma cX0_isComma 2 (some .boolean) :: ([])
def wsX0_leanBeforeComma : List Cond := .code yX0_leanBeforeComma cX0_leanBeforeComma 1 (some .int) :: ([])
def wsX0_highPart : List Cond := .code yX0_highPart cX0_highPart 5 (some .int) :: ([.methodLink RX0 23 yX0_fourOf, .static yX0_fourOf, .initialized RX0, .code yX0_fourOf cX0_fourOf 4 (some .int), .fieldLink RX0 34 "CodedGroups$Code" "SIGN_FOUR_MINUS" "[I", .fieldLink RX0 37 "CodedGroups$Code" "SIGN_FOUR_PLUS" "[I", .fieldLink RX0 40 "CodedGroups$Code" "FOUR_MINUS" "[I", .fieldLink RX0 43 "CodedGroups$Code" "FOUR_PLUS" "[I", .methodLink RX0 9 yX0_isSign, .static yX0_isSign, .code yX0_isSign cX0_isSign 2 (some .boolean)])
def wsX0_byteOfGroup_r1 : List Cond := [Cond.methodLink RX0 15 yX0_sixOf, Cond.static yX0_sixOf, Cond.initialized RX0, Cond.code yX0_sixOf cX0_sixOf 3 (some .int), Cond.fieldLink RX0 27 "CodedGroups$Code" "SIX_MINUS" "[I", Cond.fieldLink RX0 31 "CodedGroups$Code" "SIX_PLUS" "[I", Cond.methodLink RX0 19 yX0_behindSix, Cond.static yX0_behindSix, Cond.code yX0_behindSix cX0_behindSix 3 (some .int), Cond.methodLink RX0 46 yJ6_bitCount_0f7a4, Cond.static yJ6_bitCount_0f7a4, Cond.initialized RJ6, Cond.code yJ6_bitCount_0f7a4 cJ6_bitCount_0f7a4 1 (some .int), Cond.constant RJ6 265 (1431655765), Cond.constant RJ6 266 (858993459), Cond.constant RJ6 267 (252645135), Cond.methodLink RX0 58 yX0_highPart, Cond.static yX0_highPart, Cond.code yX0_highPart cX0_highPart 5 (some .int), Cond.methodLink RX0 23 yX0_fourOf, Cond.static yX0_fourOf, Cond.code yX0_fourOf cX0_fourOf 4 (some .int), Cond.fieldLink RX0 34 "CodedGroups$Code" "SIGN_FOUR_MINUS" "[I", Cond.fieldLink RX0 37 "CodedGroups$Code" "SIGN_FOUR_PLUS" "[I"]
def wsX0_byteOfGroup_r2 : List Cond := [Cond.fieldLink RX0 40 "CodedGroups$Code" "FOUR_MINUS" "[I", Cond.fieldLink RX0 43 "CodedGroups$Code" "FOUR_PLUS" "[I", Cond.methodLink RX0 9 yX0_isSign, Cond.static yX0_isSign, Cond.code yX0_isSign cX0_isSign 2 (some .boolean)]
def wsX0_byteOfGroup : List Cond := .code yX0_byteOfGroup cX0_byteOfGroup 6 (some .int) :: ((wsX0_byteOfGroup_r1 ++ wsX0_byteOfGroup_r2))
def wsX0_symbolOf_r1 : List Cond := [Cond.methodLink RX0 55 yX0_byteOfGroup, Cond.static yX0_byteOfGroup, Cond.initialized RX0, Cond.code yX0_byteOfGroup cX0_byteOfGroup 6 (some .int), Cond.methodLink RX0 15 yX0_sixOf, Cond.static yX0_sixOf, Cond.code yX0_sixOf cX0_sixOf 3 (some .int), Cond.fieldLink RX0 27 "CodedGroups$Code" "SIX_MINUS" "[I", Cond.fieldLink RX0 31 "CodedGroups$Code" "SIX_PLUS" "[I", Cond.methodLink RX0 19 yX0_behindSix, Cond.static yX0_behindSix, Cond.code yX0_behindSix cX0_behindSix 3 (some .int), Cond.methodLink RX0 46 yJ6_bitCount_0f7a4, Cond.static yJ6_bitCount_0f7a4, Cond.initialized RJ6, Cond.code yJ6_bitCount_0f7a4 cJ6_bitCount_0f7a4 1 (some .int), Cond.constant RJ6 265 (1431655765), Cond.constant RJ6 266 (858993459), Cond.constant RJ6 267 (252645135), Cond.methodLink RX0 58 yX0_highPart, Cond.static yX0_highPart, Cond.code yX0_highPart cX0_highPart 5 (some .int), Cond.methodLink RX0 23 yX0_fourOf, Cond.static yX0_fourOf]
def wsX0_symbolOf_r2 : List Cond := [Cond.code yX0_fourOf cX0_fourOf 4 (some .int), Cond.fieldLink RX0 34 "CodedGroups$Code" "SIGN_FOUR_MINUS" "[I", Cond.fieldLink RX0 37 "CodedGroups$Code" "SIGN_FOUR_PLUS" "[I", Cond.fieldLink RX0 40 "CodedGroups$Code" "FOUR_MINUS" "[I", Cond.fieldLink RX0 43 "CodedGroups$Code" "FOUR_PLUS" "[I", Cond.methodLink RX0 9 yX0_isSign, Cond.static yX0_isSign, Cond.code yX0_isSign cX0_isSign 2 (some .boolean)]
def wsX0_symbolOf : List Cond := .code yX0_symbolOf cX0_symbolOf 4 (some .int) :: ((wsX0_symbolOf_r1 ++ wsX0_symbolOf_r2))
def wsX1_init : List Cond := .code yX1_init cX1_init 1 none :: ([.methodLink RX1 5 objectInit, .instanceMethod objectInit, .code objectInit ⟨#[0xb1]⟩ 1 none, .arrayClass .int, .fieldLink RX1 11 "CodedGroups$FrameShelf" "words" "[I", .fieldLink RX1 15 "CodedGroups$FrameShelf" "lengths" "[I", .arrayClass .boolean, .fieldLink RX1 18 "CodedGroups$FrameShelf" "wholes" "[Z", .fieldLink RX1 22 "CodedGroups$FrameShelf" "slot" "I", .fieldLink RX1 26 "CodedGroups$FrameShelf" "kept" "I", .fieldLink RX1 29 "CodedGroups$FrameShelf" "state" "I", .fieldLink RX1 32 "CodedGroups$FrameShelf" "broken" "Z", .fieldLink RX1 36 "CodedGroups$FrameShelf" "ended" "I", .fieldLink RX1 39 "CodedGroups$FrameShelf" "endedWhole" "I"] ++ wsX10)
def wsX1_finish : List Cond := .code yX1_finish cX1_finish 2 none :: ([.fieldLink RX1 18 "CodedGroups$FrameShelf" "wholes" "[Z", .fieldLink RX1 22 "CodedGroups$FrameShelf" "slot" "I", .fieldLink RX1 29 "CodedGroups$FrameShelf" "state" "I", .fieldLink RX1 36 "CodedGroups$FrameShelf" "ended" "I", .fieldLink RX1 39 "CodedGroups$FrameShelf" "endedWhole" "I", .fieldLink RX1 26 "CodedGroups$FrameShelf" "kept" "I"] ++ wsX10)
def wsX1_lose : List Cond := .code yX1_lose cX1_lose 1 none :: ([.fieldLink RX1 29 "CodedGroups$FrameShelf" "state" "I", .methodLink RX1 42 yX1_finish, .instanceMethod yX1_finish, .selects RX1 yX1_finish yX1_finish, .initialized RX1, .code yX1_finish cX1_finish 2 none, .fieldLink RX1 18 "CodedGroups$FrameShelf" "wholes" "[Z", .fieldLink RX1 22 "CodedGroups$FrameShelf" "slot" "I", .fieldLink RX1 36 "CodedGroups$FrameShelf" "ended" "I", .fieldLink RX1 39 "CodedGroups$FrameShelf" "endedWhole" "I", .fieldLink RX1 26 "CodedGroups$FrameShelf" "kept" "I"] ++ wsX10)
def wsX1_begin : List Cond := .code yX1_begin cX1_begin 1 none :: ([.fieldLink RX1 15 "CodedGroups$FrameShelf" "lengths" "[I", .fieldLink RX1 22 "CodedGroups$FrameShelf" "slot" "I", .fieldLink RX1 32 "CodedGroups$FrameShelf" "broken" "Z", .fieldLink RX1 29 "CodedGroups$FrameShelf" "state" "I"] ++ wsX10)
def wsX1_addByte : List Cond := .code yX1_addByte cX1_addByte 5 none :: ([.fieldLink RX1 15 "CodedGroups$FrameShelf" "lengths" "[I", .fieldLink RX1 22 "CodedGroups$FrameShelf" "slot" "I", .fieldLink RX1 32 "CodedGroups$FrameShelf" "broken" "Z", .fieldLink RX1 11 "CodedGroups$FrameShelf" "words" "[I"] ++ wsX10)
def wsX1_lookInside : List Cond := .code yX1_lookInside cX1_lookInside 2 none :: ([.fieldLink RX1 32 "CodedGroups$FrameShelf" "broken" "Z", .fieldLink RX1 29 "CodedGroups$FrameShelf" "state" "I", .methodLink RX1 56 yX1_addByte, .instanceMethod yX1_addByte, .selects RX1 yX1_addByte yX1_addByte, .initialized RX1, .code yX1_addByte cX1_addByte 5 none, .fieldLink RX1 15 "CodedGroups$FrameShelf" "lengths" "[I", .fieldLink RX1 22 "CodedGroups$FrameShelf" "slot" "I", .fieldLink RX1 11 "CodedGroups$FrameShelf" "words" "[I", .methodLink RX1 42 yX1_finish, .instanceMethod yX1_finish, .selects RX1 yX1_finish yX1_finish, .code yX1_finish cX1_finish 2 none, .fieldLink RX1 18 "CodedGroups$FrameShelf" "wholes" "[Z", .fieldLink RX1 36 "CodedGroups$FrameShelf" "ended" "I", .fieldLink RX1 39 "CodedGroups$FrameShelf" "endedWhole" "I", .fieldLink RX1 26 "CodedGroups$FrameShelf" "kept" "I"] ++ wsX10)
def wsX1_look_r1 : List Cond := [Cond.fieldLink RX1 29 "CodedGroups$FrameShelf" "state" "I", Cond.fieldLink RX1 32 "CodedGroups$FrameShelf" "broken" "Z", Cond.methodLink RX1 42 yX1_finish, Cond.instanceMethod yX1_finish, Cond.selects RX1 yX1_finish yX1_finish, Cond.initialized RX1, Cond.code yX1_finish cX1_finish 2 none, Cond.fieldLink RX1 18 "CodedGroups$FrameShelf" "wholes" "[Z", Cond.fieldLink RX1 22 "CodedGroups$FrameShelf" "slot" "I", Cond.fieldLink RX1 36 "CodedGroups$FrameShelf" "ended" "I", Cond.fieldLink RX1 39 "CodedGroups$FrameShelf" "endedWhole" "I", Cond.fieldLink RX1 26 "CodedGroups$FrameShelf" "kept" "I", Cond.methodLink RX1 46 yX1_lose, Cond.instanceMethod yX1_lose, Cond.selects RX1 yX1_lose yX1_lose, Cond.code yX1_lose cX1_lose 1 none, Cond.methodLink RX1 49 yX1_begin, Cond.instanceMethod yX1_begin, Cond.selects RX1 yX1_begin yX1_begin, Cond.code yX1_begin cX1_begin 1 none, Cond.fieldLink RX1 15 "CodedGroups$FrameShelf" "lengths" "[I", Cond.methodLink RX1 52 yX1_lookInside, Cond.instanceMethod yX1_lookInside, Cond.selects RX1 yX1_lookInside yX1_lookInside]
def wsX1_look_r2 : List Cond := [Cond.code yX1_lookInside cX1_lookInside 2 none, Cond.methodLink RX1 56 yX1_addByte, Cond.instanceMethod yX1_addByte, Cond.selects RX1 yX1_addByte yX1_addByte, Cond.code yX1_addByte cX1_addByte 5 none, Cond.fieldLink RX1 11 "CodedGroups$FrameShelf" "words" "[I"]
def wsX1_look : List Cond := .code yX1_look cX1_look 2 none :: ((wsX1_look_r1 ++ wsX1_look_r2) ++ wsX10)
def wsJ9_floorMod_7cf53 : List Cond := .code yJ9_floorMod_7cf53 cJ9_floorMod_7cf53 3 (some .int) :: ([])
def wsX1_slotOf : List Cond := .code yX1_slotOf cX1_slotOf 2 (some .int) :: ([.fieldLink RX1 22 "CodedGroups$FrameShelf" "slot" "I", .fieldLink RX1 26 "CodedGroups$FrameShelf" "kept" "I", .methodLink RX1 59 yJ9_floorMod_7cf53, .static yJ9_floorMod_7cf53, .initialized RJ9, .code yJ9_floorMod_7cf53 cJ9_floorMod_7cf53 3 (some .int)] ++ wsX10)
def wsX1_has : List Cond := .code yX1_has cX1_has 2 (some .boolean) :: ([.fieldLink RX1 26 "CodedGroups$FrameShelf" "kept" "I"] ++ wsX10)
def wsX1_lengthOf : List Cond := .code yX1_lengthOf cX1_lengthOf 2 (some .int) :: ([.fieldLink RX1 15 "CodedGroups$FrameShelf" "lengths" "[I", .methodLink RX1 65 yX1_has, .instanceMethod yX1_has, .selects RX1 yX1_has yX1_has, .initialized RX1, .code yX1_has cX1_has 2 (some .boolean), .fieldLink RX1 26 "CodedGroups$FrameShelf" "kept" "I", .methodLink RX1 69 yX1_slotOf, .instanceMethod yX1_slotOf, .selects RX1 yX1_slotOf yX1_slotOf, .code yX1_slotOf cX1_slotOf 2 (some .int), .fieldLink RX1 22 "CodedGroups$FrameShelf" "slot" "I", .methodLink RX1 59 yJ9_floorMod_7cf53, .static yJ9_floorMod_7cf53, .initialized RJ9, .code yJ9_floorMod_7cf53 cJ9_floorMod_7cf53 3 (some .int)] ++ wsX10)
def wsX1_isWhole : List Cond := .code yX1_isWhole cX1_isWhole 2 (some .boolean) :: ([.fieldLink RX1 18 "CodedGroups$FrameShelf" "wholes" "[Z", .methodLink RX1 65 yX1_has, .instanceMethod yX1_has, .selects RX1 yX1_has yX1_has, .initialized RX1, .code yX1_has cX1_has 2 (some .boolean), .fieldLink RX1 26 "CodedGroups$FrameShelf" "kept" "I", .methodLink RX1 69 yX1_slotOf, .instanceMethod yX1_slotOf, .selects RX1 yX1_slotOf yX1_slotOf, .code yX1_slotOf cX1_slotOf 2 (some .int), .fieldLink RX1 22 "CodedGroups$FrameShelf" "slot" "I", .methodLink RX1 59 yJ9_floorMod_7cf53, .static yJ9_floorMod_7cf53, .initialized RJ9, .code yJ9_floorMod_7cf53 cJ9_floorMod_7cf53 3 (some .int)] ++ wsX10)
def wsX1_byteOf : List Cond := .code yX1_byteOf cX1_byteOf 4 (some .int) :: ([.fieldLink RX1 11 "CodedGroups$FrameShelf" "words" "[I", .methodLink RX1 73 yX1_lengthOf, .instanceMethod yX1_lengthOf, .selects RX1 yX1_lengthOf yX1_lengthOf, .initialized RX1, .code yX1_lengthOf cX1_lengthOf 2 (some .int), .fieldLink RX1 15 "CodedGroups$FrameShelf" "lengths" "[I", .methodLink RX1 65 yX1_has, .instanceMethod yX1_has, .selects RX1 yX1_has yX1_has, .code yX1_has cX1_has 2 (some .boolean), .fieldLink RX1 26 "CodedGroups$FrameShelf" "kept" "I", .methodLink RX1 69 yX1_slotOf, .instanceMethod yX1_slotOf, .selects RX1 yX1_slotOf yX1_slotOf, .code yX1_slotOf cX1_slotOf 2 (some .int), .fieldLink RX1 22 "CodedGroups$FrameShelf" "slot" "I", .methodLink RX1 59 yJ9_floorMod_7cf53, .static yJ9_floorMod_7cf53, .initialized RJ9, .code yJ9_floorMod_7cf53 cJ9_floorMod_7cf53 3 (some .int)] ++ wsX10)
def wsX2_init : List Cond := .code yX2_init cX2_init 1 none :: ([.methodLink RX2 3 objectInit, .instanceMethod objectInit, .code objectInit ⟨#[0xb1]⟩ 1 none, .arrayClass .byte, .fieldLink RX2 11 "CodedGroups$Line" "bits" "[B", .fieldLink RX2 15 "CodedGroups$Line" "held" "I"] ++ wsX20)
def wsX2_hasRoomFor : List Cond := .code yX2_hasRoomFor cX2_hasRoomFor 2 (some .boolean) :: ([.fieldLink RX2 15 "CodedGroups$Line" "held" "I"] ++ wsX20)
def wsX2_append : List Cond := .code yX2_append cX2_append 2 (some .boolean) :: ([.fieldLink RX2 15 "CodedGroups$Line" "held" "I", .fieldLink RX2 11 "CodedGroups$Line" "bits" "[B"] ++ wsX20)
def wsX2_has : List Cond := .code yX2_has cX2_has 2 (some .boolean) :: ([.fieldLink RX2 15 "CodedGroups$Line" "held" "I"] ++ wsX20)
def wsX2_get : List Cond := .code yX2_get cX2_get 2 (some .int) :: ([.fieldLink RX2 11 "CodedGroups$Line" "bits" "[B", .methodLink RX2 19 yX2_has, .instanceMethod yX2_has, .selects RX2 yX2_has yX2_has, .initialized RX2, .code yX2_has cX2_has 2 (some .boolean), .fieldLink RX2 15 "CodedGroups$Line" "held" "I"] ++ wsX20)
def wsX2_flip : List Cond := .code yX2_flip cX2_flip 2 (some .boolean) :: ([.fieldLink RX2 11 "CodedGroups$Line" "bits" "[B", .methodLink RX2 19 yX2_has, .instanceMethod yX2_has, .selects RX2 yX2_has yX2_has, .initialized RX2, .code yX2_has cX2_has 2 (some .boolean), .fieldLink RX2 15 "CodedGroups$Line" "held" "I"] ++ wsX20)
def wsX2_leaveOut : List Cond := .code yX2_leaveOut cX2_leaveOut 2 (some .boolean) :: ([.fieldLink RX2 11 "CodedGroups$Line" "bits" "[B", .fieldLink RX2 15 "CodedGroups$Line" "held" "I", .methodLink RX2 23 arraycopyName, .native arraycopyName, .static arraycopyName, .initialized "java/lang/System", .methodLink RX2 19 yX2_has, .instanceMethod yX2_has, .selects RX2 yX2_has yX2_has, .initialized RX2, .code yX2_has cX2_has 2 (some .boolean)] ++ wsX20)
def wsX2_cutFront : List Cond := .code yX2_cutFront cX2_cutFront 2 none :: ([.fieldLink RX2 15 "CodedGroups$Line" "held" "I", .fieldLink RX2 11 "CodedGroups$Line" "bits" "[B", .methodLink RX2 23 arraycopyName, .native arraycopyName, .static arraycopyName, .initialized "java/lang/System"] ++ wsX20)
def wsX5_init : List Cond := .code yX5_init cX5_init 1 none :: ([.methodLink RX5 3 objectInit, .instanceMethod objectInit, .code objectInit ⟨#[0xb1]⟩ 1 none, .arrayClass .int, .fieldLink RX5 11 "CodedGroups$SymbolLog" "row" "[I", .fieldLink RX5 15 "CodedGroups$SymbolLog" "next" "I", .fieldLink RX5 19 "CodedGroups$SymbolLog" "kept" "I", .fieldLink RX5 22 "CodedGroups$SymbolLog" "received" "I"] ++ wsX50)
def wsX3_init_r1 : List Cond := [Cond.methodLink RX3 3 objectInit, Cond.instanceMethod objectInit, Cond.code objectInit ⟨#[0xb1]⟩ 1 none, Cond.classLink RX3 9 RX5, Cond.instantiable RX5 4, Cond.initialized RX5, Cond.fieldLink RX3 12 "CodedGroups$Receiver" "log" "LCodedGroups$SymbolLog;", Cond.classLink RX3 18 RX1, Cond.instantiable RX1 9, Cond.initialized RX1, Cond.fieldLink RX3 21 "CodedGroups$Receiver" "shelf" "LCodedGroups$FrameShelf;", Cond.fieldLink RX3 25 "CodedGroups$Receiver" "window" "I", Cond.fieldLink RX3 29 "CodedGroups$Receiver" "windowBits" "I", Cond.fieldLink RX3 32 "CodedGroups$Receiver" "even" "Z", Cond.fieldLink RX3 36 "CodedGroups$Receiver" "lean" "I", Cond.fieldLink RX3 39 "CodedGroups$Receiver" "rank" "I", Cond.fieldLink RX3 42 "CodedGroups$Receiver" "faith" "I", Cond.fieldLink RX3 45 "CodedGroups$Receiver" "goodInRow" "I", Cond.fieldLink RX3 48 "CodedGroups$Receiver" "groups" "I", Cond.fieldLink RX3 51 "CodedGroups$Receiver" "badGroups" "I", Cond.fieldLink RX3 54 "CodedGroups$Receiver" "searches" "I", Cond.instanceMethod yX5_init, Cond.code yX5_init cX5_init 1 none, Cond.methodLink RX5 3 objectInit]
def wsX3_init_r2 : List Cond := [Cond.arrayClass .int, Cond.fieldLink RX5 11 "CodedGroups$SymbolLog" "row" "[I", Cond.fieldLink RX5 15 "CodedGroups$SymbolLog" "next" "I", Cond.fieldLink RX5 19 "CodedGroups$SymbolLog" "kept" "I", Cond.fieldLink RX5 22 "CodedGroups$SymbolLog" "received" "I", Cond.instanceMethod yX1_init, Cond.code yX1_init cX1_init 1 none, Cond.methodLink RX1 5 objectInit, Cond.fieldLink RX1 11 "CodedGroups$FrameShelf" "words" "[I", Cond.fieldLink RX1 15 "CodedGroups$FrameShelf" "lengths" "[I", Cond.arrayClass .boolean, Cond.fieldLink RX1 18 "CodedGroups$FrameShelf" "wholes" "[Z", Cond.fieldLink RX1 22 "CodedGroups$FrameShelf" "slot" "I", Cond.fieldLink RX1 26 "CodedGroups$FrameShelf" "kept" "I", Cond.fieldLink RX1 29 "CodedGroups$FrameShelf" "state" "I", Cond.fieldLink RX1 32 "CodedGroups$FrameShelf" "broken" "Z", Cond.fieldLink RX1 36 "CodedGroups$FrameShelf" "ended" "I", Cond.fieldLink RX1 39 "CodedGroups$FrameShelf" "endedWhole" "I"]
def wsX3_init : List Cond := .code yX3_init cX3_init 1 none :: ((wsX3_init_r1 ++ wsX3_init_r2) ++ wsX50 ++ wsX30 ++ wsX10)
def wsX3_readGroup_r1 : List Cond := [Cond.fieldLink RX3 25 "CodedGroups$Receiver" "window" "I", Cond.fieldLink RX3 36 "CodedGroups$Receiver" "lean" "I", Cond.fieldLink RX3 29 "CodedGroups$Receiver" "windowBits" "I", Cond.fieldLink RX3 48 "CodedGroups$Receiver" "groups" "I", Cond.fieldLink RX3 51 "CodedGroups$Receiver" "badGroups" "I", Cond.methodLink RX3 96 yX0_symbolOf, Cond.static yX0_symbolOf, Cond.initialized RX0, Cond.code yX0_symbolOf cX0_symbolOf 4 (some .int), Cond.methodLink RX0 55 yX0_byteOfGroup, Cond.static yX0_byteOfGroup, Cond.code yX0_byteOfGroup cX0_byteOfGroup 6 (some .int), Cond.methodLink RX0 15 yX0_sixOf, Cond.static yX0_sixOf, Cond.code yX0_sixOf cX0_sixOf 3 (some .int), Cond.fieldLink RX0 27 "CodedGroups$Code" "SIX_MINUS" "[I", Cond.fieldLink RX0 31 "CodedGroups$Code" "SIX_PLUS" "[I", Cond.methodLink RX0 19 yX0_behindSix, Cond.static yX0_behindSix, Cond.code yX0_behindSix cX0_behindSix 3 (some .int), Cond.methodLink RX0 46 yJ6_bitCount_0f7a4, Cond.static yJ6_bitCount_0f7a4, Cond.initialized RJ6, Cond.code yJ6_bitCount_0f7a4 cJ6_bitCount_0f7a4 1 (some .int)]
def wsX3_readGroup_r2 : List Cond := [Cond.constant RJ6 265 (1431655765), Cond.constant RJ6 266 (858993459), Cond.constant RJ6 267 (252645135), Cond.methodLink RX0 58 yX0_highPart, Cond.static yX0_highPart, Cond.code yX0_highPart cX0_highPart 5 (some .int), Cond.methodLink RX0 23 yX0_fourOf, Cond.static yX0_fourOf, Cond.code yX0_fourOf cX0_fourOf 4 (some .int), Cond.fieldLink RX0 34 "CodedGroups$Code" "SIGN_FOUR_MINUS" "[I", Cond.fieldLink RX0 37 "CodedGroups$Code" "SIGN_FOUR_PLUS" "[I", Cond.fieldLink RX0 40 "CodedGroups$Code" "FOUR_MINUS" "[I", Cond.fieldLink RX0 43 "CodedGroups$Code" "FOUR_PLUS" "[I", Cond.methodLink RX0 9 yX0_isSign, Cond.static yX0_isSign, Cond.code yX0_isSign cX0_isSign 2 (some .boolean), Cond.methodLink RX3 100 yX0_behindGroup, Cond.static yX0_behindGroup, Cond.code yX0_behindGroup cX0_behindGroup 2 (some .int), Cond.methodLink RX0 52 yX0_behindFour, Cond.static yX0_behindFour, Cond.code yX0_behindFour cX0_behindFour 3 (some .int)]
def wsX3_readGroup : List Cond := .code yX3_readGroup cX3_readGroup 2 (some .int) :: ((wsX3_readGroup_r1 ++ wsX3_readGroup_r2) ++ wsX30)
def wsX3_searchAgain : List Cond := .code yX3_searchAgain cX3_searchAgain 1 none :: ([.fieldLink RX3 39 "CodedGroups$Receiver" "rank" "I", .fieldLink RX3 42 "CodedGroups$Receiver" "faith" "I", .fieldLink RX3 54 "CodedGroups$Receiver" "searches" "I", .fieldLink RX3 21 "CodedGroups$Receiver" "shelf" "LCodedGroups$FrameShelf;", .methodLink RX3 108 yX1_lose, .instanceMethod yX1_lose, .selects RX1 yX1_lose yX1_lose, .initialized RX1, .code yX1_lose cX1_lose 1 none, .fieldLink RX1 29 "CodedGroups$FrameShelf" "state" "I", .methodLink RX1 42 yX1_finish, .instanceMethod yX1_finish, .selects RX1 yX1_finish yX1_finish, .code yX1_finish cX1_finish 2 none, .fieldLink RX1 18 "CodedGroups$FrameShelf" "wholes" "[Z", .fieldLink RX1 22 "CodedGroups$FrameShelf" "slot" "I", .fieldLink RX1 36 "CodedGroups$FrameShelf" "ended" "I", .fieldLink RX1 39 "CodedGroups$FrameShelf" "endedWhole" "I", .fieldLink RX1 26 "CodedGroups$FrameShelf" "kept" "I"] ++ wsX30 ++ wsX10)
def wsX3_climb_r1 : List Cond := [Cond.fieldLink RX3 39 "CodedGroups$Receiver" "rank" "I", Cond.fieldLink RX3 42 "CodedGroups$Receiver" "faith" "I", Cond.fieldLink RX3 45 "CodedGroups$Receiver" "goodInRow" "I", Cond.methodLink RX3 79 yX3_searchAgain, Cond.instanceMethod yX3_searchAgain, Cond.selects RX3 yX3_searchAgain yX3_searchAgain, Cond.initialized RX3, Cond.code yX3_searchAgain cX3_searchAgain 1 none, Cond.fieldLink RX3 54 "CodedGroups$Receiver" "searches" "I", Cond.fieldLink RX3 21 "CodedGroups$Receiver" "shelf" "LCodedGroups$FrameShelf;", Cond.methodLink RX3 108 yX1_lose, Cond.instanceMethod yX1_lose, Cond.selects RX1 yX1_lose yX1_lose, Cond.initialized RX1, Cond.code yX1_lose cX1_lose 1 none, Cond.fieldLink RX1 29 "CodedGroups$FrameShelf" "state" "I", Cond.methodLink RX1 42 yX1_finish, Cond.instanceMethod yX1_finish, Cond.selects RX1 yX1_finish yX1_finish, Cond.code yX1_finish cX1_finish 2 none, Cond.fieldLink RX1 18 "CodedGroups$FrameShelf" "wholes" "[Z", Cond.fieldLink RX1 22 "CodedGroups$FrameShelf" "slot" "I", Cond.fieldLink RX1 36 "CodedGroups$FrameShelf" "ended" "I", Cond.fieldLink RX1 39 "CodedGroups$FrameShelf" "endedWhole" "I"]
def wsX3_climb_r2 : List Cond := [Cond.fieldLink RX1 26 "CodedGroups$FrameShelf" "kept" "I"]
def wsX3_climb : List Cond := .code yX3_climb cX3_climb 3 none :: ((wsX3_climb_r1 ++ wsX3_climb_r2) ++ wsX30 ++ wsX10)
def wsX5_keep : List Cond := .code yX5_keep cX5_keep 2 none :: ([.fieldLink RX5 15 "CodedGroups$SymbolLog" "next" "I", .fieldLink RX5 11 "CodedGroups$SymbolLog" "row" "[I", .fieldLink RX5 19 "CodedGroups$SymbolLog" "kept" "I", .methodLink RX5 25 Lib.Math.min.name, .static Lib.Math.min.name, .initialized "java/lang/Math", .code Lib.Math.min.name Lib.Math.min.code 2 (some .int), .fieldLink RX5 22 "CodedGroups$SymbolLog" "received" "I"] ++ wsX50)
def wsX3_weigh_r1 : List Cond := [Cond.fieldLink RX3 45 "CodedGroups$Receiver" "goodInRow" "I", Cond.fieldLink RX3 42 "CodedGroups$Receiver" "faith" "I", Cond.methodLink RX3 103 Lib.Math.min.name, Cond.static Lib.Math.min.name, Cond.initialized "java/lang/Math", Cond.code Lib.Math.min.name Lib.Math.min.code 2 (some .int), Cond.methodLink RX3 79 yX3_searchAgain, Cond.instanceMethod yX3_searchAgain, Cond.selects RX3 yX3_searchAgain yX3_searchAgain, Cond.initialized RX3, Cond.code yX3_searchAgain cX3_searchAgain 1 none, Cond.fieldLink RX3 39 "CodedGroups$Receiver" "rank" "I", Cond.fieldLink RX3 54 "CodedGroups$Receiver" "searches" "I", Cond.fieldLink RX3 21 "CodedGroups$Receiver" "shelf" "LCodedGroups$FrameShelf;", Cond.methodLink RX3 108 yX1_lose, Cond.instanceMethod yX1_lose, Cond.selects RX1 yX1_lose yX1_lose, Cond.initialized RX1, Cond.code yX1_lose cX1_lose 1 none, Cond.fieldLink RX1 29 "CodedGroups$FrameShelf" "state" "I", Cond.methodLink RX1 42 yX1_finish, Cond.instanceMethod yX1_finish, Cond.selects RX1 yX1_finish yX1_finish, Cond.code yX1_finish cX1_finish 2 none]
def wsX3_weigh_r2 : List Cond := [Cond.fieldLink RX1 18 "CodedGroups$FrameShelf" "wholes" "[Z", Cond.fieldLink RX1 22 "CodedGroups$FrameShelf" "slot" "I", Cond.fieldLink RX1 36 "CodedGroups$FrameShelf" "ended" "I", Cond.fieldLink RX1 39 "CodedGroups$FrameShelf" "endedWhole" "I", Cond.fieldLink RX1 26 "CodedGroups$FrameShelf" "kept" "I"]
def wsX3_weigh : List Cond := .code yX3_weigh cX3_weigh 2 none :: ((wsX3_weigh_r1 ++ wsX3_weigh_r2) ++ wsX30 ++ wsX10)
def wsX3_laterGroup_r1 : List Cond := [Cond.fieldLink RX3 32 "CodedGroups$Receiver" "even" "Z", Cond.fieldLink RX3 39 "CodedGroups$Receiver" "rank" "I", Cond.fieldLink RX3 12 "CodedGroups$Receiver" "log" "LCodedGroups$SymbolLog;", Cond.fieldLink RX3 21 "CodedGroups$Receiver" "shelf" "LCodedGroups$FrameShelf;", Cond.methodLink RX3 82 yX3_climb, Cond.instanceMethod yX3_climb, Cond.selects RX3 yX3_climb yX3_climb, Cond.initialized RX3, Cond.code yX3_climb cX3_climb 3 none, Cond.fieldLink RX3 42 "CodedGroups$Receiver" "faith" "I", Cond.fieldLink RX3 45 "CodedGroups$Receiver" "goodInRow" "I", Cond.methodLink RX3 79 yX3_searchAgain, Cond.instanceMethod yX3_searchAgain, Cond.selects RX3 yX3_searchAgain yX3_searchAgain, Cond.code yX3_searchAgain cX3_searchAgain 1 none, Cond.fieldLink RX3 54 "CodedGroups$Receiver" "searches" "I", Cond.methodLink RX3 108 yX1_lose, Cond.instanceMethod yX1_lose, Cond.selects RX1 yX1_lose yX1_lose, Cond.initialized RX1, Cond.code yX1_lose cX1_lose 1 none, Cond.fieldLink RX1 29 "CodedGroups$FrameShelf" "state" "I", Cond.methodLink RX1 42 yX1_finish, Cond.instanceMethod yX1_finish]
def wsX3_laterGroup_r2 : List Cond := [Cond.selects RX1 yX1_finish yX1_finish, Cond.code yX1_finish cX1_finish 2 none, Cond.fieldLink RX1 18 "CodedGroups$FrameShelf" "wholes" "[Z", Cond.fieldLink RX1 22 "CodedGroups$FrameShelf" "slot" "I", Cond.fieldLink RX1 36 "CodedGroups$FrameShelf" "ended" "I", Cond.fieldLink RX1 39 "CodedGroups$FrameShelf" "endedWhole" "I", Cond.fieldLink RX1 26 "CodedGroups$FrameShelf" "kept" "I", Cond.methodLink RX3 86 yX5_keep, Cond.instanceMethod yX5_keep, Cond.selects RX5 yX5_keep yX5_keep, Cond.initialized RX5, Cond.code yX5_keep cX5_keep 2 none, Cond.fieldLink RX5 15 "CodedGroups$SymbolLog" "next" "I", Cond.fieldLink RX5 11 "CodedGroups$SymbolLog" "row" "[I", Cond.fieldLink RX5 19 "CodedGroups$SymbolLog" "kept" "I", Cond.methodLink RX5 25 Lib.Math.min.name, Cond.static Lib.Math.min.name, Cond.initialized "java/lang/Math", Cond.code Lib.Math.min.name Lib.Math.min.code 2 (some .int), Cond.fieldLink RX5 22 "CodedGroups$SymbolLog" "received" "I", Cond.methodLink RX3 89 yX1_look, Cond.instanceMethod yX1_look, Cond.selects RX1 yX1_look yX1_look, Cond.code yX1_look cX1_look 2 none]
def wsX3_laterGroup_r3 : List Cond := [Cond.fieldLink RX1 32 "CodedGroups$FrameShelf" "broken" "Z", Cond.methodLink RX1 46 yX1_lose, Cond.methodLink RX1 49 yX1_begin, Cond.instanceMethod yX1_begin, Cond.selects RX1 yX1_begin yX1_begin, Cond.code yX1_begin cX1_begin 1 none, Cond.fieldLink RX1 15 "CodedGroups$FrameShelf" "lengths" "[I", Cond.methodLink RX1 52 yX1_lookInside, Cond.instanceMethod yX1_lookInside, Cond.selects RX1 yX1_lookInside yX1_lookInside, Cond.code yX1_lookInside cX1_lookInside 2 none, Cond.methodLink RX1 56 yX1_addByte, Cond.instanceMethod yX1_addByte, Cond.selects RX1 yX1_addByte yX1_addByte, Cond.code yX1_addByte cX1_addByte 5 none, Cond.fieldLink RX1 11 "CodedGroups$FrameShelf" "words" "[I", Cond.methodLink RX3 92 yX3_weigh, Cond.instanceMethod yX3_weigh, Cond.selects RX3 yX3_weigh yX3_weigh, Cond.code yX3_weigh cX3_weigh 2 none, Cond.methodLink RX3 103 Lib.Math.min.name]
def wsX3_laterGroup : List Cond := .code yX3_laterGroup cX3_laterGroup 4 none :: ((wsX3_laterGroup_r1 ++ (wsX3_laterGroup_r2 ++ wsX3_laterGroup_r3)) ++ wsX30 ++ wsX10 ++ wsX50)
def wsX3_firstGroup_r1 : List Cond := [Cond.fieldLink RX3 32 "CodedGroups$Receiver" "even" "Z", Cond.fieldLink RX3 39 "CodedGroups$Receiver" "rank" "I", Cond.methodLink RX3 79 yX3_searchAgain, Cond.instanceMethod yX3_searchAgain, Cond.selects RX3 yX3_searchAgain yX3_searchAgain, Cond.initialized RX3, Cond.code yX3_searchAgain cX3_searchAgain 1 none, Cond.fieldLink RX3 42 "CodedGroups$Receiver" "faith" "I", Cond.fieldLink RX3 54 "CodedGroups$Receiver" "searches" "I", Cond.fieldLink RX3 21 "CodedGroups$Receiver" "shelf" "LCodedGroups$FrameShelf;", Cond.methodLink RX3 108 yX1_lose, Cond.instanceMethod yX1_lose, Cond.selects RX1 yX1_lose yX1_lose, Cond.initialized RX1, Cond.code yX1_lose cX1_lose 1 none, Cond.fieldLink RX1 29 "CodedGroups$FrameShelf" "state" "I", Cond.methodLink RX1 42 yX1_finish, Cond.instanceMethod yX1_finish, Cond.selects RX1 yX1_finish yX1_finish, Cond.code yX1_finish cX1_finish 2 none, Cond.fieldLink RX1 18 "CodedGroups$FrameShelf" "wholes" "[Z", Cond.fieldLink RX1 22 "CodedGroups$FrameShelf" "slot" "I", Cond.fieldLink RX1 36 "CodedGroups$FrameShelf" "ended" "I", Cond.fieldLink RX1 39 "CodedGroups$FrameShelf" "endedWhole" "I"]
def wsX3_firstGroup_r2 : List Cond := [Cond.fieldLink RX1 26 "CodedGroups$FrameShelf" "kept" "I"]
def wsX3_firstGroup : List Cond := .code yX3_firstGroup cX3_firstGroup 2 none :: ((wsX3_firstGroup_r1 ++ wsX3_firstGroup_r2) ++ wsX30 ++ wsX10)
def wsX3_accept_r1 : List Cond := [Cond.fieldLink RX3 25 "CodedGroups$Receiver" "window" "I", Cond.fieldLink RX3 29 "CodedGroups$Receiver" "windowBits" "I", Cond.fieldLink RX3 39 "CodedGroups$Receiver" "rank" "I", Cond.fieldLink RX3 36 "CodedGroups$Receiver" "lean" "I", Cond.methodLink RX3 57 yX0_isComma, Cond.static yX0_isComma, Cond.initialized RX0, Cond.code yX0_isComma cX0_isComma 2 (some .boolean), Cond.methodLink RX3 63 yX3_readGroup, Cond.instanceMethod yX3_readGroup, Cond.selects RX3 yX3_readGroup yX3_readGroup, Cond.initialized RX3, Cond.code yX3_readGroup cX3_readGroup 2 (some .int), Cond.fieldLink RX3 48 "CodedGroups$Receiver" "groups" "I", Cond.fieldLink RX3 51 "CodedGroups$Receiver" "badGroups" "I", Cond.methodLink RX3 96 yX0_symbolOf, Cond.static yX0_symbolOf, Cond.code yX0_symbolOf cX0_symbolOf 4 (some .int), Cond.methodLink RX0 55 yX0_byteOfGroup, Cond.static yX0_byteOfGroup, Cond.code yX0_byteOfGroup cX0_byteOfGroup 6 (some .int), Cond.methodLink RX0 15 yX0_sixOf, Cond.static yX0_sixOf, Cond.code yX0_sixOf cX0_sixOf 3 (some .int)]
def wsX3_accept_r2 : List Cond := [Cond.fieldLink RX0 27 "CodedGroups$Code" "SIX_MINUS" "[I", Cond.fieldLink RX0 31 "CodedGroups$Code" "SIX_PLUS" "[I", Cond.methodLink RX0 19 yX0_behindSix, Cond.static yX0_behindSix, Cond.code yX0_behindSix cX0_behindSix 3 (some .int), Cond.methodLink RX0 46 yJ6_bitCount_0f7a4, Cond.static yJ6_bitCount_0f7a4, Cond.initialized RJ6, Cond.code yJ6_bitCount_0f7a4 cJ6_bitCount_0f7a4 1 (some .int), Cond.constant RJ6 265 (1431655765), Cond.constant RJ6 266 (858993459), Cond.constant RJ6 267 (252645135), Cond.methodLink RX0 58 yX0_highPart, Cond.static yX0_highPart, Cond.code yX0_highPart cX0_highPart 5 (some .int), Cond.methodLink RX0 23 yX0_fourOf, Cond.static yX0_fourOf, Cond.code yX0_fourOf cX0_fourOf 4 (some .int), Cond.fieldLink RX0 34 "CodedGroups$Code" "SIGN_FOUR_MINUS" "[I", Cond.fieldLink RX0 37 "CodedGroups$Code" "SIGN_FOUR_PLUS" "[I", Cond.fieldLink RX0 40 "CodedGroups$Code" "FOUR_MINUS" "[I", Cond.fieldLink RX0 43 "CodedGroups$Code" "FOUR_PLUS" "[I", Cond.methodLink RX0 9 yX0_isSign, Cond.static yX0_isSign]
def wsX3_accept_r3 : List Cond := [Cond.code yX0_isSign cX0_isSign 2 (some .boolean), Cond.methodLink RX3 100 yX0_behindGroup, Cond.static yX0_behindGroup, Cond.code yX0_behindGroup cX0_behindGroup 2 (some .int), Cond.methodLink RX0 52 yX0_behindFour, Cond.static yX0_behindFour, Cond.code yX0_behindFour cX0_behindFour 3 (some .int), Cond.methodLink RX3 67 yX3_laterGroup, Cond.instanceMethod yX3_laterGroup, Cond.selects RX3 yX3_laterGroup yX3_laterGroup, Cond.code yX3_laterGroup cX3_laterGroup 4 none, Cond.fieldLink RX3 32 "CodedGroups$Receiver" "even" "Z", Cond.fieldLink RX3 12 "CodedGroups$Receiver" "log" "LCodedGroups$SymbolLog;", Cond.fieldLink RX3 21 "CodedGroups$Receiver" "shelf" "LCodedGroups$FrameShelf;", Cond.methodLink RX3 82 yX3_climb, Cond.instanceMethod yX3_climb, Cond.selects RX3 yX3_climb yX3_climb, Cond.code yX3_climb cX3_climb 3 none, Cond.fieldLink RX3 42 "CodedGroups$Receiver" "faith" "I", Cond.fieldLink RX3 45 "CodedGroups$Receiver" "goodInRow" "I", Cond.methodLink RX3 79 yX3_searchAgain, Cond.instanceMethod yX3_searchAgain, Cond.selects RX3 yX3_searchAgain yX3_searchAgain, Cond.code yX3_searchAgain cX3_searchAgain 1 none]
def wsX3_accept_r4 : List Cond := [Cond.fieldLink RX3 54 "CodedGroups$Receiver" "searches" "I", Cond.methodLink RX3 108 yX1_lose, Cond.instanceMethod yX1_lose, Cond.selects RX1 yX1_lose yX1_lose, Cond.initialized RX1, Cond.code yX1_lose cX1_lose 1 none, Cond.fieldLink RX1 29 "CodedGroups$FrameShelf" "state" "I", Cond.methodLink RX1 42 yX1_finish, Cond.instanceMethod yX1_finish, Cond.selects RX1 yX1_finish yX1_finish, Cond.code yX1_finish cX1_finish 2 none, Cond.fieldLink RX1 18 "CodedGroups$FrameShelf" "wholes" "[Z", Cond.fieldLink RX1 22 "CodedGroups$FrameShelf" "slot" "I", Cond.fieldLink RX1 36 "CodedGroups$FrameShelf" "ended" "I", Cond.fieldLink RX1 39 "CodedGroups$FrameShelf" "endedWhole" "I", Cond.fieldLink RX1 26 "CodedGroups$FrameShelf" "kept" "I", Cond.methodLink RX3 86 yX5_keep, Cond.instanceMethod yX5_keep, Cond.selects RX5 yX5_keep yX5_keep, Cond.initialized RX5, Cond.code yX5_keep cX5_keep 2 none, Cond.fieldLink RX5 15 "CodedGroups$SymbolLog" "next" "I", Cond.fieldLink RX5 11 "CodedGroups$SymbolLog" "row" "[I", Cond.fieldLink RX5 19 "CodedGroups$SymbolLog" "kept" "I"]
def wsX3_accept_r5 : List Cond := [Cond.methodLink RX5 25 Lib.Math.min.name, Cond.static Lib.Math.min.name, Cond.initialized "java/lang/Math", Cond.code Lib.Math.min.name Lib.Math.min.code 2 (some .int), Cond.fieldLink RX5 22 "CodedGroups$SymbolLog" "received" "I", Cond.methodLink RX3 89 yX1_look, Cond.instanceMethod yX1_look, Cond.selects RX1 yX1_look yX1_look, Cond.code yX1_look cX1_look 2 none, Cond.fieldLink RX1 32 "CodedGroups$FrameShelf" "broken" "Z", Cond.methodLink RX1 46 yX1_lose, Cond.methodLink RX1 49 yX1_begin, Cond.instanceMethod yX1_begin, Cond.selects RX1 yX1_begin yX1_begin, Cond.code yX1_begin cX1_begin 1 none, Cond.fieldLink RX1 15 "CodedGroups$FrameShelf" "lengths" "[I", Cond.methodLink RX1 52 yX1_lookInside, Cond.instanceMethod yX1_lookInside, Cond.selects RX1 yX1_lookInside yX1_lookInside, Cond.code yX1_lookInside cX1_lookInside 2 none, Cond.methodLink RX1 56 yX1_addByte, Cond.instanceMethod yX1_addByte, Cond.selects RX1 yX1_addByte yX1_addByte, Cond.code yX1_addByte cX1_addByte 5 none]
def wsX3_accept_r6 : List Cond := [Cond.fieldLink RX1 11 "CodedGroups$FrameShelf" "words" "[I", Cond.methodLink RX3 92 yX3_weigh, Cond.instanceMethod yX3_weigh, Cond.selects RX3 yX3_weigh yX3_weigh, Cond.code yX3_weigh cX3_weigh 2 none, Cond.methodLink RX3 103 Lib.Math.min.name, Cond.methodLink RX3 71 yX0_leanBeforeComma, Cond.static yX0_leanBeforeComma, Cond.code yX0_leanBeforeComma cX0_leanBeforeComma 1 (some .int), Cond.methodLink RX3 75 yX3_firstGroup, Cond.instanceMethod yX3_firstGroup, Cond.selects RX3 yX3_firstGroup yX3_firstGroup, Cond.code yX3_firstGroup cX3_firstGroup 2 none]
def wsX3_accept : List Cond := .code yX3_accept cX3_accept 3 none :: ((wsX3_accept_r1 ++ (wsX3_accept_r2 ++ (wsX3_accept_r3 ++ (wsX3_accept_r4 ++ (wsX3_accept_r5 ++ wsX3_accept_r6))))) ++ wsX30 ++ wsX10 ++ wsX50)
def wsX4_init : List Cond := .code yX4_init cX4_init 1 none :: ([.methodLink RX4 3 objectInit, .instanceMethod objectInit, .code objectInit ⟨#[0xb1]⟩ 1 none, .arrayClass .int, .fieldLink RX4 11 "CodedGroups$Sender" "tape" "[I", .fieldLink RX4 15 "CodedGroups$Sender" "taped" "I", .fieldLink RX4 19 "CodedGroups$Sender" "lean" "I", .fieldLink RX4 22 "CodedGroups$Sender" "sent" "I"] ++ wsX40)
def wsX4_put_r1 : List Cond := [Cond.fieldLink RX4 19 "CodedGroups$Sender" "lean" "I", Cond.fieldLink RX4 22 "CodedGroups$Sender" "sent" "I", Cond.methodLink RX4 25 yX0_groupOf, Cond.static yX0_groupOf, Cond.initialized RX0, Cond.code yX0_groupOf cX0_groupOf 6 (some .int), Cond.methodLink RX0 15 yX0_sixOf, Cond.static yX0_sixOf, Cond.code yX0_sixOf cX0_sixOf 3 (some .int), Cond.fieldLink RX0 27 "CodedGroups$Code" "SIX_MINUS" "[I", Cond.fieldLink RX0 31 "CodedGroups$Code" "SIX_PLUS" "[I", Cond.methodLink RX0 19 yX0_behindSix, Cond.static yX0_behindSix, Cond.code yX0_behindSix cX0_behindSix 3 (some .int), Cond.methodLink RX0 46 yJ6_bitCount_0f7a4, Cond.static yJ6_bitCount_0f7a4, Cond.initialized RJ6, Cond.code yJ6_bitCount_0f7a4 cJ6_bitCount_0f7a4 1 (some .int), Cond.constant RJ6 265 (1431655765), Cond.constant RJ6 266 (858993459), Cond.constant RJ6 267 (252645135), Cond.methodLink RX0 23 yX0_fourOf, Cond.static yX0_fourOf, Cond.code yX0_fourOf cX0_fourOf 4 (some .int)]
def wsX4_put_r2 : List Cond := [Cond.fieldLink RX0 34 "CodedGroups$Code" "SIGN_FOUR_MINUS" "[I", Cond.fieldLink RX0 37 "CodedGroups$Code" "SIGN_FOUR_PLUS" "[I", Cond.fieldLink RX0 40 "CodedGroups$Code" "FOUR_MINUS" "[I", Cond.fieldLink RX0 43 "CodedGroups$Code" "FOUR_PLUS" "[I", Cond.methodLink RX4 31 yX2_append, Cond.instanceMethod yX2_append, Cond.selects RX2 yX2_append yX2_append, Cond.initialized RX2, Cond.code yX2_append cX2_append 2 (some .boolean), Cond.fieldLink RX2 15 "CodedGroups$Line" "held" "I", Cond.fieldLink RX2 11 "CodedGroups$Line" "bits" "[B", Cond.methodLink RX4 37 yX0_behindGroup, Cond.static yX0_behindGroup, Cond.code yX0_behindGroup cX0_behindGroup 2 (some .int), Cond.methodLink RX0 52 yX0_behindFour, Cond.static yX0_behindFour, Cond.code yX0_behindFour cX0_behindFour 3 (some .int)]
def wsX4_put : List Cond := .code yX4_put cX4_put 6 (some .int) :: ((wsX4_put_r1 ++ wsX4_put_r2) ++ wsX40 ++ wsX20)
def wsX4_putIdle_r1 : List Cond := [Cond.fieldLink RX4 19 "CodedGroups$Sender" "lean" "I", Cond.methodLink RX4 41 yX2_hasRoomFor, Cond.instanceMethod yX2_hasRoomFor, Cond.selects RX2 yX2_hasRoomFor yX2_hasRoomFor, Cond.initialized RX2, Cond.code yX2_hasRoomFor cX2_hasRoomFor 2 (some .boolean), Cond.fieldLink RX2 15 "CodedGroups$Line" "held" "I", Cond.methodLink RX4 44 yX4_put, Cond.instanceMethod yX4_put, Cond.selects RX4 yX4_put yX4_put, Cond.initialized RX4, Cond.code yX4_put cX4_put 6 (some .int), Cond.fieldLink RX4 22 "CodedGroups$Sender" "sent" "I", Cond.methodLink RX4 25 yX0_groupOf, Cond.static yX0_groupOf, Cond.initialized RX0, Cond.code yX0_groupOf cX0_groupOf 6 (some .int), Cond.methodLink RX0 15 yX0_sixOf, Cond.static yX0_sixOf, Cond.code yX0_sixOf cX0_sixOf 3 (some .int), Cond.fieldLink RX0 27 "CodedGroups$Code" "SIX_MINUS" "[I", Cond.fieldLink RX0 31 "CodedGroups$Code" "SIX_PLUS" "[I", Cond.methodLink RX0 19 yX0_behindSix, Cond.static yX0_behindSix]
def wsX4_putIdle_r2 : List Cond := [Cond.code yX0_behindSix cX0_behindSix 3 (some .int), Cond.methodLink RX0 46 yJ6_bitCount_0f7a4, Cond.static yJ6_bitCount_0f7a4, Cond.initialized RJ6, Cond.code yJ6_bitCount_0f7a4 cJ6_bitCount_0f7a4 1 (some .int), Cond.constant RJ6 265 (1431655765), Cond.constant RJ6 266 (858993459), Cond.constant RJ6 267 (252645135), Cond.methodLink RX0 23 yX0_fourOf, Cond.static yX0_fourOf, Cond.code yX0_fourOf cX0_fourOf 4 (some .int), Cond.fieldLink RX0 34 "CodedGroups$Code" "SIGN_FOUR_MINUS" "[I", Cond.fieldLink RX0 37 "CodedGroups$Code" "SIGN_FOUR_PLUS" "[I", Cond.fieldLink RX0 40 "CodedGroups$Code" "FOUR_MINUS" "[I", Cond.fieldLink RX0 43 "CodedGroups$Code" "FOUR_PLUS" "[I", Cond.methodLink RX4 31 yX2_append, Cond.instanceMethod yX2_append, Cond.selects RX2 yX2_append yX2_append, Cond.code yX2_append cX2_append 2 (some .boolean), Cond.fieldLink RX2 11 "CodedGroups$Line" "bits" "[B", Cond.methodLink RX4 37 yX0_behindGroup, Cond.static yX0_behindGroup, Cond.code yX0_behindGroup cX0_behindGroup 2 (some .int), Cond.methodLink RX0 52 yX0_behindFour]
def wsX4_putIdle_r3 : List Cond := [Cond.static yX0_behindFour, Cond.code yX0_behindFour cX0_behindFour 3 (some .int)]
def wsX4_putIdle : List Cond := .code yX4_putIdle cX4_putIdle 3 (some .boolean) :: ((wsX4_putIdle_r1 ++ (wsX4_putIdle_r2 ++ wsX4_putIdle_r3)) ++ wsX40 ++ wsX20)
def wsX4_keepOnTape : List Cond := .code yX4_keepOnTape cX4_keepOnTape 2 (some .boolean) :: ([.fieldLink RX4 15 "CodedGroups$Sender" "taped" "I", .fieldLink RX4 11 "CodedGroups$Sender" "tape" "[I"] ++ wsX40)
def wsX4_frameGroups : List Cond := .code yX4_frameGroups cX4_frameGroups 2 (some .int) :: ([.fieldLink RX4 15 "CodedGroups$Sender" "taped" "I", .fieldLink RX4 22 "CodedGroups$Sender" "sent" "I"] ++ wsX40)
def wsX4_putFrame_r1 : List Cond := [Cond.fieldLink RX4 15 "CodedGroups$Sender" "taped" "I", Cond.fieldLink RX4 11 "CodedGroups$Sender" "tape" "[I", Cond.fieldLink RX4 22 "CodedGroups$Sender" "sent" "I", Cond.methodLink RX4 48 yX4_frameGroups, Cond.instanceMethod yX4_frameGroups, Cond.selects RX4 yX4_frameGroups yX4_frameGroups, Cond.initialized RX4, Cond.code yX4_frameGroups cX4_frameGroups 2 (some .int), Cond.methodLink RX4 41 yX2_hasRoomFor, Cond.instanceMethod yX2_hasRoomFor, Cond.selects RX2 yX2_hasRoomFor yX2_hasRoomFor, Cond.initialized RX2, Cond.code yX2_hasRoomFor cX2_hasRoomFor 2 (some .boolean), Cond.fieldLink RX2 15 "CodedGroups$Line" "held" "I", Cond.methodLink RX4 44 yX4_put, Cond.instanceMethod yX4_put, Cond.selects RX4 yX4_put yX4_put, Cond.code yX4_put cX4_put 6 (some .int), Cond.fieldLink RX4 19 "CodedGroups$Sender" "lean" "I", Cond.methodLink RX4 25 yX0_groupOf, Cond.static yX0_groupOf, Cond.initialized RX0, Cond.code yX0_groupOf cX0_groupOf 6 (some .int), Cond.methodLink RX0 15 yX0_sixOf]
def wsX4_putFrame_r2 : List Cond := [Cond.static yX0_sixOf, Cond.code yX0_sixOf cX0_sixOf 3 (some .int), Cond.fieldLink RX0 27 "CodedGroups$Code" "SIX_MINUS" "[I", Cond.fieldLink RX0 31 "CodedGroups$Code" "SIX_PLUS" "[I", Cond.methodLink RX0 19 yX0_behindSix, Cond.static yX0_behindSix, Cond.code yX0_behindSix cX0_behindSix 3 (some .int), Cond.methodLink RX0 46 yJ6_bitCount_0f7a4, Cond.static yJ6_bitCount_0f7a4, Cond.initialized RJ6, Cond.code yJ6_bitCount_0f7a4 cJ6_bitCount_0f7a4 1 (some .int), Cond.constant RJ6 265 (1431655765), Cond.constant RJ6 266 (858993459), Cond.constant RJ6 267 (252645135), Cond.methodLink RX0 23 yX0_fourOf, Cond.static yX0_fourOf, Cond.code yX0_fourOf cX0_fourOf 4 (some .int), Cond.fieldLink RX0 34 "CodedGroups$Code" "SIGN_FOUR_MINUS" "[I", Cond.fieldLink RX0 37 "CodedGroups$Code" "SIGN_FOUR_PLUS" "[I", Cond.fieldLink RX0 40 "CodedGroups$Code" "FOUR_MINUS" "[I", Cond.fieldLink RX0 43 "CodedGroups$Code" "FOUR_PLUS" "[I", Cond.methodLink RX4 31 yX2_append, Cond.instanceMethod yX2_append, Cond.selects RX2 yX2_append yX2_append]
def wsX4_putFrame_r3 : List Cond := [Cond.code yX2_append cX2_append 2 (some .boolean), Cond.fieldLink RX2 11 "CodedGroups$Line" "bits" "[B", Cond.methodLink RX4 37 yX0_behindGroup, Cond.static yX0_behindGroup, Cond.code yX0_behindGroup cX0_behindGroup 2 (some .int), Cond.methodLink RX0 52 yX0_behindFour, Cond.static yX0_behindFour, Cond.code yX0_behindFour cX0_behindFour 3 (some .int)]
def wsX4_putFrame : List Cond := .code yX4_putFrame cX4_putFrame 4 (some .int) :: ((wsX4_putFrame_r1 ++ (wsX4_putFrame_r2 ++ wsX4_putFrame_r3)) ++ wsX40 ++ wsX20)
def wsX5_latest : List Cond := .code yX5_latest cX5_latest 3 (some .int) :: ([.fieldLink RX5 19 "CodedGroups$SymbolLog" "kept" "I", .fieldLink RX5 15 "CodedGroups$SymbolLog" "next" "I", .fieldLink RX5 11 "CodedGroups$SymbolLog" "row" "[I"] ++ wsX50)
def wsX6_init_r1 : List Cond := [Cond.methodLink RX6 1 objectInit, Cond.instanceMethod objectInit, Cond.code objectInit ⟨#[0xb1]⟩ 1 none, Cond.classLink RX6 7 RX2, Cond.instantiable RX2 2, Cond.initialized RX2, Cond.fieldLink RX6 10 "CodedGroups" "wire" "LCodedGroups$Line;", Cond.classLink RX6 16 RX4, Cond.instantiable RX4 4, Cond.initialized RX4, Cond.fieldLink RX6 19 "CodedGroups" "sender" "LCodedGroups$Sender;", Cond.classLink RX6 23 RX3, Cond.instantiable RX3 12, Cond.initialized RX3, Cond.fieldLink RX6 26 "CodedGroups" "receiver" "LCodedGroups$Receiver;", Cond.instanceMethod yX2_init, Cond.code yX2_init cX2_init 1 none, Cond.methodLink RX2 3 objectInit, Cond.arrayClass .byte, Cond.fieldLink RX2 11 "CodedGroups$Line" "bits" "[B", Cond.fieldLink RX2 15 "CodedGroups$Line" "held" "I", Cond.instanceMethod yX4_init, Cond.code yX4_init cX4_init 1 none, Cond.methodLink RX4 3 objectInit]
def wsX6_init_r2 : List Cond := [Cond.arrayClass .int, Cond.fieldLink RX4 11 "CodedGroups$Sender" "tape" "[I", Cond.fieldLink RX4 15 "CodedGroups$Sender" "taped" "I", Cond.fieldLink RX4 19 "CodedGroups$Sender" "lean" "I", Cond.fieldLink RX4 22 "CodedGroups$Sender" "sent" "I", Cond.instanceMethod yX3_init, Cond.code yX3_init cX3_init 1 none, Cond.methodLink RX3 3 objectInit, Cond.classLink RX3 9 RX5, Cond.instantiable RX5 4, Cond.initialized RX5, Cond.fieldLink RX3 12 "CodedGroups$Receiver" "log" "LCodedGroups$SymbolLog;", Cond.classLink RX3 18 RX1, Cond.instantiable RX1 9, Cond.initialized RX1, Cond.fieldLink RX3 21 "CodedGroups$Receiver" "shelf" "LCodedGroups$FrameShelf;", Cond.fieldLink RX3 25 "CodedGroups$Receiver" "window" "I", Cond.fieldLink RX3 29 "CodedGroups$Receiver" "windowBits" "I", Cond.fieldLink RX3 32 "CodedGroups$Receiver" "even" "Z", Cond.fieldLink RX3 36 "CodedGroups$Receiver" "lean" "I", Cond.fieldLink RX3 39 "CodedGroups$Receiver" "rank" "I", Cond.fieldLink RX3 42 "CodedGroups$Receiver" "faith" "I", Cond.fieldLink RX3 45 "CodedGroups$Receiver" "goodInRow" "I", Cond.fieldLink RX3 48 "CodedGroups$Receiver" "groups" "I"]
def wsX6_init_r3 : List Cond := [Cond.fieldLink RX3 51 "CodedGroups$Receiver" "badGroups" "I", Cond.fieldLink RX3 54 "CodedGroups$Receiver" "searches" "I", Cond.instanceMethod yX5_init, Cond.code yX5_init cX5_init 1 none, Cond.methodLink RX5 3 objectInit, Cond.fieldLink RX5 11 "CodedGroups$SymbolLog" "row" "[I", Cond.fieldLink RX5 15 "CodedGroups$SymbolLog" "next" "I", Cond.fieldLink RX5 19 "CodedGroups$SymbolLog" "kept" "I", Cond.fieldLink RX5 22 "CodedGroups$SymbolLog" "received" "I", Cond.instanceMethod yX1_init, Cond.code yX1_init cX1_init 1 none, Cond.methodLink RX1 5 objectInit, Cond.fieldLink RX1 11 "CodedGroups$FrameShelf" "words" "[I", Cond.fieldLink RX1 15 "CodedGroups$FrameShelf" "lengths" "[I", Cond.arrayClass .boolean, Cond.fieldLink RX1 18 "CodedGroups$FrameShelf" "wholes" "[Z", Cond.fieldLink RX1 22 "CodedGroups$FrameShelf" "slot" "I", Cond.fieldLink RX1 26 "CodedGroups$FrameShelf" "kept" "I", Cond.fieldLink RX1 29 "CodedGroups$FrameShelf" "state" "I", Cond.fieldLink RX1 32 "CodedGroups$FrameShelf" "broken" "Z", Cond.fieldLink RX1 36 "CodedGroups$FrameShelf" "ended" "I", Cond.fieldLink RX1 39 "CodedGroups$FrameShelf" "endedWhole" "I"]
def wsX6_init : List Cond := .code yX6_init cX6_init 1 none :: ((wsX6_init_r1 ++ (wsX6_init_r2 ++ wsX6_init_r3)) ++ wsX20 ++ wsX60 ++ wsX40 ++ wsX30 ++ wsX50 ++ wsX10)
def wsX6_send_r1 : List Cond := [Cond.fieldLink RX6 10 "CodedGroups" "wire" "LCodedGroups$Line;", Cond.fieldLink RX6 19 "CodedGroups" "sender" "LCodedGroups$Sender;", Cond.methodLink RX6 30 yX0_isSymbol, Cond.static yX0_isSymbol, Cond.initialized RX0, Cond.code yX0_isSymbol cX0_isSymbol 2 (some .boolean), Cond.methodLink RX0 9 yX0_isSign, Cond.static yX0_isSign, Cond.code yX0_isSign cX0_isSign 2 (some .boolean), Cond.methodLink RX6 36 yX2_hasRoomFor, Cond.instanceMethod yX2_hasRoomFor, Cond.selects RX2 yX2_hasRoomFor yX2_hasRoomFor, Cond.initialized RX2, Cond.code yX2_hasRoomFor cX2_hasRoomFor 2 (some .boolean), Cond.fieldLink RX2 15 "CodedGroups$Line" "held" "I", Cond.methodLink RX6 40 yX4_put, Cond.instanceMethod yX4_put, Cond.selects RX4 yX4_put yX4_put, Cond.initialized RX4, Cond.code yX4_put cX4_put 6 (some .int), Cond.fieldLink RX4 19 "CodedGroups$Sender" "lean" "I", Cond.fieldLink RX4 22 "CodedGroups$Sender" "sent" "I", Cond.methodLink RX4 25 yX0_groupOf, Cond.static yX0_groupOf]
def wsX6_send_r2 : List Cond := [Cond.code yX0_groupOf cX0_groupOf 6 (some .int), Cond.methodLink RX0 15 yX0_sixOf, Cond.static yX0_sixOf, Cond.code yX0_sixOf cX0_sixOf 3 (some .int), Cond.fieldLink RX0 27 "CodedGroups$Code" "SIX_MINUS" "[I", Cond.fieldLink RX0 31 "CodedGroups$Code" "SIX_PLUS" "[I", Cond.methodLink RX0 19 yX0_behindSix, Cond.static yX0_behindSix, Cond.code yX0_behindSix cX0_behindSix 3 (some .int), Cond.methodLink RX0 46 yJ6_bitCount_0f7a4, Cond.static yJ6_bitCount_0f7a4, Cond.initialized RJ6, Cond.code yJ6_bitCount_0f7a4 cJ6_bitCount_0f7a4 1 (some .int), Cond.constant RJ6 265 (1431655765), Cond.constant RJ6 266 (858993459), Cond.constant RJ6 267 (252645135), Cond.methodLink RX0 23 yX0_fourOf, Cond.static yX0_fourOf, Cond.code yX0_fourOf cX0_fourOf 4 (some .int), Cond.fieldLink RX0 34 "CodedGroups$Code" "SIGN_FOUR_MINUS" "[I", Cond.fieldLink RX0 37 "CodedGroups$Code" "SIGN_FOUR_PLUS" "[I", Cond.fieldLink RX0 40 "CodedGroups$Code" "FOUR_MINUS" "[I", Cond.fieldLink RX0 43 "CodedGroups$Code" "FOUR_PLUS" "[I", Cond.methodLink RX4 31 yX2_append]
def wsX6_send_r3 : List Cond := [Cond.instanceMethod yX2_append, Cond.selects RX2 yX2_append yX2_append, Cond.code yX2_append cX2_append 2 (some .boolean), Cond.fieldLink RX2 11 "CodedGroups$Line" "bits" "[B", Cond.methodLink RX4 37 yX0_behindGroup, Cond.static yX0_behindGroup, Cond.code yX0_behindGroup cX0_behindGroup 2 (some .int), Cond.methodLink RX0 52 yX0_behindFour, Cond.static yX0_behindFour, Cond.code yX0_behindFour cX0_behindFour 3 (some .int)]
def wsX6_send : List Cond := .code yX6_send cX6_send 3 (some .int) :: ((wsX6_send_r1 ++ (wsX6_send_r2 ++ wsX6_send_r3)) ++ wsX60 ++ wsX20 ++ wsX40)
def wsX6_idle_r1 : List Cond := [Cond.fieldLink RX6 19 "CodedGroups" "sender" "LCodedGroups$Sender;", Cond.fieldLink RX6 10 "CodedGroups" "wire" "LCodedGroups$Line;", Cond.methodLink RX6 44 yX4_putIdle, Cond.instanceMethod yX4_putIdle, Cond.selects RX4 yX4_putIdle yX4_putIdle, Cond.initialized RX4, Cond.code yX4_putIdle cX4_putIdle 3 (some .boolean), Cond.fieldLink RX4 19 "CodedGroups$Sender" "lean" "I", Cond.methodLink RX4 41 yX2_hasRoomFor, Cond.instanceMethod yX2_hasRoomFor, Cond.selects RX2 yX2_hasRoomFor yX2_hasRoomFor, Cond.initialized RX2, Cond.code yX2_hasRoomFor cX2_hasRoomFor 2 (some .boolean), Cond.fieldLink RX2 15 "CodedGroups$Line" "held" "I", Cond.methodLink RX4 44 yX4_put, Cond.instanceMethod yX4_put, Cond.selects RX4 yX4_put yX4_put, Cond.code yX4_put cX4_put 6 (some .int), Cond.fieldLink RX4 22 "CodedGroups$Sender" "sent" "I", Cond.methodLink RX4 25 yX0_groupOf, Cond.static yX0_groupOf, Cond.initialized RX0, Cond.code yX0_groupOf cX0_groupOf 6 (some .int), Cond.methodLink RX0 15 yX0_sixOf]
def wsX6_idle_r2 : List Cond := [Cond.static yX0_sixOf, Cond.code yX0_sixOf cX0_sixOf 3 (some .int), Cond.fieldLink RX0 27 "CodedGroups$Code" "SIX_MINUS" "[I", Cond.fieldLink RX0 31 "CodedGroups$Code" "SIX_PLUS" "[I", Cond.methodLink RX0 19 yX0_behindSix, Cond.static yX0_behindSix, Cond.code yX0_behindSix cX0_behindSix 3 (some .int), Cond.methodLink RX0 46 yJ6_bitCount_0f7a4, Cond.static yJ6_bitCount_0f7a4, Cond.initialized RJ6, Cond.code yJ6_bitCount_0f7a4 cJ6_bitCount_0f7a4 1 (some .int), Cond.constant RJ6 265 (1431655765), Cond.constant RJ6 266 (858993459), Cond.constant RJ6 267 (252645135), Cond.methodLink RX0 23 yX0_fourOf, Cond.static yX0_fourOf, Cond.code yX0_fourOf cX0_fourOf 4 (some .int), Cond.fieldLink RX0 34 "CodedGroups$Code" "SIGN_FOUR_MINUS" "[I", Cond.fieldLink RX0 37 "CodedGroups$Code" "SIGN_FOUR_PLUS" "[I", Cond.fieldLink RX0 40 "CodedGroups$Code" "FOUR_MINUS" "[I", Cond.fieldLink RX0 43 "CodedGroups$Code" "FOUR_PLUS" "[I", Cond.methodLink RX4 31 yX2_append, Cond.instanceMethod yX2_append, Cond.selects RX2 yX2_append yX2_append]
def wsX6_idle_r3 : List Cond := [Cond.code yX2_append cX2_append 2 (some .boolean), Cond.fieldLink RX2 11 "CodedGroups$Line" "bits" "[B", Cond.methodLink RX4 37 yX0_behindGroup, Cond.static yX0_behindGroup, Cond.code yX0_behindGroup cX0_behindGroup 2 (some .int), Cond.methodLink RX0 52 yX0_behindFour, Cond.static yX0_behindFour, Cond.code yX0_behindFour cX0_behindFour 3 (some .int)]
def wsX6_idle : List Cond := .code yX6_idle cX6_idle 1 (some .boolean) :: ((wsX6_idle_r1 ++ (wsX6_idle_r2 ++ wsX6_idle_r3)) ++ wsX60 ++ wsX40 ++ wsX20)
def wsX6_feed : List Cond := .code yX6_feed cX6_feed 2 (some .boolean) :: ([.fieldLink RX6 19 "CodedGroups" "sender" "LCodedGroups$Sender;", .methodLink RX6 48 yX4_keepOnTape, .instanceMethod yX4_keepOnTape, .selects RX4 yX4_keepOnTape yX4_keepOnTape, .initialized RX4, .code yX4_keepOnTape cX4_keepOnTape 2 (some .boolean), .fieldLink RX4 15 "CodedGroups$Sender" "taped" "I", .fieldLink RX4 11 "CodedGroups$Sender" "tape" "[I"] ++ wsX60 ++ wsX40)
def wsX6_frame_r1 : List Cond := [Cond.fieldLink RX6 19 "CodedGroups" "sender" "LCodedGroups$Sender;", Cond.fieldLink RX6 10 "CodedGroups" "wire" "LCodedGroups$Line;", Cond.methodLink RX6 51 yX4_putFrame, Cond.instanceMethod yX4_putFrame, Cond.selects RX4 yX4_putFrame yX4_putFrame, Cond.initialized RX4, Cond.code yX4_putFrame cX4_putFrame 4 (some .int), Cond.fieldLink RX4 15 "CodedGroups$Sender" "taped" "I", Cond.fieldLink RX4 11 "CodedGroups$Sender" "tape" "[I", Cond.fieldLink RX4 22 "CodedGroups$Sender" "sent" "I", Cond.methodLink RX4 48 yX4_frameGroups, Cond.instanceMethod yX4_frameGroups, Cond.selects RX4 yX4_frameGroups yX4_frameGroups, Cond.code yX4_frameGroups cX4_frameGroups 2 (some .int), Cond.methodLink RX4 41 yX2_hasRoomFor, Cond.instanceMethod yX2_hasRoomFor, Cond.selects RX2 yX2_hasRoomFor yX2_hasRoomFor, Cond.initialized RX2, Cond.code yX2_hasRoomFor cX2_hasRoomFor 2 (some .boolean), Cond.fieldLink RX2 15 "CodedGroups$Line" "held" "I", Cond.methodLink RX4 44 yX4_put, Cond.instanceMethod yX4_put, Cond.selects RX4 yX4_put yX4_put, Cond.code yX4_put cX4_put 6 (some .int)]
def wsX6_frame_r2 : List Cond := [Cond.fieldLink RX4 19 "CodedGroups$Sender" "lean" "I", Cond.methodLink RX4 25 yX0_groupOf, Cond.static yX0_groupOf, Cond.initialized RX0, Cond.code yX0_groupOf cX0_groupOf 6 (some .int), Cond.methodLink RX0 15 yX0_sixOf, Cond.static yX0_sixOf, Cond.code yX0_sixOf cX0_sixOf 3 (some .int), Cond.fieldLink RX0 27 "CodedGroups$Code" "SIX_MINUS" "[I", Cond.fieldLink RX0 31 "CodedGroups$Code" "SIX_PLUS" "[I", Cond.methodLink RX0 19 yX0_behindSix, Cond.static yX0_behindSix, Cond.code yX0_behindSix cX0_behindSix 3 (some .int), Cond.methodLink RX0 46 yJ6_bitCount_0f7a4, Cond.static yJ6_bitCount_0f7a4, Cond.initialized RJ6, Cond.code yJ6_bitCount_0f7a4 cJ6_bitCount_0f7a4 1 (some .int), Cond.constant RJ6 265 (1431655765), Cond.constant RJ6 266 (858993459), Cond.constant RJ6 267 (252645135), Cond.methodLink RX0 23 yX0_fourOf, Cond.static yX0_fourOf, Cond.code yX0_fourOf cX0_fourOf 4 (some .int), Cond.fieldLink RX0 34 "CodedGroups$Code" "SIGN_FOUR_MINUS" "[I"]
def wsX6_frame_r3 : List Cond := [Cond.fieldLink RX0 37 "CodedGroups$Code" "SIGN_FOUR_PLUS" "[I", Cond.fieldLink RX0 40 "CodedGroups$Code" "FOUR_MINUS" "[I", Cond.fieldLink RX0 43 "CodedGroups$Code" "FOUR_PLUS" "[I", Cond.methodLink RX4 31 yX2_append, Cond.instanceMethod yX2_append, Cond.selects RX2 yX2_append yX2_append, Cond.code yX2_append cX2_append 2 (some .boolean), Cond.fieldLink RX2 11 "CodedGroups$Line" "bits" "[B", Cond.methodLink RX4 37 yX0_behindGroup, Cond.static yX0_behindGroup, Cond.code yX0_behindGroup cX0_behindGroup 2 (some .int), Cond.methodLink RX0 52 yX0_behindFour, Cond.static yX0_behindFour, Cond.code yX0_behindFour cX0_behindFour 3 (some .int)]
def wsX6_frame : List Cond := .code yX6_frame cX6_frame 1 (some .int) :: ((wsX6_frame_r1 ++ (wsX6_frame_r2 ++ wsX6_frame_r3)) ++ wsX60 ++ wsX40 ++ wsX20)
def wsX6_bit : List Cond := .code yX6_bit cX6_bit 2 (some .boolean) :: ([.fieldLink RX6 10 "CodedGroups" "wire" "LCodedGroups$Line;", .methodLink RX6 55 yX2_append, .instanceMethod yX2_append, .selects RX2 yX2_append yX2_append, .initialized RX2, .code yX2_append cX2_append 2 (some .boolean), .fieldLink RX2 15 "CodedGroups$Line" "held" "I", .fieldLink RX2 11 "CodedGroups$Line" "bits" "[B"] ++ wsX60 ++ wsX20)
def wsX6_turn : List Cond := .code yX6_turn cX6_turn 2 (some .boolean) :: ([.fieldLink RX6 10 "CodedGroups" "wire" "LCodedGroups$Line;", .methodLink RX6 58 yX2_flip, .instanceMethod yX2_flip, .selects RX2 yX2_flip yX2_flip, .initialized RX2, .code yX2_flip cX2_flip 2 (some .boolean), .fieldLink RX2 11 "CodedGroups$Line" "bits" "[B", .methodLink RX2 19 yX2_has, .instanceMethod yX2_has, .selects RX2 yX2_has yX2_has, .code yX2_has cX2_has 2 (some .boolean), .fieldLink RX2 15 "CodedGroups$Line" "held" "I"] ++ wsX60 ++ wsX20)
def wsX6_drop : List Cond := .code yX6_drop cX6_drop 2 (some .boolean) :: ([.fieldLink RX6 10 "CodedGroups" "wire" "LCodedGroups$Line;", .methodLink RX6 61 yX2_leaveOut, .instanceMethod yX2_leaveOut, .selects RX2 yX2_leaveOut yX2_leaveOut, .initialized RX2, .code yX2_leaveOut cX2_leaveOut 2 (some .boolean), .fieldLink RX2 11 "CodedGroups$Line" "bits" "[B", .fieldLink RX2 15 "CodedGroups$Line" "held" "I", .methodLink RX2 23 arraycopyName, .native arraycopyName, .static arraycopyName, .initialized "java/lang/System", .methodLink RX2 19 yX2_has, .instanceMethod yX2_has, .selects RX2 yX2_has yX2_has, .code yX2_has cX2_has 2 (some .boolean)] ++ wsX60 ++ wsX20)
def wsX6_line : List Cond := .code yX6_line cX6_line 2 (some .int) :: ([.fieldLink RX6 10 "CodedGroups" "wire" "LCodedGroups$Line;", .methodLink RX6 64 yX2_get, .instanceMethod yX2_get, .selects RX2 yX2_get yX2_get, .initialized RX2, .code yX2_get cX2_get 2 (some .int), .fieldLink RX2 11 "CodedGroups$Line" "bits" "[B", .methodLink RX2 19 yX2_has, .instanceMethod yX2_has, .selects RX2 yX2_has yX2_has, .code yX2_has cX2_has 2 (some .boolean), .fieldLink RX2 15 "CodedGroups$Line" "held" "I"] ++ wsX60 ++ wsX20)
def wsX6_size : List Cond := .code yX6_size cX6_size 1 (some .int) :: ([.fieldLink RX6 10 "CodedGroups" "wire" "LCodedGroups$Line;"] ++ wsX60 ++ wsX20)
def wsX6_disparity : List Cond := .code yX6_disparity cX6_disparity 2 (some .int) :: ([.fieldLink RX6 19 "CodedGroups" "sender" "LCodedGroups$Sender;", .fieldLink RX6 26 "CodedGroups" "receiver" "LCodedGroups$Receiver;"] ++ wsX60 ++ wsX40 ++ wsX30)
def wsX6_take_r1 : List Cond := [Cond.fieldLink RX6 10 "CodedGroups" "wire" "LCodedGroups$Line;", Cond.methodLink RX6 76 Lib.Math.min.name, Cond.static Lib.Math.min.name, Cond.initialized "java/lang/Math", Cond.code Lib.Math.min.name Lib.Math.min.code 2 (some .int), Cond.fieldLink RX6 26 "CodedGroups" "receiver" "LCodedGroups$Receiver;", Cond.methodLink RX6 64 yX2_get, Cond.instanceMethod yX2_get, Cond.selects RX2 yX2_get yX2_get, Cond.initialized RX2, Cond.code yX2_get cX2_get 2 (some .int), Cond.fieldLink RX2 11 "CodedGroups$Line" "bits" "[B", Cond.methodLink RX2 19 yX2_has, Cond.instanceMethod yX2_has, Cond.selects RX2 yX2_has yX2_has, Cond.code yX2_has cX2_has 2 (some .boolean), Cond.fieldLink RX2 15 "CodedGroups$Line" "held" "I", Cond.methodLink RX6 82 yX3_accept, Cond.instanceMethod yX3_accept, Cond.selects RX3 yX3_accept yX3_accept, Cond.initialized RX3, Cond.code yX3_accept cX3_accept 3 none, Cond.fieldLink RX3 25 "CodedGroups$Receiver" "window" "I", Cond.fieldLink RX3 29 "CodedGroups$Receiver" "windowBits" "I"]
def wsX6_take_r2 : List Cond := [Cond.fieldLink RX3 39 "CodedGroups$Receiver" "rank" "I", Cond.fieldLink RX3 36 "CodedGroups$Receiver" "lean" "I", Cond.methodLink RX3 57 yX0_isComma, Cond.static yX0_isComma, Cond.initialized RX0, Cond.code yX0_isComma cX0_isComma 2 (some .boolean), Cond.methodLink RX3 63 yX3_readGroup, Cond.instanceMethod yX3_readGroup, Cond.selects RX3 yX3_readGroup yX3_readGroup, Cond.code yX3_readGroup cX3_readGroup 2 (some .int), Cond.fieldLink RX3 48 "CodedGroups$Receiver" "groups" "I", Cond.fieldLink RX3 51 "CodedGroups$Receiver" "badGroups" "I", Cond.methodLink RX3 96 yX0_symbolOf, Cond.static yX0_symbolOf, Cond.code yX0_symbolOf cX0_symbolOf 4 (some .int), Cond.methodLink RX0 55 yX0_byteOfGroup, Cond.static yX0_byteOfGroup, Cond.code yX0_byteOfGroup cX0_byteOfGroup 6 (some .int), Cond.methodLink RX0 15 yX0_sixOf, Cond.static yX0_sixOf, Cond.code yX0_sixOf cX0_sixOf 3 (some .int), Cond.fieldLink RX0 27 "CodedGroups$Code" "SIX_MINUS" "[I", Cond.fieldLink RX0 31 "CodedGroups$Code" "SIX_PLUS" "[I", Cond.methodLink RX0 19 yX0_behindSix]
def wsX6_take_r3 : List Cond := [Cond.static yX0_behindSix, Cond.code yX0_behindSix cX0_behindSix 3 (some .int), Cond.methodLink RX0 46 yJ6_bitCount_0f7a4, Cond.static yJ6_bitCount_0f7a4, Cond.initialized RJ6, Cond.code yJ6_bitCount_0f7a4 cJ6_bitCount_0f7a4 1 (some .int), Cond.constant RJ6 265 (1431655765), Cond.constant RJ6 266 (858993459), Cond.constant RJ6 267 (252645135), Cond.methodLink RX0 58 yX0_highPart, Cond.static yX0_highPart, Cond.code yX0_highPart cX0_highPart 5 (some .int), Cond.methodLink RX0 23 yX0_fourOf, Cond.static yX0_fourOf, Cond.code yX0_fourOf cX0_fourOf 4 (some .int), Cond.fieldLink RX0 34 "CodedGroups$Code" "SIGN_FOUR_MINUS" "[I", Cond.fieldLink RX0 37 "CodedGroups$Code" "SIGN_FOUR_PLUS" "[I", Cond.fieldLink RX0 40 "CodedGroups$Code" "FOUR_MINUS" "[I", Cond.fieldLink RX0 43 "CodedGroups$Code" "FOUR_PLUS" "[I", Cond.methodLink RX0 9 yX0_isSign, Cond.static yX0_isSign, Cond.code yX0_isSign cX0_isSign 2 (some .boolean), Cond.methodLink RX3 100 yX0_behindGroup, Cond.static yX0_behindGroup]
def wsX6_take_r4 : List Cond := [Cond.code yX0_behindGroup cX0_behindGroup 2 (some .int), Cond.methodLink RX0 52 yX0_behindFour, Cond.static yX0_behindFour, Cond.code yX0_behindFour cX0_behindFour 3 (some .int), Cond.methodLink RX3 67 yX3_laterGroup, Cond.instanceMethod yX3_laterGroup, Cond.selects RX3 yX3_laterGroup yX3_laterGroup, Cond.code yX3_laterGroup cX3_laterGroup 4 none, Cond.fieldLink RX3 32 "CodedGroups$Receiver" "even" "Z", Cond.fieldLink RX3 12 "CodedGroups$Receiver" "log" "LCodedGroups$SymbolLog;", Cond.fieldLink RX3 21 "CodedGroups$Receiver" "shelf" "LCodedGroups$FrameShelf;", Cond.methodLink RX3 82 yX3_climb, Cond.instanceMethod yX3_climb, Cond.selects RX3 yX3_climb yX3_climb, Cond.code yX3_climb cX3_climb 3 none, Cond.fieldLink RX3 42 "CodedGroups$Receiver" "faith" "I", Cond.fieldLink RX3 45 "CodedGroups$Receiver" "goodInRow" "I", Cond.methodLink RX3 79 yX3_searchAgain, Cond.instanceMethod yX3_searchAgain, Cond.selects RX3 yX3_searchAgain yX3_searchAgain, Cond.code yX3_searchAgain cX3_searchAgain 1 none, Cond.fieldLink RX3 54 "CodedGroups$Receiver" "searches" "I", Cond.methodLink RX3 108 yX1_lose, Cond.instanceMethod yX1_lose]
def wsX6_take_r5 : List Cond := [Cond.selects RX1 yX1_lose yX1_lose, Cond.initialized RX1, Cond.code yX1_lose cX1_lose 1 none, Cond.fieldLink RX1 29 "CodedGroups$FrameShelf" "state" "I", Cond.methodLink RX1 42 yX1_finish, Cond.instanceMethod yX1_finish, Cond.selects RX1 yX1_finish yX1_finish, Cond.code yX1_finish cX1_finish 2 none, Cond.fieldLink RX1 18 "CodedGroups$FrameShelf" "wholes" "[Z", Cond.fieldLink RX1 22 "CodedGroups$FrameShelf" "slot" "I", Cond.fieldLink RX1 36 "CodedGroups$FrameShelf" "ended" "I", Cond.fieldLink RX1 39 "CodedGroups$FrameShelf" "endedWhole" "I", Cond.fieldLink RX1 26 "CodedGroups$FrameShelf" "kept" "I", Cond.methodLink RX3 86 yX5_keep, Cond.instanceMethod yX5_keep, Cond.selects RX5 yX5_keep yX5_keep, Cond.initialized RX5, Cond.code yX5_keep cX5_keep 2 none, Cond.fieldLink RX5 15 "CodedGroups$SymbolLog" "next" "I", Cond.fieldLink RX5 11 "CodedGroups$SymbolLog" "row" "[I", Cond.fieldLink RX5 19 "CodedGroups$SymbolLog" "kept" "I", Cond.methodLink RX5 25 Lib.Math.min.name, Cond.fieldLink RX5 22 "CodedGroups$SymbolLog" "received" "I", Cond.methodLink RX3 89 yX1_look]
def wsX6_take_r6 : List Cond := [Cond.instanceMethod yX1_look, Cond.selects RX1 yX1_look yX1_look, Cond.code yX1_look cX1_look 2 none, Cond.fieldLink RX1 32 "CodedGroups$FrameShelf" "broken" "Z", Cond.methodLink RX1 46 yX1_lose, Cond.methodLink RX1 49 yX1_begin, Cond.instanceMethod yX1_begin, Cond.selects RX1 yX1_begin yX1_begin, Cond.code yX1_begin cX1_begin 1 none, Cond.fieldLink RX1 15 "CodedGroups$FrameShelf" "lengths" "[I", Cond.methodLink RX1 52 yX1_lookInside, Cond.instanceMethod yX1_lookInside, Cond.selects RX1 yX1_lookInside yX1_lookInside, Cond.code yX1_lookInside cX1_lookInside 2 none, Cond.methodLink RX1 56 yX1_addByte, Cond.instanceMethod yX1_addByte, Cond.selects RX1 yX1_addByte yX1_addByte, Cond.code yX1_addByte cX1_addByte 5 none, Cond.fieldLink RX1 11 "CodedGroups$FrameShelf" "words" "[I", Cond.methodLink RX3 92 yX3_weigh, Cond.instanceMethod yX3_weigh, Cond.selects RX3 yX3_weigh yX3_weigh, Cond.code yX3_weigh cX3_weigh 2 none, Cond.methodLink RX3 103 Lib.Math.min.name]
def wsX6_take_r7 : List Cond := [Cond.methodLink RX3 71 yX0_leanBeforeComma, Cond.static yX0_leanBeforeComma, Cond.code yX0_leanBeforeComma cX0_leanBeforeComma 1 (some .int), Cond.methodLink RX3 75 yX3_firstGroup, Cond.instanceMethod yX3_firstGroup, Cond.selects RX3 yX3_firstGroup yX3_firstGroup, Cond.code yX3_firstGroup cX3_firstGroup 2 none, Cond.methodLink RX6 86 yX2_cutFront, Cond.instanceMethod yX2_cutFront, Cond.selects RX2 yX2_cutFront yX2_cutFront, Cond.code yX2_cutFront cX2_cutFront 2 none, Cond.methodLink RX2 23 arraycopyName, Cond.native arraycopyName, Cond.static arraycopyName, Cond.initialized "java/lang/System"]
def wsX6_take : List Cond := .code yX6_take cX6_take 4 (some .int) :: ((wsX6_take_r1 ++ (wsX6_take_r2 ++ (wsX6_take_r3 ++ (wsX6_take_r4 ++ (wsX6_take_r5 ++ (wsX6_take_r6 ++ wsX6_take_r7)))))) ++ wsX60 ++ wsX20 ++ wsX30 ++ wsX10 ++ wsX50)
def wsX6_level : List Cond := .code yX6_level cX6_level 1 (some .int) :: ([.fieldLink RX6 26 "CodedGroups" "receiver" "LCodedGroups$Receiver;"] ++ wsX60 ++ wsX30)
def wsX6_trust : List Cond := .code yX6_trust cX6_trust 1 (some .int) :: ([.fieldLink RX6 26 "CodedGroups" "receiver" "LCodedGroups$Receiver;"] ++ wsX60 ++ wsX30)
def wsX6_symbol : List Cond := .code yX6_symbol cX6_symbol 2 (some .int) :: ([.fieldLink RX6 26 "CodedGroups" "receiver" "LCodedGroups$Receiver;", .methodLink RX6 99 yX5_latest, .instanceMethod yX5_latest, .selects RX5 yX5_latest yX5_latest, .initialized RX5, .code yX5_latest cX5_latest 3 (some .int), .fieldLink RX5 19 "CodedGroups$SymbolLog" "kept" "I", .fieldLink RX5 15 "CodedGroups$SymbolLog" "next" "I", .fieldLink RX5 11 "CodedGroups$SymbolLog" "row" "[I"] ++ wsX60 ++ wsX30 ++ wsX50)
def wsX6_length : List Cond := .code yX6_length cX6_length 2 (some .int) :: ([.fieldLink RX6 26 "CodedGroups" "receiver" "LCodedGroups$Receiver;", .methodLink RX6 108 yX1_lengthOf, .instanceMethod yX1_lengthOf, .selects RX1 yX1_lengthOf yX1_lengthOf, .initialized RX1, .code yX1_lengthOf cX1_lengthOf 2 (some .int), .fieldLink RX1 15 "CodedGroups$FrameShelf" "lengths" "[I", .methodLink RX1 65 yX1_has, .instanceMethod yX1_has, .selects RX1 yX1_has yX1_has, .code yX1_has cX1_has 2 (some .boolean), .fieldLink RX1 26 "CodedGroups$FrameShelf" "kept" "I", .methodLink RX1 69 yX1_slotOf, .instanceMethod yX1_slotOf, .selects RX1 yX1_slotOf yX1_slotOf, .code yX1_slotOf cX1_slotOf 2 (some .int), .fieldLink RX1 22 "CodedGroups$FrameShelf" "slot" "I", .methodLink RX1 59 yJ9_floorMod_7cf53, .static yJ9_floorMod_7cf53, .initialized RJ9, .code yJ9_floorMod_7cf53 cJ9_floorMod_7cf53 3 (some .int)] ++ wsX60 ++ wsX30 ++ wsX10)
def wsX6_whole : List Cond := .code yX6_whole cX6_whole 2 (some .boolean) :: ([.fieldLink RX6 26 "CodedGroups" "receiver" "LCodedGroups$Receiver;", .methodLink RX6 113 yX1_isWhole, .instanceMethod yX1_isWhole, .selects RX1 yX1_isWhole yX1_isWhole, .initialized RX1, .code yX1_isWhole cX1_isWhole 2 (some .boolean), .fieldLink RX1 18 "CodedGroups$FrameShelf" "wholes" "[Z", .methodLink RX1 65 yX1_has, .instanceMethod yX1_has, .selects RX1 yX1_has yX1_has, .code yX1_has cX1_has 2 (some .boolean), .fieldLink RX1 26 "CodedGroups$FrameShelf" "kept" "I", .methodLink RX1 69 yX1_slotOf, .instanceMethod yX1_slotOf, .selects RX1 yX1_slotOf yX1_slotOf, .code yX1_slotOf cX1_slotOf 2 (some .int), .fieldLink RX1 22 "CodedGroups$FrameShelf" "slot" "I", .methodLink RX1 59 yJ9_floorMod_7cf53, .static yJ9_floorMod_7cf53, .initialized RJ9, .code yJ9_floorMod_7cf53 cJ9_floorMod_7cf53 3 (some .int)] ++ wsX60 ++ wsX30 ++ wsX10)
def wsX6_at_r1 : List Cond := [Cond.fieldLink RX6 26 "CodedGroups" "receiver" "LCodedGroups$Receiver;", Cond.methodLink RX6 116 yX1_byteOf, Cond.instanceMethod yX1_byteOf, Cond.selects RX1 yX1_byteOf yX1_byteOf, Cond.initialized RX1, Cond.code yX1_byteOf cX1_byteOf 4 (some .int), Cond.fieldLink RX1 11 "CodedGroups$FrameShelf" "words" "[I", Cond.methodLink RX1 73 yX1_lengthOf, Cond.instanceMethod yX1_lengthOf, Cond.selects RX1 yX1_lengthOf yX1_lengthOf, Cond.code yX1_lengthOf cX1_lengthOf 2 (some .int), Cond.fieldLink RX1 15 "CodedGroups$FrameShelf" "lengths" "[I", Cond.methodLink RX1 65 yX1_has, Cond.instanceMethod yX1_has, Cond.selects RX1 yX1_has yX1_has, Cond.code yX1_has cX1_has 2 (some .boolean), Cond.fieldLink RX1 26 "CodedGroups$FrameShelf" "kept" "I", Cond.methodLink RX1 69 yX1_slotOf, Cond.instanceMethod yX1_slotOf, Cond.selects RX1 yX1_slotOf yX1_slotOf, Cond.code yX1_slotOf cX1_slotOf 2 (some .int), Cond.fieldLink RX1 22 "CodedGroups$FrameShelf" "slot" "I", Cond.methodLink RX1 59 yJ9_floorMod_7cf53, Cond.static yJ9_floorMod_7cf53]
def wsX6_at_r2 : List Cond := [Cond.initialized RJ9, Cond.code yJ9_floorMod_7cf53 cJ9_floorMod_7cf53 3 (some .int)]
def wsX6_at : List Cond := .code yX6_at cX6_at 3 (some .int) :: ((wsX6_at_r1 ++ wsX6_at_r2) ++ wsX60 ++ wsX30 ++ wsX10)
def wsX6_decode_r1 : List Cond := [Cond.methodLink RX6 119 yX0_symbolOf, Cond.static yX0_symbolOf, Cond.initialized RX0, Cond.code yX0_symbolOf cX0_symbolOf 4 (some .int), Cond.methodLink RX0 55 yX0_byteOfGroup, Cond.static yX0_byteOfGroup, Cond.code yX0_byteOfGroup cX0_byteOfGroup 6 (some .int), Cond.methodLink RX0 15 yX0_sixOf, Cond.static yX0_sixOf, Cond.code yX0_sixOf cX0_sixOf 3 (some .int), Cond.fieldLink RX0 27 "CodedGroups$Code" "SIX_MINUS" "[I", Cond.fieldLink RX0 31 "CodedGroups$Code" "SIX_PLUS" "[I", Cond.methodLink RX0 19 yX0_behindSix, Cond.static yX0_behindSix, Cond.code yX0_behindSix cX0_behindSix 3 (some .int), Cond.methodLink RX0 46 yJ6_bitCount_0f7a4, Cond.static yJ6_bitCount_0f7a4, Cond.initialized RJ6, Cond.code yJ6_bitCount_0f7a4 cJ6_bitCount_0f7a4 1 (some .int), Cond.constant RJ6 265 (1431655765), Cond.constant RJ6 266 (858993459), Cond.constant RJ6 267 (252645135), Cond.methodLink RX0 58 yX0_highPart, Cond.static yX0_highPart]
def wsX6_decode_r2 : List Cond := [Cond.code yX0_highPart cX0_highPart 5 (some .int), Cond.methodLink RX0 23 yX0_fourOf, Cond.static yX0_fourOf, Cond.code yX0_fourOf cX0_fourOf 4 (some .int), Cond.fieldLink RX0 34 "CodedGroups$Code" "SIGN_FOUR_MINUS" "[I", Cond.fieldLink RX0 37 "CodedGroups$Code" "SIGN_FOUR_PLUS" "[I", Cond.fieldLink RX0 40 "CodedGroups$Code" "FOUR_MINUS" "[I", Cond.fieldLink RX0 43 "CodedGroups$Code" "FOUR_PLUS" "[I", Cond.methodLink RX0 9 yX0_isSign, Cond.static yX0_isSign, Cond.code yX0_isSign cX0_isSign 2 (some .boolean)]
def wsX6_decode : List Cond := .code yX6_decode cX6_decode 3 (some .int) :: ((wsX6_decode_r1 ++ wsX6_decode_r2))
def wsX6_count : List Cond := .code yX6_count cX6_count 2 (some .int) :: ([.fieldLink RX6 19 "CodedGroups" "sender" "LCodedGroups$Sender;", .fieldLink RX6 26 "CodedGroups" "receiver" "LCodedGroups$Receiver;"] ++ wsX60 ++ wsX40 ++ wsX30 ++ wsX10 ++ wsX50)
def wsX7_init : List Cond := .code yX7_init cX7_init 1 none :: ([.methodLink RX7 1 objectInit, .instanceMethod objectInit, .code objectInit ⟨#[0xb1]⟩ 1 none, .arrayClass .int, .fieldLink RX7 7 "CodedGroupsModel" "six" "[I", .fieldLink RX7 13 "CodedGroupsModel" "four" "[I", .fieldLink RX7 16 "CodedGroupsModel" "signFour" "[I", .arrayClass .byte, .fieldLink RX7 19 "CodedGroupsModel" "line" "[B", .fieldLink RX7 23 "CodedGroupsModel" "tape" "[B", .fieldLink RX7 26 "CodedGroupsModel" "sendingDisparity" "I", .fieldLink RX7 30 "CodedGroupsModel" "disparity" "I", .fieldLink RX7 33 "CodedGroupsModel" "latest" "[I", .fieldLink RX7 36 "CodedGroupsModel" "open" "[B", .fieldLink RX7 39 "CodedGroupsModel" "lengths" "[I", .arrayClass .boolean, .fieldLink RX7 42 "CodedGroupsModel" "isWhole" "[Z", .fieldLink RX7 46 "CodedGroupsModel" "frames" "[B", .fieldLink RX7 49 "CodedGroupsModel" "size" "I"] ++ wsX70)
def wsX7_form : List Cond := .code yX7_form cX7_form 3 (some .int) :: ([])
def wsX7_ones : List Cond := .code yX7_ones cX7_ones 3 (some .int) :: ([])
def wsX7_behind : List Cond := .code yX7_behind cX7_behind 6 (some .int) :: ([.methodLink RX7 52 yX7_ones, .static yX7_ones, .initialized RX7, .code yX7_ones cX7_ones 3 (some .int)])
def wsX7_isSign : List Cond := .code yX7_isSign cX7_isSign 2 (some .boolean) :: ([])
def wsX7_groupOf : List Cond := .code yX7_groupOf cX7_groupOf 9 (some .int) :: ([.fieldLink RX7 7 "CodedGroupsModel" "six" "[I", .fieldLink RX7 16 "CodedGroupsModel" "signFour" "[I", .fieldLink RX7 13 "CodedGroupsModel" "four" "[I", .methodLink RX7 56 yX7_form, .static yX7_form, .initialized RX7, .code yX7_form cX7_form 3 (some .int), .methodLink RX7 60 yX7_behind, .static yX7_behind, .code yX7_behind cX7_behind 6 (some .int), .methodLink RX7 52 yX7_ones, .static yX7_ones, .code yX7_ones cX7_ones 3 (some .int)] ++ wsX70)
def wsX7_behindGroup : List Cond := .code yX7_behindGroup cX7_behindGroup 2 (some .int) :: ([.methodLink RX7 60 yX7_behind, .static yX7_behind, .initialized RX7, .code yX7_behind cX7_behind 6 (some .int), .methodLink RX7 52 yX7_ones, .static yX7_ones, .code yX7_ones cX7_ones 3 (some .int)])
def wsX7_decode : List Cond := .code yX7_decode cX7_decode 4 (some .int) :: ([.methodLink RX7 64 yX7_groupOf, .instanceMethod yX7_groupOf, .selects RX7 yX7_groupOf yX7_groupOf, .initialized RX7, .code yX7_groupOf cX7_groupOf 9 (some .int), .fieldLink RX7 7 "CodedGroupsModel" "six" "[I", .fieldLink RX7 16 "CodedGroupsModel" "signFour" "[I", .fieldLink RX7 13 "CodedGroupsModel" "four" "[I", .methodLink RX7 56 yX7_form, .static yX7_form, .code yX7_form cX7_form 3 (some .int), .methodLink RX7 60 yX7_behind, .static yX7_behind, .code yX7_behind cX7_behind 6 (some .int), .methodLink RX7 52 yX7_ones, .static yX7_ones, .code yX7_ones cX7_ones 3 (some .int), .methodLink RX7 68 yX7_isSign, .static yX7_isSign, .code yX7_isSign cX7_isSign 2 (some .boolean)] ++ wsX70)
def wsX7_send_r1 : List Cond := [Cond.fieldLink RX7 49 "CodedGroupsModel" "size" "I", Cond.fieldLink RX7 26 "CodedGroupsModel" "sendingDisparity" "I", Cond.fieldLink RX7 19 "CodedGroupsModel" "line" "[B", Cond.fieldLink RX7 76 "CodedGroupsModel" "sent" "I", Cond.methodLink RX7 68 yX7_isSign, Cond.static yX7_isSign, Cond.initialized RX7, Cond.code yX7_isSign cX7_isSign 2 (some .boolean), Cond.methodLink RX7 64 yX7_groupOf, Cond.instanceMethod yX7_groupOf, Cond.selects RX7 yX7_groupOf yX7_groupOf, Cond.code yX7_groupOf cX7_groupOf 9 (some .int), Cond.fieldLink RX7 7 "CodedGroupsModel" "six" "[I", Cond.fieldLink RX7 16 "CodedGroupsModel" "signFour" "[I", Cond.fieldLink RX7 13 "CodedGroupsModel" "four" "[I", Cond.methodLink RX7 56 yX7_form, Cond.static yX7_form, Cond.code yX7_form cX7_form 3 (some .int), Cond.methodLink RX7 60 yX7_behind, Cond.static yX7_behind, Cond.code yX7_behind cX7_behind 6 (some .int), Cond.methodLink RX7 52 yX7_ones, Cond.static yX7_ones, Cond.code yX7_ones cX7_ones 3 (some .int)]
def wsX7_send_r2 : List Cond := [Cond.methodLink RX7 72 yX7_behindGroup, Cond.static yX7_behindGroup, Cond.code yX7_behindGroup cX7_behindGroup 2 (some .int)]
def wsX7_send : List Cond := .code yX7_send cX7_send 5 (some .int) :: ((wsX7_send_r1 ++ wsX7_send_r2) ++ wsX70)
def wsX7_idle_r1 : List Cond := [Cond.fieldLink RX7 49 "CodedGroupsModel" "size" "I", Cond.fieldLink RX7 26 "CodedGroupsModel" "sendingDisparity" "I", Cond.methodLink RX7 79 yX7_send, Cond.instanceMethod yX7_send, Cond.selects RX7 yX7_send yX7_send, Cond.initialized RX7, Cond.code yX7_send cX7_send 5 (some .int), Cond.fieldLink RX7 19 "CodedGroupsModel" "line" "[B", Cond.fieldLink RX7 76 "CodedGroupsModel" "sent" "I", Cond.methodLink RX7 68 yX7_isSign, Cond.static yX7_isSign, Cond.code yX7_isSign cX7_isSign 2 (some .boolean), Cond.methodLink RX7 64 yX7_groupOf, Cond.instanceMethod yX7_groupOf, Cond.selects RX7 yX7_groupOf yX7_groupOf, Cond.code yX7_groupOf cX7_groupOf 9 (some .int), Cond.fieldLink RX7 7 "CodedGroupsModel" "six" "[I", Cond.fieldLink RX7 16 "CodedGroupsModel" "signFour" "[I", Cond.fieldLink RX7 13 "CodedGroupsModel" "four" "[I", Cond.methodLink RX7 56 yX7_form, Cond.static yX7_form, Cond.code yX7_form cX7_form 3 (some .int), Cond.methodLink RX7 60 yX7_behind, Cond.static yX7_behind]
def wsX7_idle_r2 : List Cond := [Cond.code yX7_behind cX7_behind 6 (some .int), Cond.methodLink RX7 52 yX7_ones, Cond.static yX7_ones, Cond.code yX7_ones cX7_ones 3 (some .int), Cond.methodLink RX7 72 yX7_behindGroup, Cond.static yX7_behindGroup, Cond.code yX7_behindGroup cX7_behindGroup 2 (some .int)]
def wsX7_idle : List Cond := .code yX7_idle cX7_idle 2 (some .boolean) :: ((wsX7_idle_r1 ++ wsX7_idle_r2) ++ wsX70)
def wsX7_feed : List Cond := .code yX7_feed cX7_feed 2 (some .boolean) :: ([.fieldLink RX7 83 "CodedGroupsModel" "tapeSize" "I", .fieldLink RX7 23 "CodedGroupsModel" "tape" "[B"] ++ wsX70)
def wsX7_frame_r1 : List Cond := [Cond.fieldLink RX7 83 "CodedGroupsModel" "tapeSize" "I", Cond.fieldLink RX7 76 "CodedGroupsModel" "sent" "I", Cond.fieldLink RX7 49 "CodedGroupsModel" "size" "I", Cond.fieldLink RX7 23 "CodedGroupsModel" "tape" "[B", Cond.methodLink RX7 79 yX7_send, Cond.instanceMethod yX7_send, Cond.selects RX7 yX7_send yX7_send, Cond.initialized RX7, Cond.code yX7_send cX7_send 5 (some .int), Cond.fieldLink RX7 26 "CodedGroupsModel" "sendingDisparity" "I", Cond.fieldLink RX7 19 "CodedGroupsModel" "line" "[B", Cond.methodLink RX7 68 yX7_isSign, Cond.static yX7_isSign, Cond.code yX7_isSign cX7_isSign 2 (some .boolean), Cond.methodLink RX7 64 yX7_groupOf, Cond.instanceMethod yX7_groupOf, Cond.selects RX7 yX7_groupOf yX7_groupOf, Cond.code yX7_groupOf cX7_groupOf 9 (some .int), Cond.fieldLink RX7 7 "CodedGroupsModel" "six" "[I", Cond.fieldLink RX7 16 "CodedGroupsModel" "signFour" "[I", Cond.fieldLink RX7 13 "CodedGroupsModel" "four" "[I", Cond.methodLink RX7 56 yX7_form, Cond.static yX7_form, Cond.code yX7_form cX7_form 3 (some .int)]
def wsX7_frame_r2 : List Cond := [Cond.methodLink RX7 60 yX7_behind, Cond.static yX7_behind, Cond.code yX7_behind cX7_behind 6 (some .int), Cond.methodLink RX7 52 yX7_ones, Cond.static yX7_ones, Cond.code yX7_ones cX7_ones 3 (some .int), Cond.methodLink RX7 72 yX7_behindGroup, Cond.static yX7_behindGroup, Cond.code yX7_behindGroup cX7_behindGroup 2 (some .int)]
def wsX7_frame : List Cond := .code yX7_frame cX7_frame 3 (some .int) :: ((wsX7_frame_r1 ++ wsX7_frame_r2) ++ wsX70)
def wsX7_bit : List Cond := .code yX7_bit cX7_bit 2 (some .boolean) :: ([.fieldLink RX7 49 "CodedGroupsModel" "size" "I", .fieldLink RX7 19 "CodedGroupsModel" "line" "[B"] ++ wsX70)
def wsX7_turn : List Cond := .code yX7_turn cX7_turn 2 (some .boolean) :: ([.fieldLink RX7 49 "CodedGroupsModel" "size" "I", .fieldLink RX7 19 "CodedGroupsModel" "line" "[B"] ++ wsX70)
def wsX7_drop : List Cond := .code yX7_drop cX7_drop 3 (some .boolean) :: ([.fieldLink RX7 49 "CodedGroupsModel" "size" "I", .fieldLink RX7 19 "CodedGroupsModel" "line" "[B"] ++ wsX70)
def wsX7_line : List Cond := .code yX7_line cX7_line 2 (some .int) :: ([.fieldLink RX7 49 "CodedGroupsModel" "size" "I", .fieldLink RX7 19 "CodedGroupsModel" "line" "[B"] ++ wsX70)
def wsX7_size : List Cond := .code yX7_size cX7_size 1 (some .int) :: ([.fieldLink RX7 49 "CodedGroupsModel" "size" "I"] ++ wsX70)
def wsX7_disparity : List Cond := .code yX7_disparity cX7_disparity 2 (some .int) :: ([.fieldLink RX7 26 "CodedGroupsModel" "sendingDisparity" "I", .fieldLink RX7 30 "CodedGroupsModel" "disparity" "I"] ++ wsX70)
def wsX7_isComma : List Cond := .code yX7_isComma cX7_isComma 1 (some .boolean) :: ([])
def wsX7_end : List Cond := .code yX7_end cX7_end 3 none :: ([.fieldLink RX7 134 "CodedGroupsModel" "isOpen" "Z", .fieldLink RX7 140 "CodedGroupsModel" "ended" "I", .fieldLink RX7 143 "CodedGroupsModel" "wholes" "I", .fieldLink RX7 146 "CodedGroupsModel" "kept" "I", .fieldLink RX7 39 "CodedGroupsModel" "lengths" "[I", .fieldLink RX7 42 "CodedGroupsModel" "isWhole" "[Z", .fieldLink RX7 46 "CodedGroupsModel" "frames" "[B", .fieldLink RX7 149 "CodedGroupsModel" "openSize" "I", .fieldLink RX7 36 "CodedGroupsModel" "open" "[B"] ++ wsX70)
def wsX7_searchAgain : List Cond := .code yX7_searchAgain cX7_searchAgain 1 none :: ([.fieldLink RX7 96 "CodedGroupsModel" "level" "I", .fieldLink RX7 122 "CodedGroupsModel" "trust" "I", .fieldLink RX7 93 "CodedGroupsModel" "bitsIn" "I", .fieldLink RX7 131 "CodedGroupsModel" "searches" "I", .fieldLink RX7 134 "CodedGroupsModel" "isOpen" "Z", .methodLink RX7 137 yX7_end, .instanceMethod yX7_end, .selects RX7 yX7_end yX7_end, .initialized RX7, .code yX7_end cX7_end 3 none, .fieldLink RX7 140 "CodedGroupsModel" "ended" "I", .fieldLink RX7 143 "CodedGroupsModel" "wholes" "I", .fieldLink RX7 146 "CodedGroupsModel" "kept" "I", .fieldLink RX7 39 "CodedGroupsModel" "lengths" "[I", .fieldLink RX7 42 "CodedGroupsModel" "isWhole" "[Z", .fieldLink RX7 46 "CodedGroupsModel" "frames" "[B", .fieldLink RX7 149 "CodedGroupsModel" "openSize" "I", .fieldLink RX7 36 "CodedGroupsModel" "open" "[B"] ++ wsX70)
def wsX7_receive : List Cond := .code yX7_receive cX7_receive 3 none :: ([.fieldLink RX7 152 "CodedGroupsModel" "received" "I", .fieldLink RX7 33 "CodedGroupsModel" "latest" "[I", .fieldLink RX7 134 "CodedGroupsModel" "isOpen" "Z", .fieldLink RX7 155 "CodedGroupsModel" "isClosed" "Z", .fieldLink RX7 158 "CodedGroupsModel" "isBroken" "Z", .fieldLink RX7 149 "CodedGroupsModel" "openSize" "I", .fieldLink RX7 36 "CodedGroupsModel" "open" "[B", .methodLink RX7 137 yX7_end, .instanceMethod yX7_end, .selects RX7 yX7_end yX7_end, .initialized RX7, .code yX7_end cX7_end 3 none, .fieldLink RX7 140 "CodedGroupsModel" "ended" "I", .fieldLink RX7 143 "CodedGroupsModel" "wholes" "I", .fieldLink RX7 146 "CodedGroupsModel" "kept" "I", .fieldLink RX7 39 "CodedGroupsModel" "lengths" "[I", .fieldLink RX7 42 "CodedGroupsModel" "isWhole" "[Z", .fieldLink RX7 46 "CodedGroupsModel" "frames" "[B"] ++ wsX70)
def wsX7_takeGroup_r1 : List Cond := [Cond.fieldLink RX7 90 "CodedGroupsModel" "group" "I", Cond.fieldLink RX7 30 "CodedGroupsModel" "disparity" "I", Cond.fieldLink RX7 102 "CodedGroupsModel" "isOdd" "Z", Cond.fieldLink RX7 113 "CodedGroupsModel" "groups" "I", Cond.fieldLink RX7 116 "CodedGroupsModel" "badGroups" "I", Cond.fieldLink RX7 93 "CodedGroupsModel" "bitsIn" "I", Cond.fieldLink RX7 96 "CodedGroupsModel" "level" "I", Cond.fieldLink RX7 122 "CodedGroupsModel" "trust" "I", Cond.fieldLink RX7 125 "CodedGroupsModel" "goodRow" "I", Cond.methodLink RX7 110 yX7_decode, Cond.instanceMethod yX7_decode, Cond.selects RX7 yX7_decode yX7_decode, Cond.initialized RX7, Cond.code yX7_decode cX7_decode 4 (some .int), Cond.methodLink RX7 64 yX7_groupOf, Cond.instanceMethod yX7_groupOf, Cond.selects RX7 yX7_groupOf yX7_groupOf, Cond.code yX7_groupOf cX7_groupOf 9 (some .int), Cond.fieldLink RX7 7 "CodedGroupsModel" "six" "[I", Cond.fieldLink RX7 16 "CodedGroupsModel" "signFour" "[I", Cond.fieldLink RX7 13 "CodedGroupsModel" "four" "[I", Cond.methodLink RX7 56 yX7_form, Cond.static yX7_form, Cond.code yX7_form cX7_form 3 (some .int)]
def wsX7_takeGroup_r2 : List Cond := [Cond.methodLink RX7 60 yX7_behind, Cond.static yX7_behind, Cond.code yX7_behind cX7_behind 6 (some .int), Cond.methodLink RX7 52 yX7_ones, Cond.static yX7_ones, Cond.code yX7_ones cX7_ones 3 (some .int), Cond.methodLink RX7 68 yX7_isSign, Cond.static yX7_isSign, Cond.code yX7_isSign cX7_isSign 2 (some .boolean), Cond.methodLink RX7 99 yX7_isComma, Cond.static yX7_isComma, Cond.code yX7_isComma cX7_isComma 1 (some .boolean), Cond.methodLink RX7 72 yX7_behindGroup, Cond.static yX7_behindGroup, Cond.code yX7_behindGroup cX7_behindGroup 2 (some .int), Cond.methodLink RX7 119 yX7_searchAgain, Cond.instanceMethod yX7_searchAgain, Cond.selects RX7 yX7_searchAgain yX7_searchAgain, Cond.code yX7_searchAgain cX7_searchAgain 1 none, Cond.fieldLink RX7 131 "CodedGroupsModel" "searches" "I", Cond.fieldLink RX7 134 "CodedGroupsModel" "isOpen" "Z", Cond.methodLink RX7 137 yX7_end, Cond.instanceMethod yX7_end, Cond.selects RX7 yX7_end yX7_end]
def wsX7_takeGroup_r3 : List Cond := [Cond.code yX7_end cX7_end 3 none, Cond.fieldLink RX7 140 "CodedGroupsModel" "ended" "I", Cond.fieldLink RX7 143 "CodedGroupsModel" "wholes" "I", Cond.fieldLink RX7 146 "CodedGroupsModel" "kept" "I", Cond.fieldLink RX7 39 "CodedGroupsModel" "lengths" "[I", Cond.fieldLink RX7 42 "CodedGroupsModel" "isWhole" "[Z", Cond.fieldLink RX7 46 "CodedGroupsModel" "frames" "[B", Cond.fieldLink RX7 149 "CodedGroupsModel" "openSize" "I", Cond.fieldLink RX7 36 "CodedGroupsModel" "open" "[B", Cond.methodLink RX7 128 yX7_receive, Cond.instanceMethod yX7_receive, Cond.selects RX7 yX7_receive yX7_receive, Cond.code yX7_receive cX7_receive 3 none, Cond.fieldLink RX7 152 "CodedGroupsModel" "received" "I", Cond.fieldLink RX7 33 "CodedGroupsModel" "latest" "[I", Cond.fieldLink RX7 155 "CodedGroupsModel" "isClosed" "Z", Cond.fieldLink RX7 158 "CodedGroupsModel" "isBroken" "Z"]
def wsX7_takeGroup : List Cond := .code yX7_takeGroup cX7_takeGroup 7 none :: ((wsX7_takeGroup_r1 ++ (wsX7_takeGroup_r2 ++ wsX7_takeGroup_r3)) ++ wsX70)
def wsX7_takeBit_r1 : List Cond := [Cond.fieldLink RX7 90 "CodedGroupsModel" "group" "I", Cond.fieldLink RX7 93 "CodedGroupsModel" "bitsIn" "I", Cond.fieldLink RX7 96 "CodedGroupsModel" "level" "I", Cond.fieldLink RX7 30 "CodedGroupsModel" "disparity" "I", Cond.fieldLink RX7 102 "CodedGroupsModel" "isOdd" "Z", Cond.methodLink RX7 99 yX7_isComma, Cond.static yX7_isComma, Cond.initialized RX7, Cond.code yX7_isComma cX7_isComma 1 (some .boolean), Cond.methodLink RX7 106 yX7_takeGroup, Cond.instanceMethod yX7_takeGroup, Cond.selects RX7 yX7_takeGroup yX7_takeGroup, Cond.code yX7_takeGroup cX7_takeGroup 7 none, Cond.fieldLink RX7 113 "CodedGroupsModel" "groups" "I", Cond.fieldLink RX7 116 "CodedGroupsModel" "badGroups" "I", Cond.fieldLink RX7 122 "CodedGroupsModel" "trust" "I", Cond.fieldLink RX7 125 "CodedGroupsModel" "goodRow" "I", Cond.methodLink RX7 110 yX7_decode, Cond.instanceMethod yX7_decode, Cond.selects RX7 yX7_decode yX7_decode, Cond.code yX7_decode cX7_decode 4 (some .int), Cond.methodLink RX7 64 yX7_groupOf, Cond.instanceMethod yX7_groupOf, Cond.selects RX7 yX7_groupOf yX7_groupOf]
def wsX7_takeBit_r2 : List Cond := [Cond.code yX7_groupOf cX7_groupOf 9 (some .int), Cond.fieldLink RX7 7 "CodedGroupsModel" "six" "[I", Cond.fieldLink RX7 16 "CodedGroupsModel" "signFour" "[I", Cond.fieldLink RX7 13 "CodedGroupsModel" "four" "[I", Cond.methodLink RX7 56 yX7_form, Cond.static yX7_form, Cond.code yX7_form cX7_form 3 (some .int), Cond.methodLink RX7 60 yX7_behind, Cond.static yX7_behind, Cond.code yX7_behind cX7_behind 6 (some .int), Cond.methodLink RX7 52 yX7_ones, Cond.static yX7_ones, Cond.code yX7_ones cX7_ones 3 (some .int), Cond.methodLink RX7 68 yX7_isSign, Cond.static yX7_isSign, Cond.code yX7_isSign cX7_isSign 2 (some .boolean), Cond.methodLink RX7 72 yX7_behindGroup, Cond.static yX7_behindGroup, Cond.code yX7_behindGroup cX7_behindGroup 2 (some .int), Cond.methodLink RX7 119 yX7_searchAgain, Cond.instanceMethod yX7_searchAgain, Cond.selects RX7 yX7_searchAgain yX7_searchAgain, Cond.code yX7_searchAgain cX7_searchAgain 1 none, Cond.fieldLink RX7 131 "CodedGroupsModel" "searches" "I"]
def wsX7_takeBit_r3 : List Cond := [Cond.fieldLink RX7 134 "CodedGroupsModel" "isOpen" "Z", Cond.methodLink RX7 137 yX7_end, Cond.instanceMethod yX7_end, Cond.selects RX7 yX7_end yX7_end, Cond.code yX7_end cX7_end 3 none, Cond.fieldLink RX7 140 "CodedGroupsModel" "ended" "I", Cond.fieldLink RX7 143 "CodedGroupsModel" "wholes" "I", Cond.fieldLink RX7 146 "CodedGroupsModel" "kept" "I", Cond.fieldLink RX7 39 "CodedGroupsModel" "lengths" "[I", Cond.fieldLink RX7 42 "CodedGroupsModel" "isWhole" "[Z", Cond.fieldLink RX7 46 "CodedGroupsModel" "frames" "[B", Cond.fieldLink RX7 149 "CodedGroupsModel" "openSize" "I", Cond.fieldLink RX7 36 "CodedGroupsModel" "open" "[B", Cond.methodLink RX7 128 yX7_receive, Cond.instanceMethod yX7_receive, Cond.selects RX7 yX7_receive yX7_receive, Cond.code yX7_receive cX7_receive 3 none, Cond.fieldLink RX7 152 "CodedGroupsModel" "received" "I", Cond.fieldLink RX7 33 "CodedGroupsModel" "latest" "[I", Cond.fieldLink RX7 155 "CodedGroupsModel" "isClosed" "Z", Cond.fieldLink RX7 158 "CodedGroupsModel" "isBroken" "Z"]
def wsX7_takeBit : List Cond := .code yX7_takeBit cX7_takeBit 2 none :: ((wsX7_takeBit_r1 ++ (wsX7_takeBit_r2 ++ wsX7_takeBit_r3)) ++ wsX70)
def wsX7_take_r1 : List Cond := [Cond.fieldLink RX7 49 "CodedGroupsModel" "size" "I", Cond.fieldLink RX7 19 "CodedGroupsModel" "line" "[B", Cond.methodLink RX7 86 yX7_takeBit, Cond.instanceMethod yX7_takeBit, Cond.selects RX7 yX7_takeBit yX7_takeBit, Cond.initialized RX7, Cond.code yX7_takeBit cX7_takeBit 2 none, Cond.fieldLink RX7 90 "CodedGroupsModel" "group" "I", Cond.fieldLink RX7 93 "CodedGroupsModel" "bitsIn" "I", Cond.fieldLink RX7 96 "CodedGroupsModel" "level" "I", Cond.fieldLink RX7 30 "CodedGroupsModel" "disparity" "I", Cond.fieldLink RX7 102 "CodedGroupsModel" "isOdd" "Z", Cond.methodLink RX7 99 yX7_isComma, Cond.static yX7_isComma, Cond.code yX7_isComma cX7_isComma 1 (some .boolean), Cond.methodLink RX7 106 yX7_takeGroup, Cond.instanceMethod yX7_takeGroup, Cond.selects RX7 yX7_takeGroup yX7_takeGroup, Cond.code yX7_takeGroup cX7_takeGroup 7 none, Cond.fieldLink RX7 113 "CodedGroupsModel" "groups" "I", Cond.fieldLink RX7 116 "CodedGroupsModel" "badGroups" "I", Cond.fieldLink RX7 122 "CodedGroupsModel" "trust" "I", Cond.fieldLink RX7 125 "CodedGroupsModel" "goodRow" "I", Cond.methodLink RX7 110 yX7_decode]
def wsX7_take_r2 : List Cond := [Cond.instanceMethod yX7_decode, Cond.selects RX7 yX7_decode yX7_decode, Cond.code yX7_decode cX7_decode 4 (some .int), Cond.methodLink RX7 64 yX7_groupOf, Cond.instanceMethod yX7_groupOf, Cond.selects RX7 yX7_groupOf yX7_groupOf, Cond.code yX7_groupOf cX7_groupOf 9 (some .int), Cond.fieldLink RX7 7 "CodedGroupsModel" "six" "[I", Cond.fieldLink RX7 16 "CodedGroupsModel" "signFour" "[I", Cond.fieldLink RX7 13 "CodedGroupsModel" "four" "[I", Cond.methodLink RX7 56 yX7_form, Cond.static yX7_form, Cond.code yX7_form cX7_form 3 (some .int), Cond.methodLink RX7 60 yX7_behind, Cond.static yX7_behind, Cond.code yX7_behind cX7_behind 6 (some .int), Cond.methodLink RX7 52 yX7_ones, Cond.static yX7_ones, Cond.code yX7_ones cX7_ones 3 (some .int), Cond.methodLink RX7 68 yX7_isSign, Cond.static yX7_isSign, Cond.code yX7_isSign cX7_isSign 2 (some .boolean), Cond.methodLink RX7 72 yX7_behindGroup, Cond.static yX7_behindGroup]
def wsX7_take_r3 : List Cond := [Cond.code yX7_behindGroup cX7_behindGroup 2 (some .int), Cond.methodLink RX7 119 yX7_searchAgain, Cond.instanceMethod yX7_searchAgain, Cond.selects RX7 yX7_searchAgain yX7_searchAgain, Cond.code yX7_searchAgain cX7_searchAgain 1 none, Cond.fieldLink RX7 131 "CodedGroupsModel" "searches" "I", Cond.fieldLink RX7 134 "CodedGroupsModel" "isOpen" "Z", Cond.methodLink RX7 137 yX7_end, Cond.instanceMethod yX7_end, Cond.selects RX7 yX7_end yX7_end, Cond.code yX7_end cX7_end 3 none, Cond.fieldLink RX7 140 "CodedGroupsModel" "ended" "I", Cond.fieldLink RX7 143 "CodedGroupsModel" "wholes" "I", Cond.fieldLink RX7 146 "CodedGroupsModel" "kept" "I", Cond.fieldLink RX7 39 "CodedGroupsModel" "lengths" "[I", Cond.fieldLink RX7 42 "CodedGroupsModel" "isWhole" "[Z", Cond.fieldLink RX7 46 "CodedGroupsModel" "frames" "[B", Cond.fieldLink RX7 149 "CodedGroupsModel" "openSize" "I", Cond.fieldLink RX7 36 "CodedGroupsModel" "open" "[B", Cond.methodLink RX7 128 yX7_receive, Cond.instanceMethod yX7_receive, Cond.selects RX7 yX7_receive yX7_receive, Cond.code yX7_receive cX7_receive 3 none, Cond.fieldLink RX7 152 "CodedGroupsModel" "received" "I"]
def wsX7_take_r4 : List Cond := [Cond.fieldLink RX7 33 "CodedGroupsModel" "latest" "[I", Cond.fieldLink RX7 155 "CodedGroupsModel" "isClosed" "Z", Cond.fieldLink RX7 158 "CodedGroupsModel" "isBroken" "Z"]
def wsX7_take : List Cond := .code yX7_take cX7_take 4 (some .int) :: ((wsX7_take_r1 ++ (wsX7_take_r2 ++ (wsX7_take_r3 ++ wsX7_take_r4))) ++ wsX70)
def wsX7_level : List Cond := .code yX7_level cX7_level 1 (some .int) :: ([.fieldLink RX7 96 "CodedGroupsModel" "level" "I"] ++ wsX70)
def wsX7_trust : List Cond := .code yX7_trust cX7_trust 1 (some .int) :: ([.fieldLink RX7 122 "CodedGroupsModel" "trust" "I"] ++ wsX70)
def wsX7_symbol : List Cond := .code yX7_symbol cX7_symbol 2 (some .int) :: ([.fieldLink RX7 152 "CodedGroupsModel" "received" "I", .fieldLink RX7 33 "CodedGroupsModel" "latest" "[I"] ++ wsX70)
def wsX7_isFrame : List Cond := .code yX7_isFrame cX7_isFrame 2 (some .boolean) :: ([.fieldLink RX7 146 "CodedGroupsModel" "kept" "I"] ++ wsX70)
def wsX7_length : List Cond := .code yX7_length cX7_length 2 (some .int) :: ([.fieldLink RX7 39 "CodedGroupsModel" "lengths" "[I", .methodLink RX7 161 yX7_isFrame, .instanceMethod yX7_isFrame, .selects RX7 yX7_isFrame yX7_isFrame, .initialized RX7, .code yX7_isFrame cX7_isFrame 2 (some .boolean), .fieldLink RX7 146 "CodedGroupsModel" "kept" "I"] ++ wsX70)
def wsX7_whole : List Cond := .code yX7_whole cX7_whole 2 (some .boolean) :: ([.fieldLink RX7 42 "CodedGroupsModel" "isWhole" "[Z", .methodLink RX7 161 yX7_isFrame, .instanceMethod yX7_isFrame, .selects RX7 yX7_isFrame yX7_isFrame, .initialized RX7, .code yX7_isFrame cX7_isFrame 2 (some .boolean), .fieldLink RX7 146 "CodedGroupsModel" "kept" "I"] ++ wsX70)
def wsX7_at : List Cond := .code yX7_at cX7_at 3 (some .int) :: ([.fieldLink RX7 39 "CodedGroupsModel" "lengths" "[I", .fieldLink RX7 46 "CodedGroupsModel" "frames" "[B", .methodLink RX7 161 yX7_isFrame, .instanceMethod yX7_isFrame, .selects RX7 yX7_isFrame yX7_isFrame, .initialized RX7, .code yX7_isFrame cX7_isFrame 2 (some .boolean), .fieldLink RX7 146 "CodedGroupsModel" "kept" "I"] ++ wsX70)
def wsX7_count : List Cond := .code yX7_count cX7_count 2 (some .int) :: ([.fieldLink RX7 76 "CodedGroupsModel" "sent" "I", .fieldLink RX7 113 "CodedGroupsModel" "groups" "I", .fieldLink RX7 116 "CodedGroupsModel" "badGroups" "I", .fieldLink RX7 131 "CodedGroupsModel" "searches" "I", .fieldLink RX7 146 "CodedGroupsModel" "kept" "I", .fieldLink RX7 140 "CodedGroupsModel" "ended" "I", .fieldLink RX7 143 "CodedGroupsModel" "wholes" "I", .fieldLink RX7 152 "CodedGroupsModel" "received" "I"] ++ wsX70)
def wsJ9_min_7cf53 : List Cond := .code yJ9_min_7cf53 cJ9_min_7cf53 2 (some .int) :: ([])
def wsL_law_r1 : List Cond := [Cond.classLink RL 7 RX6, Cond.instantiable RX6 3, Cond.initialized RX6, Cond.classLink RL 10 RX7, Cond.instantiable RX7 32, Cond.initialized RX7, Cond.methodLink RL 9 yX6_init, Cond.instanceMethod yX6_init, Cond.code yX6_init cX6_init 1 none, Cond.methodLink RX6 1 objectInit, Cond.instanceMethod objectInit, Cond.code objectInit ⟨#[0xb1]⟩ 1 none, Cond.classLink RX6 7 RX2, Cond.instantiable RX2 2, Cond.initialized RX2, Cond.fieldLink RX6 10 "CodedGroups" "wire" "LCodedGroups$Line;", Cond.classLink RX6 16 RX4, Cond.instantiable RX4 4, Cond.initialized RX4, Cond.fieldLink RX6 19 "CodedGroups" "sender" "LCodedGroups$Sender;", Cond.classLink RX6 23 RX3, Cond.instantiable RX3 12, Cond.initialized RX3, Cond.fieldLink RX6 26 "CodedGroups" "receiver" "LCodedGroups$Receiver;"]
def wsL_law_r2 : List Cond := [Cond.instanceMethod yX2_init, Cond.code yX2_init cX2_init 1 none, Cond.methodLink RX2 3 objectInit, Cond.arrayClass .byte, Cond.fieldLink RX2 11 "CodedGroups$Line" "bits" "[B", Cond.fieldLink RX2 15 "CodedGroups$Line" "held" "I", Cond.instanceMethod yX4_init, Cond.code yX4_init cX4_init 1 none, Cond.methodLink RX4 3 objectInit, Cond.arrayClass .int, Cond.fieldLink RX4 11 "CodedGroups$Sender" "tape" "[I", Cond.fieldLink RX4 15 "CodedGroups$Sender" "taped" "I", Cond.fieldLink RX4 19 "CodedGroups$Sender" "lean" "I", Cond.fieldLink RX4 22 "CodedGroups$Sender" "sent" "I", Cond.instanceMethod yX3_init, Cond.code yX3_init cX3_init 1 none, Cond.methodLink RX3 3 objectInit, Cond.classLink RX3 9 RX5, Cond.instantiable RX5 4, Cond.initialized RX5, Cond.fieldLink RX3 12 "CodedGroups$Receiver" "log" "LCodedGroups$SymbolLog;", Cond.classLink RX3 18 RX1, Cond.instantiable RX1 9, Cond.initialized RX1]
def wsL_law_r3 : List Cond := [Cond.fieldLink RX3 21 "CodedGroups$Receiver" "shelf" "LCodedGroups$FrameShelf;", Cond.fieldLink RX3 25 "CodedGroups$Receiver" "window" "I", Cond.fieldLink RX3 29 "CodedGroups$Receiver" "windowBits" "I", Cond.fieldLink RX3 32 "CodedGroups$Receiver" "even" "Z", Cond.fieldLink RX3 36 "CodedGroups$Receiver" "lean" "I", Cond.fieldLink RX3 39 "CodedGroups$Receiver" "rank" "I", Cond.fieldLink RX3 42 "CodedGroups$Receiver" "faith" "I", Cond.fieldLink RX3 45 "CodedGroups$Receiver" "goodInRow" "I", Cond.fieldLink RX3 48 "CodedGroups$Receiver" "groups" "I", Cond.fieldLink RX3 51 "CodedGroups$Receiver" "badGroups" "I", Cond.fieldLink RX3 54 "CodedGroups$Receiver" "searches" "I", Cond.instanceMethod yX5_init, Cond.code yX5_init cX5_init 1 none, Cond.methodLink RX5 3 objectInit, Cond.fieldLink RX5 11 "CodedGroups$SymbolLog" "row" "[I", Cond.fieldLink RX5 15 "CodedGroups$SymbolLog" "next" "I", Cond.fieldLink RX5 19 "CodedGroups$SymbolLog" "kept" "I", Cond.fieldLink RX5 22 "CodedGroups$SymbolLog" "received" "I", Cond.instanceMethod yX1_init, Cond.code yX1_init cX1_init 1 none, Cond.methodLink RX1 5 objectInit, Cond.fieldLink RX1 11 "CodedGroups$FrameShelf" "words" "[I", Cond.fieldLink RX1 15 "CodedGroups$FrameShelf" "lengths" "[I", Cond.arrayClass .boolean]
def wsL_law_r4 : List Cond := [Cond.fieldLink RX1 18 "CodedGroups$FrameShelf" "wholes" "[Z", Cond.fieldLink RX1 22 "CodedGroups$FrameShelf" "slot" "I", Cond.fieldLink RX1 26 "CodedGroups$FrameShelf" "kept" "I", Cond.fieldLink RX1 29 "CodedGroups$FrameShelf" "state" "I", Cond.fieldLink RX1 32 "CodedGroups$FrameShelf" "broken" "Z", Cond.fieldLink RX1 36 "CodedGroups$FrameShelf" "ended" "I", Cond.fieldLink RX1 39 "CodedGroups$FrameShelf" "endedWhole" "I", Cond.methodLink RL 12 yX7_init, Cond.instanceMethod yX7_init, Cond.code yX7_init cX7_init 1 none, Cond.methodLink RX7 1 objectInit, Cond.fieldLink RX7 7 "CodedGroupsModel" "six" "[I", Cond.fieldLink RX7 13 "CodedGroupsModel" "four" "[I", Cond.fieldLink RX7 16 "CodedGroupsModel" "signFour" "[I", Cond.fieldLink RX7 19 "CodedGroupsModel" "line" "[B", Cond.fieldLink RX7 23 "CodedGroupsModel" "tape" "[B", Cond.fieldLink RX7 26 "CodedGroupsModel" "sendingDisparity" "I", Cond.fieldLink RX7 30 "CodedGroupsModel" "disparity" "I", Cond.fieldLink RX7 33 "CodedGroupsModel" "latest" "[I", Cond.fieldLink RX7 36 "CodedGroupsModel" "open" "[B", Cond.fieldLink RX7 39 "CodedGroupsModel" "lengths" "[I", Cond.fieldLink RX7 42 "CodedGroupsModel" "isWhole" "[Z", Cond.fieldLink RX7 46 "CodedGroupsModel" "frames" "[B", Cond.fieldLink RX7 49 "CodedGroupsModel" "size" "I"]
def wsL_law_r5 : List Cond := [Cond.methodLink RL 13 yX6_send, Cond.instanceMethod yX6_send, Cond.selects RX6 yX6_send yX6_send, Cond.code yX6_send cX6_send 3 (some .int), Cond.methodLink RX6 30 yX0_isSymbol, Cond.static yX0_isSymbol, Cond.initialized RX0, Cond.code yX0_isSymbol cX0_isSymbol 2 (some .boolean), Cond.methodLink RX0 9 yX0_isSign, Cond.static yX0_isSign, Cond.code yX0_isSign cX0_isSign 2 (some .boolean), Cond.methodLink RX6 36 yX2_hasRoomFor, Cond.instanceMethod yX2_hasRoomFor, Cond.selects RX2 yX2_hasRoomFor yX2_hasRoomFor, Cond.code yX2_hasRoomFor cX2_hasRoomFor 2 (some .boolean), Cond.methodLink RX6 40 yX4_put, Cond.instanceMethod yX4_put, Cond.selects RX4 yX4_put yX4_put, Cond.code yX4_put cX4_put 6 (some .int), Cond.methodLink RX4 25 yX0_groupOf, Cond.static yX0_groupOf, Cond.code yX0_groupOf cX0_groupOf 6 (some .int), Cond.methodLink RX0 15 yX0_sixOf, Cond.static yX0_sixOf]
def wsL_law_r6 : List Cond := [Cond.code yX0_sixOf cX0_sixOf 3 (some .int), Cond.fieldLink RX0 27 "CodedGroups$Code" "SIX_MINUS" "[I", Cond.fieldLink RX0 31 "CodedGroups$Code" "SIX_PLUS" "[I", Cond.methodLink RX0 19 yX0_behindSix, Cond.static yX0_behindSix, Cond.code yX0_behindSix cX0_behindSix 3 (some .int), Cond.methodLink RX0 46 yJ6_bitCount_0f7a4, Cond.static yJ6_bitCount_0f7a4, Cond.initialized RJ6, Cond.code yJ6_bitCount_0f7a4 cJ6_bitCount_0f7a4 1 (some .int), Cond.constant RJ6 265 (1431655765), Cond.constant RJ6 266 (858993459), Cond.constant RJ6 267 (252645135), Cond.methodLink RX0 23 yX0_fourOf, Cond.static yX0_fourOf, Cond.code yX0_fourOf cX0_fourOf 4 (some .int), Cond.fieldLink RX0 34 "CodedGroups$Code" "SIGN_FOUR_MINUS" "[I", Cond.fieldLink RX0 37 "CodedGroups$Code" "SIGN_FOUR_PLUS" "[I", Cond.fieldLink RX0 40 "CodedGroups$Code" "FOUR_MINUS" "[I", Cond.fieldLink RX0 43 "CodedGroups$Code" "FOUR_PLUS" "[I", Cond.methodLink RX4 31 yX2_append, Cond.instanceMethod yX2_append, Cond.selects RX2 yX2_append yX2_append, Cond.code yX2_append cX2_append 2 (some .boolean)]
def wsL_law_r7 : List Cond := [Cond.methodLink RX4 37 yX0_behindGroup, Cond.static yX0_behindGroup, Cond.code yX0_behindGroup cX0_behindGroup 2 (some .int), Cond.methodLink RX0 52 yX0_behindFour, Cond.static yX0_behindFour, Cond.code yX0_behindFour cX0_behindFour 3 (some .int), Cond.methodLink RL 17 yX7_send, Cond.instanceMethod yX7_send, Cond.selects RX7 yX7_send yX7_send, Cond.code yX7_send cX7_send 5 (some .int), Cond.fieldLink RX7 76 "CodedGroupsModel" "sent" "I", Cond.methodLink RX7 68 yX7_isSign, Cond.static yX7_isSign, Cond.code yX7_isSign cX7_isSign 2 (some .boolean), Cond.methodLink RX7 64 yX7_groupOf, Cond.instanceMethod yX7_groupOf, Cond.selects RX7 yX7_groupOf yX7_groupOf, Cond.code yX7_groupOf cX7_groupOf 9 (some .int), Cond.methodLink RX7 56 yX7_form, Cond.static yX7_form, Cond.code yX7_form cX7_form 3 (some .int), Cond.methodLink RX7 60 yX7_behind, Cond.static yX7_behind, Cond.code yX7_behind cX7_behind 6 (some .int)]
def wsL_law_r8 : List Cond := [Cond.methodLink RX7 52 yX7_ones, Cond.static yX7_ones, Cond.code yX7_ones cX7_ones 3 (some .int), Cond.methodLink RX7 72 yX7_behindGroup, Cond.static yX7_behindGroup, Cond.code yX7_behindGroup cX7_behindGroup 2 (some .int), Cond.methodLink RL 18 yX6_idle, Cond.instanceMethod yX6_idle, Cond.selects RX6 yX6_idle yX6_idle, Cond.code yX6_idle cX6_idle 1 (some .boolean), Cond.methodLink RX6 44 yX4_putIdle, Cond.instanceMethod yX4_putIdle, Cond.selects RX4 yX4_putIdle yX4_putIdle, Cond.code yX4_putIdle cX4_putIdle 3 (some .boolean), Cond.methodLink RX4 41 yX2_hasRoomFor, Cond.methodLink RX4 44 yX4_put, Cond.methodLink RL 22 yX7_idle, Cond.instanceMethod yX7_idle, Cond.selects RX7 yX7_idle yX7_idle, Cond.code yX7_idle cX7_idle 2 (some .boolean), Cond.methodLink RX7 79 yX7_send, Cond.methodLink RL 23 yX6_feed, Cond.instanceMethod yX6_feed, Cond.selects RX6 yX6_feed yX6_feed]
def wsL_law_r9 : List Cond := [Cond.code yX6_feed cX6_feed 2 (some .boolean), Cond.methodLink RX6 48 yX4_keepOnTape, Cond.instanceMethod yX4_keepOnTape, Cond.selects RX4 yX4_keepOnTape yX4_keepOnTape, Cond.code yX4_keepOnTape cX4_keepOnTape 2 (some .boolean), Cond.methodLink RL 27 yX7_feed, Cond.instanceMethod yX7_feed, Cond.selects RX7 yX7_feed yX7_feed, Cond.code yX7_feed cX7_feed 2 (some .boolean), Cond.fieldLink RX7 83 "CodedGroupsModel" "tapeSize" "I", Cond.methodLink RL 28 yX6_frame, Cond.instanceMethod yX6_frame, Cond.selects RX6 yX6_frame yX6_frame, Cond.code yX6_frame cX6_frame 1 (some .int), Cond.methodLink RX6 51 yX4_putFrame, Cond.instanceMethod yX4_putFrame, Cond.selects RX4 yX4_putFrame yX4_putFrame, Cond.code yX4_putFrame cX4_putFrame 4 (some .int), Cond.methodLink RX4 48 yX4_frameGroups, Cond.instanceMethod yX4_frameGroups, Cond.selects RX4 yX4_frameGroups yX4_frameGroups, Cond.code yX4_frameGroups cX4_frameGroups 2 (some .int), Cond.methodLink RL 32 yX7_frame, Cond.instanceMethod yX7_frame]
def wsL_law_r10 : List Cond := [Cond.selects RX7 yX7_frame yX7_frame, Cond.code yX7_frame cX7_frame 3 (some .int), Cond.methodLink RL 33 yX6_bit, Cond.instanceMethod yX6_bit, Cond.selects RX6 yX6_bit yX6_bit, Cond.code yX6_bit cX6_bit 2 (some .boolean), Cond.methodLink RX6 55 yX2_append, Cond.methodLink RL 36 yX7_bit, Cond.instanceMethod yX7_bit, Cond.selects RX7 yX7_bit yX7_bit, Cond.code yX7_bit cX7_bit 2 (some .boolean), Cond.methodLink RL 37 yX6_turn, Cond.instanceMethod yX6_turn, Cond.selects RX6 yX6_turn yX6_turn, Cond.code yX6_turn cX6_turn 2 (some .boolean), Cond.methodLink RX6 58 yX2_flip, Cond.instanceMethod yX2_flip, Cond.selects RX2 yX2_flip yX2_flip, Cond.code yX2_flip cX2_flip 2 (some .boolean), Cond.methodLink RX2 19 yX2_has, Cond.instanceMethod yX2_has, Cond.selects RX2 yX2_has yX2_has, Cond.code yX2_has cX2_has 2 (some .boolean), Cond.methodLink RL 40 yX7_turn]
def wsL_law_r11 : List Cond := [Cond.instanceMethod yX7_turn, Cond.selects RX7 yX7_turn yX7_turn, Cond.code yX7_turn cX7_turn 2 (some .boolean), Cond.methodLink RL 41 yX6_drop, Cond.instanceMethod yX6_drop, Cond.selects RX6 yX6_drop yX6_drop, Cond.code yX6_drop cX6_drop 2 (some .boolean), Cond.methodLink RX6 61 yX2_leaveOut, Cond.instanceMethod yX2_leaveOut, Cond.selects RX2 yX2_leaveOut yX2_leaveOut, Cond.code yX2_leaveOut cX2_leaveOut 2 (some .boolean), Cond.methodLink RX2 23 arraycopyName, Cond.native arraycopyName, Cond.static arraycopyName, Cond.initialized "java/lang/System", Cond.methodLink RL 44 yX7_drop, Cond.instanceMethod yX7_drop, Cond.selects RX7 yX7_drop yX7_drop, Cond.code yX7_drop cX7_drop 3 (some .boolean), Cond.methodLink RL 45 yX6_line, Cond.instanceMethod yX6_line, Cond.selects RX6 yX6_line yX6_line, Cond.code yX6_line cX6_line 2 (some .int), Cond.methodLink RX6 64 yX2_get]
def wsL_law_r12 : List Cond := [Cond.instanceMethod yX2_get, Cond.selects RX2 yX2_get yX2_get, Cond.code yX2_get cX2_get 2 (some .int), Cond.methodLink RL 49 yX7_line, Cond.instanceMethod yX7_line, Cond.selects RX7 yX7_line yX7_line, Cond.code yX7_line cX7_line 2 (some .int), Cond.methodLink RL 50 yX6_size, Cond.instanceMethod yX6_size, Cond.selects RX6 yX6_size yX6_size, Cond.code yX6_size cX6_size 1 (some .int), Cond.methodLink RL 53 yX7_size, Cond.instanceMethod yX7_size, Cond.selects RX7 yX7_size yX7_size, Cond.code yX7_size cX7_size 1 (some .int), Cond.methodLink RL 54 yX6_disparity, Cond.instanceMethod yX6_disparity, Cond.selects RX6 yX6_disparity yX6_disparity, Cond.code yX6_disparity cX6_disparity 2 (some .int), Cond.methodLink RL 57 yX7_disparity, Cond.instanceMethod yX7_disparity, Cond.selects RX7 yX7_disparity yX7_disparity, Cond.code yX7_disparity cX7_disparity 2 (some .int), Cond.methodLink RL 58 yX6_take]
def wsL_law_r13 : List Cond := [Cond.instanceMethod yX6_take, Cond.selects RX6 yX6_take yX6_take, Cond.code yX6_take cX6_take 4 (some .int), Cond.methodLink RX6 76 Lib.Math.min.name, Cond.static Lib.Math.min.name, Cond.initialized "java/lang/Math", Cond.code Lib.Math.min.name Lib.Math.min.code 2 (some .int), Cond.methodLink RX6 82 yX3_accept, Cond.instanceMethod yX3_accept, Cond.selects RX3 yX3_accept yX3_accept, Cond.code yX3_accept cX3_accept 3 none, Cond.methodLink RX3 57 yX0_isComma, Cond.static yX0_isComma, Cond.code yX0_isComma cX0_isComma 2 (some .boolean), Cond.methodLink RX3 63 yX3_readGroup, Cond.instanceMethod yX3_readGroup, Cond.selects RX3 yX3_readGroup yX3_readGroup, Cond.code yX3_readGroup cX3_readGroup 2 (some .int), Cond.methodLink RX3 96 yX0_symbolOf, Cond.static yX0_symbolOf, Cond.code yX0_symbolOf cX0_symbolOf 4 (some .int), Cond.methodLink RX0 55 yX0_byteOfGroup, Cond.static yX0_byteOfGroup, Cond.code yX0_byteOfGroup cX0_byteOfGroup 6 (some .int)]
def wsL_law_r14 : List Cond := [Cond.methodLink RX0 58 yX0_highPart, Cond.static yX0_highPart, Cond.code yX0_highPart cX0_highPart 5 (some .int), Cond.methodLink RX3 100 yX0_behindGroup, Cond.methodLink RX3 67 yX3_laterGroup, Cond.instanceMethod yX3_laterGroup, Cond.selects RX3 yX3_laterGroup yX3_laterGroup, Cond.code yX3_laterGroup cX3_laterGroup 4 none, Cond.methodLink RX3 82 yX3_climb, Cond.instanceMethod yX3_climb, Cond.selects RX3 yX3_climb yX3_climb, Cond.code yX3_climb cX3_climb 3 none, Cond.methodLink RX3 79 yX3_searchAgain, Cond.instanceMethod yX3_searchAgain, Cond.selects RX3 yX3_searchAgain yX3_searchAgain, Cond.code yX3_searchAgain cX3_searchAgain 1 none, Cond.methodLink RX3 108 yX1_lose, Cond.instanceMethod yX1_lose, Cond.selects RX1 yX1_lose yX1_lose, Cond.code yX1_lose cX1_lose 1 none, Cond.methodLink RX1 42 yX1_finish, Cond.instanceMethod yX1_finish, Cond.selects RX1 yX1_finish yX1_finish, Cond.code yX1_finish cX1_finish 2 none]
def wsL_law_r15 : List Cond := [Cond.methodLink RX3 86 yX5_keep, Cond.instanceMethod yX5_keep, Cond.selects RX5 yX5_keep yX5_keep, Cond.code yX5_keep cX5_keep 2 none, Cond.methodLink RX5 25 Lib.Math.min.name, Cond.methodLink RX3 89 yX1_look, Cond.instanceMethod yX1_look, Cond.selects RX1 yX1_look yX1_look, Cond.code yX1_look cX1_look 2 none, Cond.methodLink RX1 46 yX1_lose, Cond.methodLink RX1 49 yX1_begin, Cond.instanceMethod yX1_begin, Cond.selects RX1 yX1_begin yX1_begin, Cond.code yX1_begin cX1_begin 1 none, Cond.methodLink RX1 52 yX1_lookInside, Cond.instanceMethod yX1_lookInside, Cond.selects RX1 yX1_lookInside yX1_lookInside, Cond.code yX1_lookInside cX1_lookInside 2 none, Cond.methodLink RX1 56 yX1_addByte, Cond.instanceMethod yX1_addByte, Cond.selects RX1 yX1_addByte yX1_addByte, Cond.code yX1_addByte cX1_addByte 5 none, Cond.methodLink RX3 92 yX3_weigh, Cond.instanceMethod yX3_weigh]
def wsL_law_r16 : List Cond := [Cond.selects RX3 yX3_weigh yX3_weigh, Cond.code yX3_weigh cX3_weigh 2 none, Cond.methodLink RX3 103 Lib.Math.min.name, Cond.methodLink RX3 71 yX0_leanBeforeComma, Cond.static yX0_leanBeforeComma, Cond.code yX0_leanBeforeComma cX0_leanBeforeComma 1 (some .int), Cond.methodLink RX3 75 yX3_firstGroup, Cond.instanceMethod yX3_firstGroup, Cond.selects RX3 yX3_firstGroup yX3_firstGroup, Cond.code yX3_firstGroup cX3_firstGroup 2 none, Cond.methodLink RX6 86 yX2_cutFront, Cond.instanceMethod yX2_cutFront, Cond.selects RX2 yX2_cutFront yX2_cutFront, Cond.code yX2_cutFront cX2_cutFront 2 none, Cond.methodLink RL 61 yX7_take, Cond.instanceMethod yX7_take, Cond.selects RX7 yX7_take yX7_take, Cond.code yX7_take cX7_take 4 (some .int), Cond.methodLink RX7 86 yX7_takeBit, Cond.instanceMethod yX7_takeBit, Cond.selects RX7 yX7_takeBit yX7_takeBit, Cond.code yX7_takeBit cX7_takeBit 2 none, Cond.fieldLink RX7 90 "CodedGroupsModel" "group" "I", Cond.fieldLink RX7 93 "CodedGroupsModel" "bitsIn" "I"]
def wsL_law_r17 : List Cond := [Cond.fieldLink RX7 96 "CodedGroupsModel" "level" "I", Cond.fieldLink RX7 102 "CodedGroupsModel" "isOdd" "Z", Cond.methodLink RX7 99 yX7_isComma, Cond.static yX7_isComma, Cond.code yX7_isComma cX7_isComma 1 (some .boolean), Cond.methodLink RX7 106 yX7_takeGroup, Cond.instanceMethod yX7_takeGroup, Cond.selects RX7 yX7_takeGroup yX7_takeGroup, Cond.code yX7_takeGroup cX7_takeGroup 7 none, Cond.fieldLink RX7 113 "CodedGroupsModel" "groups" "I", Cond.fieldLink RX7 116 "CodedGroupsModel" "badGroups" "I", Cond.fieldLink RX7 122 "CodedGroupsModel" "trust" "I", Cond.fieldLink RX7 125 "CodedGroupsModel" "goodRow" "I", Cond.methodLink RX7 110 yX7_decode, Cond.instanceMethod yX7_decode, Cond.selects RX7 yX7_decode yX7_decode, Cond.code yX7_decode cX7_decode 4 (some .int), Cond.methodLink RX7 119 yX7_searchAgain, Cond.instanceMethod yX7_searchAgain, Cond.selects RX7 yX7_searchAgain yX7_searchAgain, Cond.code yX7_searchAgain cX7_searchAgain 1 none, Cond.fieldLink RX7 131 "CodedGroupsModel" "searches" "I", Cond.fieldLink RX7 134 "CodedGroupsModel" "isOpen" "Z", Cond.methodLink RX7 137 yX7_end]
def wsL_law_r18 : List Cond := [Cond.instanceMethod yX7_end, Cond.selects RX7 yX7_end yX7_end, Cond.code yX7_end cX7_end 3 none, Cond.fieldLink RX7 140 "CodedGroupsModel" "ended" "I", Cond.fieldLink RX7 143 "CodedGroupsModel" "wholes" "I", Cond.fieldLink RX7 146 "CodedGroupsModel" "kept" "I", Cond.fieldLink RX7 149 "CodedGroupsModel" "openSize" "I", Cond.methodLink RX7 128 yX7_receive, Cond.instanceMethod yX7_receive, Cond.selects RX7 yX7_receive yX7_receive, Cond.code yX7_receive cX7_receive 3 none, Cond.fieldLink RX7 152 "CodedGroupsModel" "received" "I", Cond.fieldLink RX7 155 "CodedGroupsModel" "isClosed" "Z", Cond.fieldLink RX7 158 "CodedGroupsModel" "isBroken" "Z", Cond.methodLink RL 62 yX6_level, Cond.instanceMethod yX6_level, Cond.selects RX6 yX6_level yX6_level, Cond.code yX6_level cX6_level 1 (some .int), Cond.methodLink RL 65 yX7_level, Cond.instanceMethod yX7_level, Cond.selects RX7 yX7_level yX7_level, Cond.code yX7_level cX7_level 1 (some .int), Cond.methodLink RL 66 yX6_trust, Cond.instanceMethod yX6_trust]
def wsL_law_r19 : List Cond := [Cond.selects RX6 yX6_trust yX6_trust, Cond.code yX6_trust cX6_trust 1 (some .int), Cond.methodLink RL 69 yX7_trust, Cond.instanceMethod yX7_trust, Cond.selects RX7 yX7_trust yX7_trust, Cond.code yX7_trust cX7_trust 1 (some .int), Cond.methodLink RL 70 yX6_symbol, Cond.instanceMethod yX6_symbol, Cond.selects RX6 yX6_symbol yX6_symbol, Cond.code yX6_symbol cX6_symbol 2 (some .int), Cond.methodLink RX6 99 yX5_latest, Cond.instanceMethod yX5_latest, Cond.selects RX5 yX5_latest yX5_latest, Cond.code yX5_latest cX5_latest 3 (some .int), Cond.methodLink RL 73 yX7_symbol, Cond.instanceMethod yX7_symbol, Cond.selects RX7 yX7_symbol yX7_symbol, Cond.code yX7_symbol cX7_symbol 2 (some .int), Cond.methodLink RL 74 yX6_length, Cond.instanceMethod yX6_length, Cond.selects RX6 yX6_length yX6_length, Cond.code yX6_length cX6_length 2 (some .int), Cond.methodLink RX6 108 yX1_lengthOf, Cond.instanceMethod yX1_lengthOf]
def wsL_law_r20 : List Cond := [Cond.selects RX1 yX1_lengthOf yX1_lengthOf, Cond.code yX1_lengthOf cX1_lengthOf 2 (some .int), Cond.methodLink RX1 65 yX1_has, Cond.instanceMethod yX1_has, Cond.selects RX1 yX1_has yX1_has, Cond.code yX1_has cX1_has 2 (some .boolean), Cond.methodLink RX1 69 yX1_slotOf, Cond.instanceMethod yX1_slotOf, Cond.selects RX1 yX1_slotOf yX1_slotOf, Cond.code yX1_slotOf cX1_slotOf 2 (some .int), Cond.methodLink RX1 59 yJ9_floorMod_7cf53, Cond.static yJ9_floorMod_7cf53, Cond.initialized RJ9, Cond.code yJ9_floorMod_7cf53 cJ9_floorMod_7cf53 3 (some .int), Cond.methodLink RL 77 yX7_length, Cond.instanceMethod yX7_length, Cond.selects RX7 yX7_length yX7_length, Cond.code yX7_length cX7_length 2 (some .int), Cond.methodLink RX7 161 yX7_isFrame, Cond.instanceMethod yX7_isFrame, Cond.selects RX7 yX7_isFrame yX7_isFrame, Cond.code yX7_isFrame cX7_isFrame 2 (some .boolean), Cond.methodLink RL 78 yX6_whole, Cond.instanceMethod yX6_whole]
def wsL_law_r21 : List Cond := [Cond.selects RX6 yX6_whole yX6_whole, Cond.code yX6_whole cX6_whole 2 (some .boolean), Cond.methodLink RX6 113 yX1_isWhole, Cond.instanceMethod yX1_isWhole, Cond.selects RX1 yX1_isWhole yX1_isWhole, Cond.code yX1_isWhole cX1_isWhole 2 (some .boolean), Cond.methodLink RL 81 yX7_whole, Cond.instanceMethod yX7_whole, Cond.selects RX7 yX7_whole yX7_whole, Cond.code yX7_whole cX7_whole 2 (some .boolean), Cond.methodLink RL 82 yX6_at, Cond.instanceMethod yX6_at, Cond.selects RX6 yX6_at yX6_at, Cond.code yX6_at cX6_at 3 (some .int), Cond.methodLink RX6 116 yX1_byteOf, Cond.instanceMethod yX1_byteOf, Cond.selects RX1 yX1_byteOf yX1_byteOf, Cond.code yX1_byteOf cX1_byteOf 4 (some .int), Cond.methodLink RX1 73 yX1_lengthOf, Cond.methodLink RL 86 yX7_at, Cond.instanceMethod yX7_at, Cond.selects RX7 yX7_at yX7_at, Cond.code yX7_at cX7_at 3 (some .int), Cond.methodLink RL 87 yX6_decode]
def wsL_law_r22 : List Cond := [Cond.instanceMethod yX6_decode, Cond.selects RX6 yX6_decode yX6_decode, Cond.code yX6_decode cX6_decode 3 (some .int), Cond.methodLink RX6 119 yX0_symbolOf, Cond.methodLink RL 90 yX7_decode, Cond.methodLink RL 91 yX6_count, Cond.instanceMethod yX6_count, Cond.selects RX6 yX6_count yX6_count, Cond.code yX6_count cX6_count 2 (some .int), Cond.methodLink RL 94 yX7_count, Cond.instanceMethod yX7_count, Cond.selects RX7 yX7_count yX7_count, Cond.code yX7_count cX7_count 2 (some .int)]
def wsL_law : List Cond := (wsL_law_r1 ++ (wsL_law_r2 ++ (wsL_law_r3 ++ (wsL_law_r4 ++ (wsL_law_r5 ++ (wsL_law_r6 ++ (wsL_law_r7 ++ (wsL_law_r8 ++ (wsL_law_r9 ++ (wsL_law_r10 ++ (wsL_law_r11 ++ (wsL_law_r12 ++ (wsL_law_r13 ++ (wsL_law_r14 ++ (wsL_law_r15 ++ (wsL_law_r16 ++ (wsL_law_r17 ++ (wsL_law_r18 ++ (wsL_law_r19 ++ (wsL_law_r20 ++ (wsL_law_r21 ++ wsL_law_r22))))))))))))))))))))) ++ wsX60 ++ wsX70 ++ wsX20 ++ wsX40 ++ wsX30 ++ wsX50 ++ wsX10 ++ ([] : List Cond)
abbrev vwCl : List vw_C := [(RX1, TX1, 9), (RX2, TX2, 2), (RX3, TX3, 12), (RX4, TX4, 4), (RX5, TX5, 4), (RX6, TX6, 3), (RX7, TX7, 32)]
end
section
set_option maxRecDepth 20000 in
theorem ggX0_isSymbol_X0_isSign : GoodIn wsX0_isSymbol wsX0_isSign := goodIn_r _ [4] (by decide +kernel) (by decide +kernel)
set_option maxRecDepth 20000 in
theorem gX0_isSymbol_X0_isSign : GoodIn wsX0_isSymbol (va_wsS RX0 9 yX0_isSign wsX0_isSign) := goodIn_app (goodIn_of _ (by decide +kernel)) ggX0_isSymbol_X0_isSign
theorem dX0_isSymbol_0 : decode cX0_isSymbol 0 = .ok (.iload_n 0, 1) := by decide +kernel
theorem dX0_isSymbol_1 : decode cX0_isSymbol 1 = .ok (.ifCond .lt 10, 3) := by decide +kernel
theorem dX0_isSymbol_4 : decode cX0_isSymbol 4 = .ok (.iload_n 0, 1) := by decide +kernel
theorem dX0_isSymbol_5 : decode cX0_isSymbol 5 = .ok (.sipush 255, 3) := by decide +kernel
theorem dX0_isSymbol_8 : decode cX0_isSymbol 8 = .ok (.if_icmp .le 5, 3) := by decide +kernel
theorem dX0_isSymbol_11 : decode cX0_isSymbol 11 = .ok (.iconst 0, 1) := by decide +kernel
theorem dX0_isSymbol_12 : decode cX0_isSymbol 12 = .ok (.ireturn, 1) := by decide +kernel
theorem dX0_isSymbol_13 : decode cX0_isSymbol 13 = .ok (.iload_n 1, 1) := by decide +kernel
theorem dX0_isSymbol_14 : decode cX0_isSymbol 14 = .ok (.ifCond .eq 16, 3) := by decide +kernel
theorem dX0_isSymbol_17 : decode cX0_isSymbol 17 = .ok (.iload_n 0, 1) := by decide +kernel
theorem dX0_isSymbol_18 : decode cX0_isSymbol 18 = .ok (.bipush 31, 2) := by decide +kernel
theorem dX0_isSymbol_20 : decode cX0_isSymbol 20 = .ok (.iand, 1) := by decide +kernel
theorem dX0_isSymbol_21 : decode cX0_isSymbol 21 = .ok (.iload_n 0, 1) := by decide +kernel
theorem dX0_isSymbol_22 : decode cX0_isSymbol 22 = .ok (.iconst 5, 1) := by decide +kernel
theorem dX0_isSymbol_23 : decode cX0_isSymbol 23 = .ok (.ishr, 1) := by decide +kernel
theorem dX0_isSymbol_24 : decode cX0_isSymbol 24 = .ok (.invokestatic 9, 3) := by decide +kernel
theorem dX0_isSymbol_27 : decode cX0_isSymbol 27 = .ok (.ifCond .eq 7, 3) := by decide +kernel
theorem dX0_isSymbol_30 : decode cX0_isSymbol 30 = .ok (.iconst 1, 1) := by decide +kernel
theorem dX0_isSymbol_31 : decode cX0_isSymbol 31 = .ok (.goto 4, 3) := by decide +kernel
theorem dX0_isSymbol_34 : decode cX0_isSymbol 34 = .ok (.iconst 0, 1) := by decide +kernel
theorem dX0_isSymbol_35 : decode cX0_isSymbol 35 = .ok (.ireturn, 1) := by decide +kernel
theorem dX0_isSign_0 : decode cX0_isSign 0 = .ok (.iload_n 0, 1) := by decide +kernel
theorem dX0_isSign_1 : decode cX0_isSign 1 = .ok (.bipush 28, 2) := by decide +kernel
theorem dX0_isSign_3 : decode cX0_isSign 3 = .ok (.if_icmp .eq 33, 3) := by decide +kernel
theorem dX0_isSign_6 : decode cX0_isSign 6 = .ok (.iload_n 1, 1) := by decide +kernel
theorem dX0_isSign_7 : decode cX0_isSign 7 = .ok (.bipush 7, 2) := by decide +kernel
theorem dX0_isSign_9 : decode cX0_isSign 9 = .ok (.if_icmp .ne 31, 3) := by decide +kernel
theorem dX0_isSign_12 : decode cX0_isSign 12 = .ok (.iload_n 0, 1) := by decide +kernel
theorem dX0_isSign_13 : decode cX0_isSign 13 = .ok (.bipush 23, 2) := by decide +kernel
theorem dX0_isSign_15 : decode cX0_isSign 15 = .ok (.if_icmp .eq 21, 3) := by decide +kernel
theorem dX0_isSign_18 : decode cX0_isSign 18 = .ok (.iload_n 0, 1) := by decide +kernel
theorem dX0_isSign_19 : decode cX0_isSign 19 = .ok (.bipush 27, 2) := by decide +kernel
theorem dX0_isSign_21 : decode cX0_isSign 21 = .ok (.if_icmp .eq 15, 3) := by decide +kernel
theorem dX0_isSign_24 : decode cX0_isSign 24 = .ok (.iload_n 0, 1) := by decide +kernel
theorem dX0_isSign_25 : decode cX0_isSign 25 = .ok (.bipush 29, 2) := by decide +kernel
theorem dX0_isSign_27 : decode cX0_isSign 27 = .ok (.if_icmp .eq 9, 3) := by decide +kernel
theorem dX0_isSign_30 : decode cX0_isSign 30 = .ok (.iload_n 0, 1) := by decide +kernel
theorem dX0_isSign_31 : decode cX0_isSign 31 = .ok (.bipush 30, 2) := by decide +kernel
theorem dX0_isSign_33 : decode cX0_isSign 33 = .ok (.if_icmp .ne 7, 3) := by decide +kernel
theorem dX0_isSign_36 : decode cX0_isSign 36 = .ok (.iconst 1, 1) := by decide +kernel
theorem dX0_isSign_37 : decode cX0_isSign 37 = .ok (.goto 4, 3) := by decide +kernel
theorem dX0_isSign_40 : decode cX0_isSign 40 = .ok (.iconst 0, 1) := by decide +kernel
theorem dX0_isSign_41 : decode cX0_isSign 41 = .ok (.ireturn, 1) := by decide +kernel
set_option maxRecDepth 20000 in
theorem ggX0_groupOf_X0_sixOf : GoodIn wsX0_groupOf wsX0_sixOf := goodIn_r _ [4, 5, 6] (by decide +kernel) (by decide +kernel)
set_option maxRecDepth 20000 in
theorem gX0_groupOf_X0_sixOf : GoodIn wsX0_groupOf (va_wsS RX0 15 yX0_sixOf wsX0_sixOf) := goodIn_app (goodIn_of _ (by decide +kernel)) ggX0_groupOf_X0_sixOf
set_option maxRecDepth 20000 in
theorem ggX0_groupOf_X0_behindSix : GoodIn wsX0_groupOf wsX0_behindSix := goodIn_r _ [9, 10, 11, 12, 13, 14, 15, 16] (by decide +kernel) (by decide +kernel)
set_option maxRecDepth 20000 in
theorem gX0_groupOf_X0_behindSix : GoodIn wsX0_groupOf (va_wsS RX0 19 yX0_behindSix wsX0_behindSix) := goodIn_app (goodIn_of _ (by decide +kernel)) ggX0_groupOf_X0_behindSix
set_option maxRecDepth 20000 in
theorem ggX0_groupOf_X0_fourOf : GoodIn wsX0_groupOf wsX0_fourOf := goodIn_r _ [19, 20, 21, 22, 23] (by decide +kernel) (by decide +kernel)
set_option maxRecDepth 20000 in
theorem gX0_groupOf_X0_fourOf : GoodIn wsX0_groupOf (va_wsS RX0 23 yX0_fourOf wsX0_fourOf) := goodIn_app (goodIn_of _ (by decide +kernel)) ggX0_groupOf_X0_fourOf
theorem dX0_groupOf_0 : decode cX0_groupOf 0 = .ok (.iload_n 0, 1) := by decide +kernel
theorem dX0_groupOf_1 : decode cX0_groupOf 1 = .ok (.bipush 31, 2) := by decide +kernel
theorem dX0_groupOf_3 : decode cX0_groupOf 3 = .ok (.iand, 1) := by decide +kernel
theorem dX0_groupOf_4 : decode cX0_groupOf 4 = .ok (.istore_n 3, 1) := by decide +kernel
theorem dX0_groupOf_5 : decode cX0_groupOf 5 = .ok (.iload_n 3, 1) := by decide +kernel
theorem dX0_groupOf_6 : decode cX0_groupOf 6 = .ok (.iload_n 1, 1) := by decide +kernel
theorem dX0_groupOf_7 : decode cX0_groupOf 7 = .ok (.iload_n 2, 1) := by decide +kernel
theorem dX0_groupOf_8 : decode cX0_groupOf 8 = .ok (.invokestatic 15, 3) := by decide +kernel
theorem dX0_groupOf_11 : decode cX0_groupOf 11 = .ok (.istore 4, 2) := by decide +kernel
theorem dX0_groupOf_13 : decode cX0_groupOf 13 = .ok (.iload_n 3, 1) := by decide +kernel
theorem dX0_groupOf_14 : decode cX0_groupOf 14 = .ok (.iload_n 0, 1) := by decide +kernel
theorem dX0_groupOf_15 : decode cX0_groupOf 15 = .ok (.iconst 5, 1) := by decide +kernel
theorem dX0_groupOf_16 : decode cX0_groupOf 16 = .ok (.ishr, 1) := by decide +kernel
theorem dX0_groupOf_17 : decode cX0_groupOf 17 = .ok (.bipush 7, 2) := by decide +kernel
theorem dX0_groupOf_19 : decode cX0_groupOf 19 = .ok (.iand, 1) := by decide +kernel
theorem dX0_groupOf_20 : decode cX0_groupOf 20 = .ok (.iload_n 1, 1) := by decide +kernel
theorem dX0_groupOf_21 : decode cX0_groupOf 21 = .ok (.iload 4, 2) := by decide +kernel
theorem dX0_groupOf_23 : decode cX0_groupOf 23 = .ok (.iload_n 2, 1) := by decide +kernel
theorem dX0_groupOf_24 : decode cX0_groupOf 24 = .ok (.invokestatic 19, 3) := by decide +kernel
theorem dX0_groupOf_27 : decode cX0_groupOf 27 = .ok (.invokestatic 23, 3) := by decide +kernel
theorem dX0_groupOf_30 : decode cX0_groupOf 30 = .ok (.istore 5, 2) := by decide +kernel
theorem dX0_groupOf_32 : decode cX0_groupOf 32 = .ok (.iload 4, 2) := by decide +kernel
theorem dX0_groupOf_34 : decode cX0_groupOf 34 = .ok (.iconst 4, 1) := by decide +kernel
theorem dX0_groupOf_35 : decode cX0_groupOf 35 = .ok (.ishl, 1) := by decide +kernel
theorem dX0_groupOf_36 : decode cX0_groupOf 36 = .ok (.iload 5, 2) := by decide +kernel
theorem dX0_groupOf_38 : decode cX0_groupOf 38 = .ok (.ior, 1) := by decide +kernel
theorem dX0_groupOf_39 : decode cX0_groupOf 39 = .ok (.ireturn, 1) := by decide +kernel
theorem dX0_sixOf_0 : decode cX0_sixOf 0 = .ok (.iload_n 0, 1) := by decide +kernel
theorem dX0_sixOf_1 : decode cX0_sixOf 1 = .ok (.ifCond .lt 9, 3) := by decide +kernel
theorem dX0_sixOf_4 : decode cX0_sixOf 4 = .ok (.iload_n 0, 1) := by decide +kernel
theorem dX0_sixOf_5 : decode cX0_sixOf 5 = .ok (.bipush 31, 2) := by decide +kernel
theorem dX0_sixOf_7 : decode cX0_sixOf 7 = .ok (.if_icmp .le 5, 3) := by decide +kernel
theorem dX0_sixOf_10 : decode cX0_sixOf 10 = .ok (.iconst (-1), 1) := by decide +kernel
theorem dX0_sixOf_11 : decode cX0_sixOf 11 = .ok (.ireturn, 1) := by decide +kernel
theorem dX0_sixOf_12 : decode cX0_sixOf 12 = .ok (.iload_n 1, 1) := by decide +kernel
theorem dX0_sixOf_13 : decode cX0_sixOf 13 = .ok (.ifCond .eq 21, 3) := by decide +kernel
theorem dX0_sixOf_16 : decode cX0_sixOf 16 = .ok (.iload_n 0, 1) := by decide +kernel
theorem dX0_sixOf_17 : decode cX0_sixOf 17 = .ok (.bipush 28, 2) := by decide +kernel
theorem dX0_sixOf_19 : decode cX0_sixOf 19 = .ok (.if_icmp .ne 15, 3) := by decide +kernel
theorem dX0_sixOf_22 : decode cX0_sixOf 22 = .ok (.iload_n 2, 1) := by decide +kernel
theorem dX0_sixOf_23 : decode cX0_sixOf 23 = .ok (.ifCond .ge 8, 3) := by decide +kernel
theorem dX0_sixOf_26 : decode cX0_sixOf 26 = .ok (.bipush 15, 2) := by decide +kernel
theorem dX0_sixOf_28 : decode cX0_sixOf 28 = .ok (.goto 5, 3) := by decide +kernel
theorem dX0_sixOf_31 : decode cX0_sixOf 31 = .ok (.bipush 48, 2) := by decide +kernel
theorem dX0_sixOf_33 : decode cX0_sixOf 33 = .ok (.ireturn, 1) := by decide +kernel
theorem dX0_sixOf_34 : decode cX0_sixOf 34 = .ok (.iload_n 2, 1) := by decide +kernel
theorem dX0_sixOf_35 : decode cX0_sixOf 35 = .ok (.ifCond .ge 11, 3) := by decide +kernel
theorem dX0_sixOf_38 : decode cX0_sixOf 38 = .ok (.getstatic 27, 3) := by decide +kernel
theorem dX0_sixOf_41 : decode cX0_sixOf 41 = .ok (.iload_n 0, 1) := by decide +kernel
theorem dX0_sixOf_42 : decode cX0_sixOf 42 = .ok (.iaload, 1) := by decide +kernel
theorem dX0_sixOf_43 : decode cX0_sixOf 43 = .ok (.goto 8, 3) := by decide +kernel
theorem dX0_sixOf_46 : decode cX0_sixOf 46 = .ok (.getstatic 31, 3) := by decide +kernel
theorem dX0_sixOf_49 : decode cX0_sixOf 49 = .ok (.iload_n 0, 1) := by decide +kernel
theorem dX0_sixOf_50 : decode cX0_sixOf 50 = .ok (.iaload, 1) := by decide +kernel
theorem dX0_sixOf_51 : decode cX0_sixOf 51 = .ok (.ireturn, 1) := by decide +kernel
theorem dX0_fourOf_0 : decode cX0_fourOf 0 = .ok (.iload_n 1, 1) := by decide +kernel
theorem dX0_fourOf_1 : decode cX0_fourOf 1 = .ok (.ifCond .lt 9, 3) := by decide +kernel
theorem dX0_fourOf_4 : decode cX0_fourOf 4 = .ok (.iload_n 1, 1) := by decide +kernel
theorem dX0_fourOf_5 : decode cX0_fourOf 5 = .ok (.bipush 7, 2) := by decide +kernel
theorem dX0_fourOf_7 : decode cX0_fourOf 7 = .ok (.if_icmp .le 5, 3) := by decide +kernel
theorem dX0_fourOf_10 : decode cX0_fourOf 10 = .ok (.iconst (-1), 1) := by decide +kernel
theorem dX0_fourOf_11 : decode cX0_fourOf 11 = .ok (.ireturn, 1) := by decide +kernel
theorem dX0_fourOf_12 : decode cX0_fourOf 12 = .ok (.iload_n 2, 1) := by decide +kernel
theorem dX0_fourOf_13 : decode cX0_fourOf 13 = .ok (.ifCond .eq 21, 3) := by decide +kernel
theorem dX0_fourOf_16 : decode cX0_fourOf 16 = .ok (.iload_n 3, 1) := by decide +kernel
theorem dX0_fourOf_17 : decode cX0_fourOf 17 = .ok (.ifCond .ge 11, 3) := by decide +kernel
theorem dX0_fourOf_20 : decode cX0_fourOf 20 = .ok (.getstatic 34, 3) := by decide +kernel
theorem dX0_fourOf_23 : decode cX0_fourOf 23 = .ok (.iload_n 1, 1) := by decide +kernel
theorem dX0_fourOf_24 : decode cX0_fourOf 24 = .ok (.iaload, 1) := by decide +kernel
theorem dX0_fourOf_25 : decode cX0_fourOf 25 = .ok (.goto 8, 3) := by decide +kernel
theorem dX0_fourOf_28 : decode cX0_fourOf 28 = .ok (.getstatic 37, 3) := by decide +kernel
theorem dX0_fourOf_31 : decode cX0_fourOf 31 = .ok (.iload_n 1, 1) := by decide +kernel
theorem dX0_fourOf_32 : decode cX0_fourOf 32 = .ok (.iaload, 1) := by decide +kernel
theorem dX0_fourOf_33 : decode cX0_fourOf 33 = .ok (.ireturn, 1) := by decide +kernel
theorem dX0_fourOf_34 : decode cX0_fourOf 34 = .ok (.iload_n 1, 1) := by decide +kernel
theorem dX0_fourOf_35 : decode cX0_fourOf 35 = .ok (.bipush 7, 2) := by decide +kernel
theorem dX0_fourOf_37 : decode cX0_fourOf 37 = .ok (.if_icmp .ne 28, 3) := by decide +kernel
theorem dX0_fourOf_40 : decode cX0_fourOf 40 = .ok (.iload_n 3, 1) := by decide +kernel
theorem dX0_fourOf_41 : decode cX0_fourOf 41 = .ok (.ifCond .ge 24, 3) := by decide +kernel
theorem dX0_fourOf_44 : decode cX0_fourOf 44 = .ok (.iload_n 0, 1) := by decide +kernel
theorem dX0_fourOf_45 : decode cX0_fourOf 45 = .ok (.bipush 17, 2) := by decide +kernel
theorem dX0_fourOf_47 : decode cX0_fourOf 47 = .ok (.if_icmp .eq 15, 3) := by decide +kernel
theorem dX0_fourOf_50 : decode cX0_fourOf 50 = .ok (.iload_n 0, 1) := by decide +kernel
theorem dX0_fourOf_51 : decode cX0_fourOf 51 = .ok (.bipush 18, 2) := by decide +kernel
theorem dX0_fourOf_53 : decode cX0_fourOf 53 = .ok (.if_icmp .eq 9, 3) := by decide +kernel
theorem dX0_fourOf_56 : decode cX0_fourOf 56 = .ok (.iload_n 0, 1) := by decide +kernel
theorem dX0_fourOf_57 : decode cX0_fourOf 57 = .ok (.bipush 20, 2) := by decide +kernel
theorem dX0_fourOf_59 : decode cX0_fourOf 59 = .ok (.if_icmp .ne 6, 3) := by decide +kernel
theorem dX0_fourOf_62 : decode cX0_fourOf 62 = .ok (.bipush 7, 2) := by decide +kernel
theorem dX0_fourOf_64 : decode cX0_fourOf 64 = .ok (.ireturn, 1) := by decide +kernel
theorem dX0_fourOf_65 : decode cX0_fourOf 65 = .ok (.iload_n 1, 1) := by decide +kernel
theorem dX0_fourOf_66 : decode cX0_fourOf 66 = .ok (.bipush 7, 2) := by decide +kernel
theorem dX0_fourOf_68 : decode cX0_fourOf 68 = .ok (.if_icmp .ne 28, 3) := by decide +kernel
theorem dX0_fourOf_71 : decode cX0_fourOf 71 = .ok (.iload_n 3, 1) := by decide +kernel
theorem dX0_fourOf_72 : decode cX0_fourOf 72 = .ok (.ifCond .le 24, 3) := by decide +kernel
theorem dX0_fourOf_75 : decode cX0_fourOf 75 = .ok (.iload_n 0, 1) := by decide +kernel
theorem dX0_fourOf_76 : decode cX0_fourOf 76 = .ok (.bipush 11, 2) := by decide +kernel
theorem dX0_fourOf_78 : decode cX0_fourOf 78 = .ok (.if_icmp .eq 15, 3) := by decide +kernel
theorem dX0_fourOf_81 : decode cX0_fourOf 81 = .ok (.iload_n 0, 1) := by decide +kernel
theorem dX0_fourOf_82 : decode cX0_fourOf 82 = .ok (.bipush 13, 2) := by decide +kernel
theorem dX0_fourOf_84 : decode cX0_fourOf 84 = .ok (.if_icmp .eq 9, 3) := by decide +kernel
theorem dX0_fourOf_87 : decode cX0_fourOf 87 = .ok (.iload_n 0, 1) := by decide +kernel
theorem dX0_fourOf_88 : decode cX0_fourOf 88 = .ok (.bipush 14, 2) := by decide +kernel
theorem dX0_fourOf_90 : decode cX0_fourOf 90 = .ok (.if_icmp .ne 6, 3) := by decide +kernel
theorem dX0_fourOf_93 : decode cX0_fourOf 93 = .ok (.bipush 8, 2) := by decide +kernel
theorem dX0_fourOf_95 : decode cX0_fourOf 95 = .ok (.ireturn, 1) := by decide +kernel
theorem dX0_fourOf_96 : decode cX0_fourOf 96 = .ok (.iload_n 3, 1) := by decide +kernel
theorem dX0_fourOf_97 : decode cX0_fourOf 97 = .ok (.ifCond .ge 11, 3) := by decide +kernel
theorem dX0_fourOf_100 : decode cX0_fourOf 100 = .ok (.getstatic 40, 3) := by decide +kernel
theorem dX0_fourOf_103 : decode cX0_fourOf 103 = .ok (.iload_n 1, 1) := by decide +kernel
theorem dX0_fourOf_104 : decode cX0_fourOf 104 = .ok (.iaload, 1) := by decide +kernel
theorem dX0_fourOf_105 : decode cX0_fourOf 105 = .ok (.goto 8, 3) := by decide +kernel
theorem dX0_fourOf_108 : decode cX0_fourOf 108 = .ok (.getstatic 43, 3) := by decide +kernel
theorem dX0_fourOf_111 : decode cX0_fourOf 111 = .ok (.iload_n 1, 1) := by decide +kernel
theorem dX0_fourOf_112 : decode cX0_fourOf 112 = .ok (.iaload, 1) := by decide +kernel
theorem dX0_fourOf_113 : decode cX0_fourOf 113 = .ok (.ireturn, 1) := by decide +kernel
set_option maxRecDepth 20000 in
theorem ggX0_behindSix_J6_bitCount_0f7a4 : GoodIn wsX0_behindSix wsJ6_bitCount_0f7a4 := goodIn_r _ [4, 5, 6, 7] (by decide +kernel) (by decide +kernel)
set_option maxRecDepth 20000 in
theorem gX0_behindSix_J6_bitCount_0f7a4 : GoodIn wsX0_behindSix (va_wsS RX0 46 yJ6_bitCount_0f7a4 wsJ6_bitCount_0f7a4) := goodIn_app (goodIn_of _ (by decide +kernel)) ggX0_behindSix_J6_bitCount_0f7a4
theorem dX0_behindSix_0 : decode cX0_behindSix 0 = .ok (.iload_n 0, 1) := by decide +kernel
theorem dX0_behindSix_1 : decode cX0_behindSix 1 = .ok (.invokestatic 46, 3) := by decide +kernel
theorem dX0_behindSix_4 : decode cX0_behindSix 4 = .ok (.istore_n 2, 1) := by decide +kernel
theorem dX0_behindSix_5 : decode cX0_behindSix 5 = .ok (.iload_n 2, 1) := by decide +kernel
theorem dX0_behindSix_6 : decode cX0_behindSix 6 = .ok (.iconst 3, 1) := by decide +kernel
theorem dX0_behindSix_7 : decode cX0_behindSix 7 = .ok (.if_icmp .gt 9, 3) := by decide +kernel
theorem dX0_behindSix_10 : decode cX0_behindSix 10 = .ok (.iload_n 0, 1) := by decide +kernel
theorem dX0_behindSix_11 : decode cX0_behindSix 11 = .ok (.bipush 7, 2) := by decide +kernel
theorem dX0_behindSix_13 : decode cX0_behindSix 13 = .ok (.if_icmp .ne 5, 3) := by decide +kernel
theorem dX0_behindSix_16 : decode cX0_behindSix 16 = .ok (.iconst 1, 1) := by decide +kernel
theorem dX0_behindSix_17 : decode cX0_behindSix 17 = .ok (.ireturn, 1) := by decide +kernel
theorem dX0_behindSix_18 : decode cX0_behindSix 18 = .ok (.iload_n 2, 1) := by decide +kernel
theorem dX0_behindSix_19 : decode cX0_behindSix 19 = .ok (.iconst 3, 1) := by decide +kernel
theorem dX0_behindSix_20 : decode cX0_behindSix 20 = .ok (.if_icmp .lt 9, 3) := by decide +kernel
theorem dX0_behindSix_23 : decode cX0_behindSix 23 = .ok (.iload_n 0, 1) := by decide +kernel
theorem dX0_behindSix_24 : decode cX0_behindSix 24 = .ok (.bipush 56, 2) := by decide +kernel
theorem dX0_behindSix_26 : decode cX0_behindSix 26 = .ok (.if_icmp .ne 5, 3) := by decide +kernel
theorem dX0_behindSix_29 : decode cX0_behindSix 29 = .ok (.iconst (-1), 1) := by decide +kernel
theorem dX0_behindSix_30 : decode cX0_behindSix 30 = .ok (.ireturn, 1) := by decide +kernel
theorem dX0_behindSix_31 : decode cX0_behindSix 31 = .ok (.iload_n 1, 1) := by decide +kernel
theorem dX0_behindSix_32 : decode cX0_behindSix 32 = .ok (.ireturn, 1) := by decide +kernel
set_option maxRecDepth 20000 in
theorem ggX0_behindFour_J6_bitCount_0f7a4 : GoodIn wsX0_behindFour wsJ6_bitCount_0f7a4 := goodIn_r _ [4, 5, 6, 7] (by decide +kernel) (by decide +kernel)
set_option maxRecDepth 20000 in
theorem gX0_behindFour_J6_bitCount_0f7a4 : GoodIn wsX0_behindFour (va_wsS RX0 46 yJ6_bitCount_0f7a4 wsJ6_bitCount_0f7a4) := goodIn_app (goodIn_of _ (by decide +kernel)) ggX0_behindFour_J6_bitCount_0f7a4
theorem dX0_behindFour_0 : decode cX0_behindFour 0 = .ok (.iload_n 0, 1) := by decide +kernel
theorem dX0_behindFour_1 : decode cX0_behindFour 1 = .ok (.invokestatic 46, 3) := by decide +kernel
theorem dX0_behindFour_4 : decode cX0_behindFour 4 = .ok (.istore_n 2, 1) := by decide +kernel
theorem dX0_behindFour_5 : decode cX0_behindFour 5 = .ok (.iload_n 2, 1) := by decide +kernel
theorem dX0_behindFour_6 : decode cX0_behindFour 6 = .ok (.iconst 2, 1) := by decide +kernel
theorem dX0_behindFour_7 : decode cX0_behindFour 7 = .ok (.if_icmp .gt 8, 3) := by decide +kernel
theorem dX0_behindFour_10 : decode cX0_behindFour 10 = .ok (.iload_n 0, 1) := by decide +kernel
theorem dX0_behindFour_11 : decode cX0_behindFour 11 = .ok (.iconst 3, 1) := by decide +kernel
theorem dX0_behindFour_12 : decode cX0_behindFour 12 = .ok (.if_icmp .ne 5, 3) := by decide +kernel
theorem dX0_behindFour_15 : decode cX0_behindFour 15 = .ok (.iconst 1, 1) := by decide +kernel
theorem dX0_behindFour_16 : decode cX0_behindFour 16 = .ok (.ireturn, 1) := by decide +kernel
theorem dX0_behindFour_17 : decode cX0_behindFour 17 = .ok (.iload_n 2, 1) := by decide +kernel
theorem dX0_behindFour_18 : decode cX0_behindFour 18 = .ok (.iconst 2, 1) := by decide +kernel
theorem dX0_behindFour_19 : decode cX0_behindFour 19 = .ok (.if_icmp .lt 9, 3) := by decide +kernel
theorem dX0_behindFour_22 : decode cX0_behindFour 22 = .ok (.iload_n 0, 1) := by decide +kernel
theorem dX0_behindFour_23 : decode cX0_behindFour 23 = .ok (.bipush 12, 2) := by decide +kernel
theorem dX0_behindFour_25 : decode cX0_behindFour 25 = .ok (.if_icmp .ne 5, 3) := by decide +kernel
theorem dX0_behindFour_28 : decode cX0_behindFour 28 = .ok (.iconst (-1), 1) := by decide +kernel
theorem dX0_behindFour_29 : decode cX0_behindFour 29 = .ok (.ireturn, 1) := by decide +kernel
theorem dX0_behindFour_30 : decode cX0_behindFour 30 = .ok (.iload_n 1, 1) := by decide +kernel
theorem dX0_behindFour_31 : decode cX0_behindFour 31 = .ok (.ireturn, 1) := by decide +kernel
set_option maxRecDepth 20000 in
theorem ggX0_behindGroup_X0_behindSix : GoodIn wsX0_behindGroup wsX0_behindSix := goodIn_r _ [4, 5, 6, 7, 8, 9, 10, 11] (by decide +kernel) (by decide +kernel)
set_option maxRecDepth 20000 in
theorem gX0_behindGroup_X0_behindSix : GoodIn wsX0_behindGroup (va_wsS RX0 19 yX0_behindSix wsX0_behindSix) := goodIn_app (goodIn_of _ (by decide +kernel)) ggX0_behindGroup_X0_behindSix
set_option maxRecDepth 20000 in
theorem ggX0_behindGroup_X0_behindFour : GoodIn wsX0_behindGroup wsX0_behindFour := goodIn_r _ [14, 5, 6, 7, 8, 9, 10, 11] (by decide +kernel) (by decide +kernel)
set_option maxRecDepth 20000 in
theorem gX0_behindGroup_X0_behindFour : GoodIn wsX0_behindGroup (va_wsS RX0 52 yX0_behindFour wsX0_behindFour) := goodIn_app (goodIn_of _ (by decide +kernel)) ggX0_behindGroup_X0_behindFour
theorem dX0_behindGroup_0 : decode cX0_behindGroup 0 = .ok (.iload_n 0, 1) := by decide +kernel
theorem dX0_behindGroup_1 : decode cX0_behindGroup 1 = .ok (.bipush 15, 2) := by decide +kernel
theorem dX0_behindGroup_3 : decode cX0_behindGroup 3 = .ok (.iand, 1) := by decide +kernel
theorem dX0_behindGroup_4 : decode cX0_behindGroup 4 = .ok (.iload_n 0, 1) := by decide +kernel
theorem dX0_behindGroup_5 : decode cX0_behindGroup 5 = .ok (.iconst 4, 1) := by decide +kernel
theorem dX0_behindGroup_6 : decode cX0_behindGroup 6 = .ok (.ishr, 1) := by decide +kernel
theorem dX0_behindGroup_7 : decode cX0_behindGroup 7 = .ok (.iload_n 1, 1) := by decide +kernel
theorem dX0_behindGroup_8 : decode cX0_behindGroup 8 = .ok (.invokestatic 19, 3) := by decide +kernel
theorem dX0_behindGroup_11 : decode cX0_behindGroup 11 = .ok (.invokestatic 52, 3) := by decide +kernel
theorem dX0_behindGroup_14 : decode cX0_behindGroup 14 = .ok (.ireturn, 1) := by decide +kernel
theorem dX0_isComma_0 : decode cX0_isComma 0 = .ok (.iload_n 0, 1) := by decide +kernel
theorem dX0_isComma_1 : decode cX0_isComma 1 = .ok (.iconst 3, 1) := by decide +kernel
theorem dX0_isComma_2 : decode cX0_isComma 2 = .ok (.ishr, 1) := by decide +kernel
theorem dX0_isComma_3 : decode cX0_isComma 3 = .ok (.istore_n 1, 1) := by decide +kernel
theorem dX0_isComma_4 : decode cX0_isComma 4 = .ok (.iload_n 1, 1) := by decide +kernel
theorem dX0_isComma_5 : decode cX0_isComma 5 = .ok (.bipush 31, 2) := by decide +kernel
theorem dX0_isComma_7 : decode cX0_isComma 7 = .ok (.if_icmp .eq 9, 3) := by decide +kernel
theorem dX0_isComma_10 : decode cX0_isComma 10 = .ok (.iload_n 1, 1) := by decide +kernel
theorem dX0_isComma_11 : decode cX0_isComma 11 = .ok (.bipush 96, 2) := by decide +kernel
theorem dX0_isComma_13 : decode cX0_isComma 13 = .ok (.if_icmp .ne 7, 3) := by decide +kernel
theorem dX0_isComma_16 : decode cX0_isComma 16 = .ok (.iconst 1, 1) := by decide +kernel
theorem dX0_isComma_17 : decode cX0_isComma 17 = .ok (.goto 4, 3) := by decide +kernel
theorem dX0_isComma_20 : decode cX0_isComma 20 = .ok (.iconst 0, 1) := by decide +kernel
theorem dX0_isComma_21 : decode cX0_isComma 21 = .ok (.ireturn, 1) := by decide +kernel
theorem dX0_leanBeforeComma_0 : decode cX0_leanBeforeComma 0 = .ok (.iload_n 0, 1) := by decide +kernel
theorem dX0_leanBeforeComma_1 : decode cX0_leanBeforeComma 1 = .ok (.iconst 3, 1) := by decide +kernel
theorem dX0_leanBeforeComma_2 : decode cX0_leanBeforeComma 2 = .ok (.ishr, 1) := by decide +kernel
theorem dX0_leanBeforeComma_3 : decode cX0_leanBeforeComma 3 = .ok (.bipush 31, 2) := by decide +kernel
theorem dX0_leanBeforeComma_5 : decode cX0_leanBeforeComma 5 = .ok (.if_icmp .ne 7, 3) := by decide +kernel
theorem dX0_leanBeforeComma_8 : decode cX0_leanBeforeComma 8 = .ok (.iconst (-1), 1) := by decide +kernel
theorem dX0_leanBeforeComma_9 : decode cX0_leanBeforeComma 9 = .ok (.goto 4, 3) := by decide +kernel
theorem dX0_leanBeforeComma_12 : decode cX0_leanBeforeComma 12 = .ok (.iconst 1, 1) := by decide +kernel
theorem dX0_leanBeforeComma_13 : decode cX0_leanBeforeComma 13 = .ok (.ireturn, 1) := by decide +kernel
set_option maxRecDepth 20000 in
theorem ggX0_symbolOf_X0_byteOfGroup : GoodIn wsX0_symbolOf wsX0_byteOfGroup := goodIn_r _ [4, 5, 6, 3, 7, 8, 9, 10, 11, 12, 13, 14, 15, 16, 17, 18, 19, 20, 21, 22, 23, 24, 25, 26, 27, 28, 29, 30, 31, 32] (by decide +kernel) (by decide +kernel)
set_option maxRecDepth 20000 in
theorem gX0_symbolOf_X0_byteOfGroup : GoodIn wsX0_symbolOf (va_wsS RX0 55 yX0_byteOfGroup wsX0_byteOfGroup) := goodIn_app (goodIn_of _ (by decide +kernel)) ggX0_symbolOf_X0_byteOfGroup
theorem dX0_symbolOf_0 : decode cX0_symbolOf 0 = .ok (.iload_n 0, 1) := by decide +kernel
theorem dX0_symbolOf_1 : decode cX0_symbolOf 1 = .ok (.ifCond .lt 20, 3) := by decide +kernel
theorem dX0_symbolOf_4 : decode cX0_symbolOf 4 = .ok (.iload_n 0, 1) := by decide +kernel
theorem dX0_symbolOf_5 : decode cX0_symbolOf 5 = .ok (.sipush 1023, 3) := by decide +kernel
theorem dX0_symbolOf_8 : decode cX0_symbolOf 8 = .ok (.if_icmp .gt 13, 3) := by decide +kernel
theorem dX0_symbolOf_11 : decode cX0_symbolOf 11 = .ok (.iload_n 1, 1) := by decide +kernel
theorem dX0_symbolOf_12 : decode cX0_symbolOf 12 = .ok (.iconst (-1), 1) := by decide +kernel
theorem dX0_symbolOf_13 : decode cX0_symbolOf 13 = .ok (.if_icmp .eq 10, 3) := by decide +kernel
theorem dX0_symbolOf_16 : decode cX0_symbolOf 16 = .ok (.iload_n 1, 1) := by decide +kernel
theorem dX0_symbolOf_17 : decode cX0_symbolOf 17 = .ok (.iconst 1, 1) := by decide +kernel
theorem dX0_symbolOf_18 : decode cX0_symbolOf 18 = .ok (.if_icmp .eq 5, 3) := by decide +kernel
theorem dX0_symbolOf_21 : decode cX0_symbolOf 21 = .ok (.iconst (-1), 1) := by decide +kernel
theorem dX0_symbolOf_22 : decode cX0_symbolOf 22 = .ok (.ireturn, 1) := by decide +kernel
theorem dX0_symbolOf_23 : decode cX0_symbolOf 23 = .ok (.iload_n 0, 1) := by decide +kernel
theorem dX0_symbolOf_24 : decode cX0_symbolOf 24 = .ok (.iconst 0, 1) := by decide +kernel
theorem dX0_symbolOf_25 : decode cX0_symbolOf 25 = .ok (.iload_n 1, 1) := by decide +kernel
theorem dX0_symbolOf_26 : decode cX0_symbolOf 26 = .ok (.invokestatic 55, 3) := by decide +kernel
theorem dX0_symbolOf_29 : decode cX0_symbolOf 29 = .ok (.istore_n 2, 1) := by decide +kernel
theorem dX0_symbolOf_30 : decode cX0_symbolOf 30 = .ok (.iload_n 2, 1) := by decide +kernel
theorem dX0_symbolOf_31 : decode cX0_symbolOf 31 = .ok (.iconst (-1), 1) := by decide +kernel
theorem dX0_symbolOf_32 : decode cX0_symbolOf 32 = .ok (.if_icmp .eq 5, 3) := by decide +kernel
theorem dX0_symbolOf_35 : decode cX0_symbolOf 35 = .ok (.iload_n 2, 1) := by decide +kernel
theorem dX0_symbolOf_36 : decode cX0_symbolOf 36 = .ok (.ireturn, 1) := by decide +kernel
theorem dX0_symbolOf_37 : decode cX0_symbolOf 37 = .ok (.iload_n 0, 1) := by decide +kernel
theorem dX0_symbolOf_38 : decode cX0_symbolOf 38 = .ok (.iconst 1, 1) := by decide +kernel
theorem dX0_symbolOf_39 : decode cX0_symbolOf 39 = .ok (.iload_n 1, 1) := by decide +kernel
theorem dX0_symbolOf_40 : decode cX0_symbolOf 40 = .ok (.invokestatic 55, 3) := by decide +kernel
theorem dX0_symbolOf_43 : decode cX0_symbolOf 43 = .ok (.istore_n 3, 1) := by decide +kernel
theorem dX0_symbolOf_44 : decode cX0_symbolOf 44 = .ok (.iload_n 3, 1) := by decide +kernel
theorem dX0_symbolOf_45 : decode cX0_symbolOf 45 = .ok (.iconst (-1), 1) := by decide +kernel
theorem dX0_symbolOf_46 : decode cX0_symbolOf 46 = .ok (.if_icmp .ne 7, 3) := by decide +kernel
theorem dX0_symbolOf_49 : decode cX0_symbolOf 49 = .ok (.iconst (-1), 1) := by decide +kernel
theorem dX0_symbolOf_50 : decode cX0_symbolOf 50 = .ok (.goto 8, 3) := by decide +kernel
theorem dX0_symbolOf_53 : decode cX0_symbolOf 53 = .ok (.iload_n 3, 1) := by decide +kernel
theorem dX0_symbolOf_54 : decode cX0_symbolOf 54 = .ok (.sipush 256, 3) := by decide +kernel
theorem dX0_symbolOf_57 : decode cX0_symbolOf 57 = .ok (.iadd, 1) := by decide +kernel
theorem dX0_symbolOf_58 : decode cX0_symbolOf 58 = .ok (.ireturn, 1) := by decide +kernel
set_option maxRecDepth 20000 in
theorem ggX0_byteOfGroup_X0_sixOf : GoodIn wsX0_byteOfGroup wsX0_sixOf := goodIn_r _ [4, 5, 6] (by decide +kernel) (by decide +kernel)
set_option maxRecDepth 20000 in
theorem gX0_byteOfGroup_X0_sixOf : GoodIn wsX0_byteOfGroup (va_wsS RX0 15 yX0_sixOf wsX0_sixOf) := goodIn_app (goodIn_of _ (by decide +kernel)) ggX0_byteOfGroup_X0_sixOf
set_option maxRecDepth 20000 in
theorem ggX0_byteOfGroup_X0_behindSix : GoodIn wsX0_byteOfGroup wsX0_behindSix := goodIn_r _ [9, 10, 11, 12, 13, 14, 15, 16] (by decide +kernel) (by decide +kernel)
set_option maxRecDepth 20000 in
theorem gX0_byteOfGroup_X0_behindSix : GoodIn wsX0_byteOfGroup (va_wsS RX0 19 yX0_behindSix wsX0_behindSix) := goodIn_app (goodIn_of _ (by decide +kernel)) ggX0_byteOfGroup_X0_behindSix
set_option maxRecDepth 20000 in
theorem ggX0_byteOfGroup_X0_highPart : GoodIn wsX0_byteOfGroup wsX0_highPart := goodIn_r _ [19, 20, 21, 3, 22, 23, 24, 25, 26, 27, 28, 29] (by decide +kernel) (by decide +kernel)
set_option maxRecDepth 20000 in
theorem gX0_byteOfGroup_X0_highPart : GoodIn wsX0_byteOfGroup (va_wsS RX0 58 yX0_highPart wsX0_highPart) := goodIn_app (goodIn_of _ (by decide +kernel)) ggX0_byteOfGroup_X0_highPart
theorem dX0_byteOfGroup_0 : decode cX0_byteOfGroup 0 = .ok (.iload_n 0, 1) := by decide +kernel
theorem dX0_byteOfGroup_1 : decode cX0_byteOfGroup 1 = .ok (.iconst 4, 1) := by decide +kernel
theorem dX0_byteOfGroup_2 : decode cX0_byteOfGroup 2 = .ok (.ishr, 1) := by decide +kernel
theorem dX0_byteOfGroup_3 : decode cX0_byteOfGroup 3 = .ok (.istore_n 3, 1) := by decide +kernel
theorem dX0_byteOfGroup_4 : decode cX0_byteOfGroup 4 = .ok (.iconst 0, 1) := by decide +kernel
theorem dX0_byteOfGroup_5 : decode cX0_byteOfGroup 5 = .ok (.istore 4, 2) := by decide +kernel
theorem dX0_byteOfGroup_7 : decode cX0_byteOfGroup 7 = .ok (.iload 4, 2) := by decide +kernel
theorem dX0_byteOfGroup_9 : decode cX0_byteOfGroup 9 = .ok (.bipush 32, 2) := by decide +kernel
theorem dX0_byteOfGroup_11 : decode cX0_byteOfGroup 11 = .ok (.if_icmp .ge 52, 3) := by decide +kernel
theorem dX0_byteOfGroup_14 : decode cX0_byteOfGroup 14 = .ok (.iload 4, 2) := by decide +kernel
theorem dX0_byteOfGroup_16 : decode cX0_byteOfGroup 16 = .ok (.iload_n 1, 1) := by decide +kernel
theorem dX0_byteOfGroup_17 : decode cX0_byteOfGroup 17 = .ok (.iload_n 2, 1) := by decide +kernel
theorem dX0_byteOfGroup_18 : decode cX0_byteOfGroup 18 = .ok (.invokestatic 15, 3) := by decide +kernel
theorem dX0_byteOfGroup_21 : decode cX0_byteOfGroup 21 = .ok (.iload_n 3, 1) := by decide +kernel
theorem dX0_byteOfGroup_22 : decode cX0_byteOfGroup 22 = .ok (.if_icmp .ne 35, 3) := by decide +kernel
theorem dX0_byteOfGroup_25 : decode cX0_byteOfGroup 25 = .ok (.iload_n 0, 1) := by decide +kernel
theorem dX0_byteOfGroup_26 : decode cX0_byteOfGroup 26 = .ok (.bipush 15, 2) := by decide +kernel
theorem dX0_byteOfGroup_28 : decode cX0_byteOfGroup 28 = .ok (.iand, 1) := by decide +kernel
theorem dX0_byteOfGroup_29 : decode cX0_byteOfGroup 29 = .ok (.iload 4, 2) := by decide +kernel
theorem dX0_byteOfGroup_31 : decode cX0_byteOfGroup 31 = .ok (.iload_n 1, 1) := by decide +kernel
theorem dX0_byteOfGroup_32 : decode cX0_byteOfGroup 32 = .ok (.iload_n 3, 1) := by decide +kernel
theorem dX0_byteOfGroup_33 : decode cX0_byteOfGroup 33 = .ok (.iload_n 2, 1) := by decide +kernel
theorem dX0_byteOfGroup_34 : decode cX0_byteOfGroup 34 = .ok (.invokestatic 19, 3) := by decide +kernel
theorem dX0_byteOfGroup_37 : decode cX0_byteOfGroup 37 = .ok (.invokestatic 58, 3) := by decide +kernel
theorem dX0_byteOfGroup_40 : decode cX0_byteOfGroup 40 = .ok (.istore 5, 2) := by decide +kernel
theorem dX0_byteOfGroup_42 : decode cX0_byteOfGroup 42 = .ok (.iload 5, 2) := by decide +kernel
theorem dX0_byteOfGroup_44 : decode cX0_byteOfGroup 44 = .ok (.iconst (-1), 1) := by decide +kernel
theorem dX0_byteOfGroup_45 : decode cX0_byteOfGroup 45 = .ok (.if_icmp .eq 12, 3) := by decide +kernel
theorem dX0_byteOfGroup_48 : decode cX0_byteOfGroup 48 = .ok (.iload 5, 2) := by decide +kernel
theorem dX0_byteOfGroup_50 : decode cX0_byteOfGroup 50 = .ok (.bipush 32, 2) := by decide +kernel
theorem dX0_byteOfGroup_52 : decode cX0_byteOfGroup 52 = .ok (.imul, 1) := by decide +kernel
theorem dX0_byteOfGroup_53 : decode cX0_byteOfGroup 53 = .ok (.iload 4, 2) := by decide +kernel
theorem dX0_byteOfGroup_55 : decode cX0_byteOfGroup 55 = .ok (.iadd, 1) := by decide +kernel
theorem dX0_byteOfGroup_56 : decode cX0_byteOfGroup 56 = .ok (.ireturn, 1) := by decide +kernel
theorem dX0_byteOfGroup_57 : decode cX0_byteOfGroup 57 = .ok (.iinc 4 1, 3) := by decide +kernel
theorem dX0_byteOfGroup_60 : decode cX0_byteOfGroup 60 = .ok (.goto (-53), 3) := by decide +kernel
theorem dX0_byteOfGroup_63 : decode cX0_byteOfGroup 63 = .ok (.iconst (-1), 1) := by decide +kernel
theorem dX0_byteOfGroup_64 : decode cX0_byteOfGroup 64 = .ok (.ireturn, 1) := by decide +kernel
set_option maxRecDepth 20000 in
theorem ggX0_highPart_X0_fourOf : GoodIn wsX0_highPart wsX0_fourOf := goodIn_r _ [4, 5, 6, 7, 8] (by decide +kernel) (by decide +kernel)
set_option maxRecDepth 20000 in
theorem gX0_highPart_X0_fourOf : GoodIn wsX0_highPart (va_wsS RX0 23 yX0_fourOf wsX0_fourOf) := goodIn_app (goodIn_of _ (by decide +kernel)) ggX0_highPart_X0_fourOf
set_option maxRecDepth 20000 in
theorem ggX0_highPart_X0_isSign : GoodIn wsX0_highPart wsX0_isSign := goodIn_r _ [11] (by decide +kernel) (by decide +kernel)
set_option maxRecDepth 20000 in
theorem gX0_highPart_X0_isSign : GoodIn wsX0_highPart (va_wsS RX0 9 yX0_isSign wsX0_isSign) := goodIn_app (goodIn_of _ (by decide +kernel)) ggX0_highPart_X0_isSign
theorem dX0_highPart_0 : decode cX0_highPart 0 = .ok (.iconst 0, 1) := by decide +kernel
theorem dX0_highPart_1 : decode cX0_highPart 1 = .ok (.istore 4, 2) := by decide +kernel
theorem dX0_highPart_3 : decode cX0_highPart 3 = .ok (.iload 4, 2) := by decide +kernel
theorem dX0_highPart_5 : decode cX0_highPart 5 = .ok (.bipush 8, 2) := by decide +kernel
theorem dX0_highPart_7 : decode cX0_highPart 7 = .ok (.if_icmp .ge 37, 3) := by decide +kernel
theorem dX0_highPart_10 : decode cX0_highPart 10 = .ok (.iload_n 1, 1) := by decide +kernel
theorem dX0_highPart_11 : decode cX0_highPart 11 = .ok (.iload 4, 2) := by decide +kernel
theorem dX0_highPart_13 : decode cX0_highPart 13 = .ok (.iload_n 2, 1) := by decide +kernel
theorem dX0_highPart_14 : decode cX0_highPart 14 = .ok (.iload_n 3, 1) := by decide +kernel
theorem dX0_highPart_15 : decode cX0_highPart 15 = .ok (.invokestatic 23, 3) := by decide +kernel
theorem dX0_highPart_18 : decode cX0_highPart 18 = .ok (.iload_n 0, 1) := by decide +kernel
theorem dX0_highPart_19 : decode cX0_highPart 19 = .ok (.if_icmp .ne 19, 3) := by decide +kernel
theorem dX0_highPart_22 : decode cX0_highPart 22 = .ok (.iload_n 2, 1) := by decide +kernel
theorem dX0_highPart_23 : decode cX0_highPart 23 = .ok (.ifCond .eq 12, 3) := by decide +kernel
theorem dX0_highPart_26 : decode cX0_highPart 26 = .ok (.iload_n 1, 1) := by decide +kernel
theorem dX0_highPart_27 : decode cX0_highPart 27 = .ok (.iload 4, 2) := by decide +kernel
theorem dX0_highPart_29 : decode cX0_highPart 29 = .ok (.invokestatic 9, 3) := by decide +kernel
theorem dX0_highPart_32 : decode cX0_highPart 32 = .ok (.ifCond .eq 6, 3) := by decide +kernel
theorem dX0_highPart_35 : decode cX0_highPart 35 = .ok (.iload 4, 2) := by decide +kernel
theorem dX0_highPart_37 : decode cX0_highPart 37 = .ok (.ireturn, 1) := by decide +kernel
theorem dX0_highPart_38 : decode cX0_highPart 38 = .ok (.iinc 4 1, 3) := by decide +kernel
theorem dX0_highPart_41 : decode cX0_highPart 41 = .ok (.goto (-38), 3) := by decide +kernel
theorem dX0_highPart_44 : decode cX0_highPart 44 = .ok (.iconst (-1), 1) := by decide +kernel
theorem dX0_highPart_45 : decode cX0_highPart 45 = .ok (.ireturn, 1) := by decide +kernel
theorem dX1_init_0 : decode cX1_init 0 = .ok (.aload_n 0, 1) := by decide +kernel
theorem dX1_init_1 : decode cX1_init 1 = .ok (.invokespecial 5, 3) := by decide +kernel
theorem dX1_init_4 : decode cX1_init 4 = .ok (.aload_n 0, 1) := by decide +kernel
theorem dX1_init_5 : decode cX1_init 5 = .ok (.sipush 3075, 3) := by decide +kernel
theorem dX1_init_8 : decode cX1_init 8 = .ok (.newarray .int, 2) := by decide +kernel
theorem dX1_init_10 : decode cX1_init 10 = .ok (.putfield 11, 3) := by decide +kernel
theorem dX1_init_13 : decode cX1_init 13 = .ok (.aload_n 0, 1) := by decide +kernel
theorem dX1_init_14 : decode cX1_init 14 = .ok (.bipush 41, 2) := by decide +kernel
theorem dX1_init_16 : decode cX1_init 16 = .ok (.newarray .int, 2) := by decide +kernel
theorem dX1_init_18 : decode cX1_init 18 = .ok (.putfield 15, 3) := by decide +kernel
theorem dX1_init_21 : decode cX1_init 21 = .ok (.aload_n 0, 1) := by decide +kernel
theorem dX1_init_22 : decode cX1_init 22 = .ok (.bipush 41, 2) := by decide +kernel
theorem dX1_init_24 : decode cX1_init 24 = .ok (.newarray .boolean, 2) := by decide +kernel
theorem dX1_init_26 : decode cX1_init 26 = .ok (.putfield 18, 3) := by decide +kernel
theorem dX1_init_29 : decode cX1_init 29 = .ok (.aload_n 0, 1) := by decide +kernel
theorem dX1_init_30 : decode cX1_init 30 = .ok (.iconst 0, 1) := by decide +kernel
theorem dX1_init_31 : decode cX1_init 31 = .ok (.putfield 22, 3) := by decide +kernel
theorem dX1_init_34 : decode cX1_init 34 = .ok (.aload_n 0, 1) := by decide +kernel
theorem dX1_init_35 : decode cX1_init 35 = .ok (.iconst 0, 1) := by decide +kernel
theorem dX1_init_36 : decode cX1_init 36 = .ok (.putfield 26, 3) := by decide +kernel
theorem dX1_init_39 : decode cX1_init 39 = .ok (.aload_n 0, 1) := by decide +kernel
theorem dX1_init_40 : decode cX1_init 40 = .ok (.iconst 0, 1) := by decide +kernel
theorem dX1_init_41 : decode cX1_init 41 = .ok (.putfield 29, 3) := by decide +kernel
theorem dX1_init_44 : decode cX1_init 44 = .ok (.aload_n 0, 1) := by decide +kernel
theorem dX1_init_45 : decode cX1_init 45 = .ok (.iconst 0, 1) := by decide +kernel
theorem dX1_init_46 : decode cX1_init 46 = .ok (.putfield 32, 3) := by decide +kernel
theorem dX1_init_49 : decode cX1_init 49 = .ok (.aload_n 0, 1) := by decide +kernel
theorem dX1_init_50 : decode cX1_init 50 = .ok (.iconst 0, 1) := by decide +kernel
theorem dX1_init_51 : decode cX1_init 51 = .ok (.putfield 36, 3) := by decide +kernel
theorem dX1_init_54 : decode cX1_init 54 = .ok (.aload_n 0, 1) := by decide +kernel
theorem dX1_init_55 : decode cX1_init 55 = .ok (.iconst 0, 1) := by decide +kernel
theorem dX1_init_56 : decode cX1_init 56 = .ok (.putfield 39, 3) := by decide +kernel
theorem dX1_init_59 : decode cX1_init 59 = .ok (.return_, 1) := by decide +kernel
set_option maxRecDepth 20000 in
theorem ggX1_look_X1_finish : GoodIn wsX1_look wsX1_finish := goodIn_r _ [7, 8, 9, 1, 10, 11, 12, 31, 32, 33, 34, 35, 36, 37, 38, 39] (by decide +kernel) (by decide +kernel)
set_option maxRecDepth 20000 in
theorem gX1_look_X1_finish : GoodIn wsX1_look (wsV RX1 42 RX1 yX1_finish wsX1_finish) := goodIn_app (goodIn_of _ (by decide +kernel)) ggX1_look_X1_finish
set_option maxRecDepth 20000 in
theorem ggX1_look_X1_lose : GoodIn wsX1_look wsX1_lose := goodIn_r _ [16, 1, 3, 4, 5, 6, 7, 8, 9, 10, 11, 12, 31, 32, 33, 34, 35, 36, 37, 38, 39] (by decide +kernel) (by decide +kernel)
set_option maxRecDepth 20000 in
theorem gX1_look_X1_lose : GoodIn wsX1_look (wsV RX1 46 RX1 yX1_lose wsX1_lose) := goodIn_app (goodIn_of _ (by decide +kernel)) ggX1_look_X1_lose
set_option maxRecDepth 20000 in
theorem ggX1_look_X1_begin : GoodIn wsX1_look wsX1_begin := goodIn_r _ [20, 21, 9, 2, 1, 31, 32, 33, 34, 35, 36, 37, 38, 39] (by decide +kernel) (by decide +kernel)
set_option maxRecDepth 20000 in
theorem gX1_look_X1_begin : GoodIn wsX1_look (wsV RX1 49 RX1 yX1_begin wsX1_begin) := goodIn_app (goodIn_of _ (by decide +kernel)) ggX1_look_X1_begin
set_option maxRecDepth 20000 in
theorem ggX1_look_X1_lookInside : GoodIn wsX1_look wsX1_lookInside := goodIn_r _ [25, 2, 1, 26, 27, 28, 6, 29, 21, 9, 30, 3, 4, 5, 7, 8, 10, 11, 12, 31, 32, 33, 34, 35, 36, 37, 38, 39] (by decide +kernel) (by decide +kernel)
set_option maxRecDepth 20000 in
theorem gX1_look_X1_lookInside : GoodIn wsX1_look (wsV RX1 52 RX1 yX1_lookInside wsX1_lookInside) := goodIn_app (goodIn_of _ (by decide +kernel)) ggX1_look_X1_lookInside
theorem dX1_look_0 : decode cX1_look 0 = .ok (.aload_n 0, 1) := by decide +kernel
theorem dX1_look_1 : decode cX1_look 1 = .ok (.getfield 29, 3) := by decide +kernel
theorem dX1_look_4 : decode cX1_look 4 = .ok (.iconst 2, 1) := by decide +kernel
theorem dX1_look_5 : decode cX1_look 5 = .ok (.if_icmp .ne 26, 3) := by decide +kernel
theorem dX1_look_8 : decode cX1_look 8 = .ok (.aload_n 0, 1) := by decide +kernel
theorem dX1_look_9 : decode cX1_look 9 = .ok (.iload_n 1, 1) := by decide +kernel
theorem dX1_look_10 : decode cX1_look 10 = .ok (.sipush 503, 3) := by decide +kernel
theorem dX1_look_13 : decode cX1_look 13 = .ok (.if_icmp .ne 14, 3) := by decide +kernel
theorem dX1_look_16 : decode cX1_look 16 = .ok (.aload_n 0, 1) := by decide +kernel
theorem dX1_look_17 : decode cX1_look 17 = .ok (.getfield 32, 3) := by decide +kernel
theorem dX1_look_20 : decode cX1_look 20 = .ok (.ifCond .ne 7, 3) := by decide +kernel
theorem dX1_look_23 : decode cX1_look 23 = .ok (.iconst 1, 1) := by decide +kernel
theorem dX1_look_24 : decode cX1_look 24 = .ok (.goto 4, 3) := by decide +kernel
theorem dX1_look_27 : decode cX1_look 27 = .ok (.iconst 0, 1) := by decide +kernel
theorem dX1_look_28 : decode cX1_look 28 = .ok (.invokevirtual 42, 3) := by decide +kernel
theorem dX1_look_31 : decode cX1_look 31 = .ok (.iload_n 1, 1) := by decide +kernel
theorem dX1_look_32 : decode cX1_look 32 = .ok (.sipush 507, 3) := by decide +kernel
theorem dX1_look_35 : decode cX1_look 35 = .ok (.if_icmp .ne 14, 3) := by decide +kernel
theorem dX1_look_38 : decode cX1_look 38 = .ok (.aload_n 0, 1) := by decide +kernel
theorem dX1_look_39 : decode cX1_look 39 = .ok (.invokevirtual 46, 3) := by decide +kernel
theorem dX1_look_42 : decode cX1_look 42 = .ok (.aload_n 0, 1) := by decide +kernel
theorem dX1_look_43 : decode cX1_look 43 = .ok (.invokevirtual 49, 3) := by decide +kernel
theorem dX1_look_46 : decode cX1_look 46 = .ok (.goto 16, 3) := by decide +kernel
theorem dX1_look_49 : decode cX1_look 49 = .ok (.aload_n 0, 1) := by decide +kernel
theorem dX1_look_50 : decode cX1_look 50 = .ok (.getfield 29, 3) := by decide +kernel
theorem dX1_look_53 : decode cX1_look 53 = .ok (.iconst 1, 1) := by decide +kernel
theorem dX1_look_54 : decode cX1_look 54 = .ok (.if_icmp .ne 8, 3) := by decide +kernel
theorem dX1_look_57 : decode cX1_look 57 = .ok (.aload_n 0, 1) := by decide +kernel
theorem dX1_look_58 : decode cX1_look 58 = .ok (.iload_n 1, 1) := by decide +kernel
theorem dX1_look_59 : decode cX1_look 59 = .ok (.invokevirtual 52, 3) := by decide +kernel
theorem dX1_look_62 : decode cX1_look 62 = .ok (.return_, 1) := by decide +kernel
set_option maxRecDepth 20000 in
theorem ggX1_lookInside_X1_addByte : GoodIn wsX1_lookInside wsX1_addByte := goodIn_r _ [7, 8, 9, 1, 10, 19, 20, 21, 22, 23, 24, 25, 26, 27] (by decide +kernel) (by decide +kernel)
set_option maxRecDepth 20000 in
theorem gX1_lookInside_X1_addByte : GoodIn wsX1_lookInside (wsV RX1 56 RX1 yX1_addByte wsX1_addByte) := goodIn_app (goodIn_of _ (by decide +kernel)) ggX1_lookInside_X1_addByte
set_option maxRecDepth 20000 in
theorem ggX1_lookInside_X1_finish : GoodIn wsX1_lookInside wsX1_finish := goodIn_r _ [14, 15, 9, 2, 16, 17, 18, 19, 20, 21, 22, 23, 24, 25, 26, 27] (by decide +kernel) (by decide +kernel)
set_option maxRecDepth 20000 in
theorem gX1_lookInside_X1_finish : GoodIn wsX1_lookInside (wsV RX1 42 RX1 yX1_finish wsX1_finish) := goodIn_app (goodIn_of _ (by decide +kernel)) ggX1_lookInside_X1_finish
theorem dX1_lookInside_0 : decode cX1_lookInside 0 = .ok (.iload_n 1, 1) := by decide +kernel
theorem dX1_lookInside_1 : decode cX1_lookInside 1 = .ok (.iconst (-1), 1) := by decide +kernel
theorem dX1_lookInside_2 : decode cX1_lookInside 2 = .ok (.if_icmp .ne 11, 3) := by decide +kernel
theorem dX1_lookInside_5 : decode cX1_lookInside 5 = .ok (.aload_n 0, 1) := by decide +kernel
theorem dX1_lookInside_6 : decode cX1_lookInside 6 = .ok (.iconst 1, 1) := by decide +kernel
theorem dX1_lookInside_7 : decode cX1_lookInside 7 = .ok (.putfield 32, 3) := by decide +kernel
theorem dX1_lookInside_10 : decode cX1_lookInside 10 = .ok (.goto 38, 3) := by decide +kernel
theorem dX1_lookInside_13 : decode cX1_lookInside 13 = .ok (.iload_n 1, 1) := by decide +kernel
theorem dX1_lookInside_14 : decode cX1_lookInside 14 = .ok (.sipush 256, 3) := by decide +kernel
theorem dX1_lookInside_17 : decode cX1_lookInside 17 = .ok (.if_icmp .ge 11, 3) := by decide +kernel
theorem dX1_lookInside_20 : decode cX1_lookInside 20 = .ok (.aload_n 0, 1) := by decide +kernel
theorem dX1_lookInside_21 : decode cX1_lookInside 21 = .ok (.iload_n 1, 1) := by decide +kernel
theorem dX1_lookInside_22 : decode cX1_lookInside 22 = .ok (.invokevirtual 56, 3) := by decide +kernel
theorem dX1_lookInside_25 : decode cX1_lookInside 25 = .ok (.goto 23, 3) := by decide +kernel
theorem dX1_lookInside_28 : decode cX1_lookInside 28 = .ok (.iload_n 1, 1) := by decide +kernel
theorem dX1_lookInside_29 : decode cX1_lookInside 29 = .ok (.sipush 509, 3) := by decide +kernel
theorem dX1_lookInside_32 : decode cX1_lookInside 32 = .ok (.if_icmp .ne 11, 3) := by decide +kernel
theorem dX1_lookInside_35 : decode cX1_lookInside 35 = .ok (.aload_n 0, 1) := by decide +kernel
theorem dX1_lookInside_36 : decode cX1_lookInside 36 = .ok (.iconst 2, 1) := by decide +kernel
theorem dX1_lookInside_37 : decode cX1_lookInside 37 = .ok (.putfield 29, 3) := by decide +kernel
theorem dX1_lookInside_40 : decode cX1_lookInside 40 = .ok (.goto 8, 3) := by decide +kernel
theorem dX1_lookInside_43 : decode cX1_lookInside 43 = .ok (.aload_n 0, 1) := by decide +kernel
theorem dX1_lookInside_44 : decode cX1_lookInside 44 = .ok (.iconst 0, 1) := by decide +kernel
theorem dX1_lookInside_45 : decode cX1_lookInside 45 = .ok (.invokevirtual 42, 3) := by decide +kernel
theorem dX1_lookInside_48 : decode cX1_lookInside 48 = .ok (.return_, 1) := by decide +kernel
set_option maxRecDepth 20000 in
theorem ggX1_lose_X1_finish : GoodIn wsX1_lose wsX1_finish := goodIn_r _ [6, 7, 8, 1, 9, 10, 11, 12, 13, 14, 15, 16, 17, 18, 19, 20] (by decide +kernel) (by decide +kernel)
set_option maxRecDepth 20000 in
theorem gX1_lose_X1_finish : GoodIn wsX1_lose (wsV RX1 42 RX1 yX1_finish wsX1_finish) := goodIn_app (goodIn_of _ (by decide +kernel)) ggX1_lose_X1_finish
theorem dX1_lose_0 : decode cX1_lose 0 = .ok (.aload_n 0, 1) := by decide +kernel
theorem dX1_lose_1 : decode cX1_lose 1 = .ok (.getfield 29, 3) := by decide +kernel
theorem dX1_lose_4 : decode cX1_lose 4 = .ok (.ifCond .eq 8, 3) := by decide +kernel
theorem dX1_lose_7 : decode cX1_lose 7 = .ok (.aload_n 0, 1) := by decide +kernel
theorem dX1_lose_8 : decode cX1_lose 8 = .ok (.iconst 0, 1) := by decide +kernel
theorem dX1_lose_9 : decode cX1_lose 9 = .ok (.invokevirtual 42, 3) := by decide +kernel
theorem dX1_lose_12 : decode cX1_lose 12 = .ok (.return_, 1) := by decide +kernel
theorem dX1_begin_0 : decode cX1_begin 0 = .ok (.aload_n 0, 1) := by decide +kernel
theorem dX1_begin_1 : decode cX1_begin 1 = .ok (.getfield 15, 3) := by decide +kernel
theorem dX1_begin_4 : decode cX1_begin 4 = .ok (.aload_n 0, 1) := by decide +kernel
theorem dX1_begin_5 : decode cX1_begin 5 = .ok (.getfield 22, 3) := by decide +kernel
theorem dX1_begin_8 : decode cX1_begin 8 = .ok (.iconst 0, 1) := by decide +kernel
theorem dX1_begin_9 : decode cX1_begin 9 = .ok (.iastore, 1) := by decide +kernel
theorem dX1_begin_10 : decode cX1_begin 10 = .ok (.aload_n 0, 1) := by decide +kernel
theorem dX1_begin_11 : decode cX1_begin 11 = .ok (.iconst 0, 1) := by decide +kernel
theorem dX1_begin_12 : decode cX1_begin 12 = .ok (.putfield 32, 3) := by decide +kernel
theorem dX1_begin_15 : decode cX1_begin 15 = .ok (.aload_n 0, 1) := by decide +kernel
theorem dX1_begin_16 : decode cX1_begin 16 = .ok (.iconst 1, 1) := by decide +kernel
theorem dX1_begin_17 : decode cX1_begin 17 = .ok (.putfield 29, 3) := by decide +kernel
theorem dX1_begin_20 : decode cX1_begin 20 = .ok (.return_, 1) := by decide +kernel
theorem dX1_addByte_0 : decode cX1_addByte 0 = .ok (.aload_n 0, 1) := by decide +kernel
theorem dX1_addByte_1 : decode cX1_addByte 1 = .ok (.getfield 15, 3) := by decide +kernel
theorem dX1_addByte_4 : decode cX1_addByte 4 = .ok (.aload_n 0, 1) := by decide +kernel
theorem dX1_addByte_5 : decode cX1_addByte 5 = .ok (.getfield 22, 3) := by decide +kernel
theorem dX1_addByte_8 : decode cX1_addByte 8 = .ok (.iaload, 1) := by decide +kernel
theorem dX1_addByte_9 : decode cX1_addByte 9 = .ok (.istore_n 2, 1) := by decide +kernel
theorem dX1_addByte_10 : decode cX1_addByte 10 = .ok (.iload_n 2, 1) := by decide +kernel
theorem dX1_addByte_11 : decode cX1_addByte 11 = .ok (.ifCond .lt 10, 3) := by decide +kernel
theorem dX1_addByte_14 : decode cX1_addByte 14 = .ok (.iload_n 2, 1) := by decide +kernel
theorem dX1_addByte_15 : decode cX1_addByte 15 = .ok (.sipush 300, 3) := by decide +kernel
theorem dX1_addByte_18 : decode cX1_addByte 18 = .ok (.if_icmp .lt 9, 3) := by decide +kernel
theorem dX1_addByte_21 : decode cX1_addByte 21 = .ok (.aload_n 0, 1) := by decide +kernel
theorem dX1_addByte_22 : decode cX1_addByte 22 = .ok (.iconst 1, 1) := by decide +kernel
theorem dX1_addByte_23 : decode cX1_addByte 23 = .ok (.putfield 32, 3) := by decide +kernel
theorem dX1_addByte_26 : decode cX1_addByte 26 = .ok (.return_, 1) := by decide +kernel
theorem dX1_addByte_27 : decode cX1_addByte 27 = .ok (.aload_n 0, 1) := by decide +kernel
theorem dX1_addByte_28 : decode cX1_addByte 28 = .ok (.getfield 22, 3) := by decide +kernel
theorem dX1_addByte_31 : decode cX1_addByte 31 = .ok (.bipush 75, 2) := by decide +kernel
theorem dX1_addByte_33 : decode cX1_addByte 33 = .ok (.imul, 1) := by decide +kernel
theorem dX1_addByte_34 : decode cX1_addByte 34 = .ok (.iload_n 2, 1) := by decide +kernel
theorem dX1_addByte_35 : decode cX1_addByte 35 = .ok (.iconst 2, 1) := by decide +kernel
theorem dX1_addByte_36 : decode cX1_addByte 36 = .ok (.ishr, 1) := by decide +kernel
theorem dX1_addByte_37 : decode cX1_addByte 37 = .ok (.iadd, 1) := by decide +kernel
theorem dX1_addByte_38 : decode cX1_addByte 38 = .ok (.istore_n 3, 1) := by decide +kernel
theorem dX1_addByte_39 : decode cX1_addByte 39 = .ok (.iload_n 2, 1) := by decide +kernel
theorem dX1_addByte_40 : decode cX1_addByte 40 = .ok (.iconst 3, 1) := by decide +kernel
theorem dX1_addByte_41 : decode cX1_addByte 41 = .ok (.iand, 1) := by decide +kernel
theorem dX1_addByte_42 : decode cX1_addByte 42 = .ok (.bipush 8, 2) := by decide +kernel
theorem dX1_addByte_44 : decode cX1_addByte 44 = .ok (.imul, 1) := by decide +kernel
theorem dX1_addByte_45 : decode cX1_addByte 45 = .ok (.istore 4, 2) := by decide +kernel
theorem dX1_addByte_47 : decode cX1_addByte 47 = .ok (.aload_n 0, 1) := by decide +kernel
theorem dX1_addByte_48 : decode cX1_addByte 48 = .ok (.getfield 11, 3) := by decide +kernel
theorem dX1_addByte_51 : decode cX1_addByte 51 = .ok (.iload_n 3, 1) := by decide +kernel
theorem dX1_addByte_52 : decode cX1_addByte 52 = .ok (.aload_n 0, 1) := by decide +kernel
theorem dX1_addByte_53 : decode cX1_addByte 53 = .ok (.getfield 11, 3) := by decide +kernel
theorem dX1_addByte_56 : decode cX1_addByte 56 = .ok (.iload_n 3, 1) := by decide +kernel
theorem dX1_addByte_57 : decode cX1_addByte 57 = .ok (.iaload, 1) := by decide +kernel
theorem dX1_addByte_58 : decode cX1_addByte 58 = .ok (.sipush 255, 3) := by decide +kernel
theorem dX1_addByte_61 : decode cX1_addByte 61 = .ok (.iload 4, 2) := by decide +kernel
theorem dX1_addByte_63 : decode cX1_addByte 63 = .ok (.ishl, 1) := by decide +kernel
theorem dX1_addByte_64 : decode cX1_addByte 64 = .ok (.iconst (-1), 1) := by decide +kernel
theorem dX1_addByte_65 : decode cX1_addByte 65 = .ok (.ixor, 1) := by decide +kernel
theorem dX1_addByte_66 : decode cX1_addByte 66 = .ok (.iand, 1) := by decide +kernel
theorem dX1_addByte_67 : decode cX1_addByte 67 = .ok (.iload_n 1, 1) := by decide +kernel
theorem dX1_addByte_68 : decode cX1_addByte 68 = .ok (.sipush 255, 3) := by decide +kernel
theorem dX1_addByte_71 : decode cX1_addByte 71 = .ok (.iand, 1) := by decide +kernel
theorem dX1_addByte_72 : decode cX1_addByte 72 = .ok (.iload 4, 2) := by decide +kernel
theorem dX1_addByte_74 : decode cX1_addByte 74 = .ok (.ishl, 1) := by decide +kernel
theorem dX1_addByte_75 : decode cX1_addByte 75 = .ok (.ior, 1) := by decide +kernel
theorem dX1_addByte_76 : decode cX1_addByte 76 = .ok (.iastore, 1) := by decide +kernel
theorem dX1_addByte_77 : decode cX1_addByte 77 = .ok (.aload_n 0, 1) := by decide +kernel
theorem dX1_addByte_78 : decode cX1_addByte 78 = .ok (.getfield 15, 3) := by decide +kernel
theorem dX1_addByte_81 : decode cX1_addByte 81 = .ok (.aload_n 0, 1) := by decide +kernel
theorem dX1_addByte_82 : decode cX1_addByte 82 = .ok (.getfield 22, 3) := by decide +kernel
theorem dX1_addByte_85 : decode cX1_addByte 85 = .ok (.iload_n 2, 1) := by decide +kernel
theorem dX1_addByte_86 : decode cX1_addByte 86 = .ok (.iconst 1, 1) := by decide +kernel
theorem dX1_addByte_87 : decode cX1_addByte 87 = .ok (.iadd, 1) := by decide +kernel
theorem dX1_addByte_88 : decode cX1_addByte 88 = .ok (.iastore, 1) := by decide +kernel
theorem dX1_addByte_89 : decode cX1_addByte 89 = .ok (.return_, 1) := by decide +kernel
theorem dX1_finish_0 : decode cX1_finish 0 = .ok (.aload_n 0, 1) := by decide +kernel
theorem dX1_finish_1 : decode cX1_finish 1 = .ok (.getfield 18, 3) := by decide +kernel
theorem dX1_finish_4 : decode cX1_finish 4 = .ok (.aload_n 0, 1) := by decide +kernel
theorem dX1_finish_5 : decode cX1_finish 5 = .ok (.getfield 22, 3) := by decide +kernel
theorem dX1_finish_8 : decode cX1_finish 8 = .ok (.iload_n 1, 1) := by decide +kernel
theorem dX1_finish_9 : decode cX1_finish 9 = .ok (.bastore, 1) := by decide +kernel
theorem dX1_finish_10 : decode cX1_finish 10 = .ok (.aload_n 0, 1) := by decide +kernel
theorem dX1_finish_11 : decode cX1_finish 11 = .ok (.aload_n 0, 1) := by decide +kernel
theorem dX1_finish_12 : decode cX1_finish 12 = .ok (.getfield 22, 3) := by decide +kernel
theorem dX1_finish_15 : decode cX1_finish 15 = .ok (.iconst 1, 1) := by decide +kernel
theorem dX1_finish_16 : decode cX1_finish 16 = .ok (.iadd, 1) := by decide +kernel
theorem dX1_finish_17 : decode cX1_finish 17 = .ok (.bipush 41, 2) := by decide +kernel
theorem dX1_finish_19 : decode cX1_finish 19 = .ok (.if_icmp .ge 12, 3) := by decide +kernel
theorem dX1_finish_22 : decode cX1_finish 22 = .ok (.aload_n 0, 1) := by decide +kernel
theorem dX1_finish_23 : decode cX1_finish 23 = .ok (.getfield 22, 3) := by decide +kernel
theorem dX1_finish_26 : decode cX1_finish 26 = .ok (.iconst 1, 1) := by decide +kernel
theorem dX1_finish_27 : decode cX1_finish 27 = .ok (.iadd, 1) := by decide +kernel
theorem dX1_finish_28 : decode cX1_finish 28 = .ok (.goto 4, 3) := by decide +kernel
theorem dX1_finish_31 : decode cX1_finish 31 = .ok (.iconst 0, 1) := by decide +kernel
theorem dX1_finish_32 : decode cX1_finish 32 = .ok (.putfield 22, 3) := by decide +kernel
theorem dX1_finish_35 : decode cX1_finish 35 = .ok (.aload_n 0, 1) := by decide +kernel
theorem dX1_finish_36 : decode cX1_finish 36 = .ok (.iconst 0, 1) := by decide +kernel
theorem dX1_finish_37 : decode cX1_finish 37 = .ok (.putfield 29, 3) := by decide +kernel
theorem dX1_finish_40 : decode cX1_finish 40 = .ok (.aload_n 0, 1) := by decide +kernel
theorem dX1_finish_41 : decode cX1_finish 41 = .ok (.dup, 1) := by decide +kernel
theorem dX1_finish_42 : decode cX1_finish 42 = .ok (.getfield 36, 3) := by decide +kernel
theorem dX1_finish_45 : decode cX1_finish 45 = .ok (.iconst 1, 1) := by decide +kernel
theorem dX1_finish_46 : decode cX1_finish 46 = .ok (.iadd, 1) := by decide +kernel
theorem dX1_finish_47 : decode cX1_finish 47 = .ok (.putfield 36, 3) := by decide +kernel
theorem dX1_finish_50 : decode cX1_finish 50 = .ok (.iload_n 1, 1) := by decide +kernel
theorem dX1_finish_51 : decode cX1_finish 51 = .ok (.ifCond .eq 13, 3) := by decide +kernel
theorem dX1_finish_54 : decode cX1_finish 54 = .ok (.aload_n 0, 1) := by decide +kernel
theorem dX1_finish_55 : decode cX1_finish 55 = .ok (.dup, 1) := by decide +kernel
theorem dX1_finish_56 : decode cX1_finish 56 = .ok (.getfield 39, 3) := by decide +kernel
theorem dX1_finish_59 : decode cX1_finish 59 = .ok (.iconst 1, 1) := by decide +kernel
theorem dX1_finish_60 : decode cX1_finish 60 = .ok (.iadd, 1) := by decide +kernel
theorem dX1_finish_61 : decode cX1_finish 61 = .ok (.putfield 39, 3) := by decide +kernel
theorem dX1_finish_64 : decode cX1_finish 64 = .ok (.aload_n 0, 1) := by decide +kernel
theorem dX1_finish_65 : decode cX1_finish 65 = .ok (.getfield 26, 3) := by decide +kernel
theorem dX1_finish_68 : decode cX1_finish 68 = .ok (.bipush 40, 2) := by decide +kernel
theorem dX1_finish_70 : decode cX1_finish 70 = .ok (.if_icmp .ge 13, 3) := by decide +kernel
theorem dX1_finish_73 : decode cX1_finish 73 = .ok (.aload_n 0, 1) := by decide +kernel
theorem dX1_finish_74 : decode cX1_finish 74 = .ok (.dup, 1) := by decide +kernel
theorem dX1_finish_75 : decode cX1_finish 75 = .ok (.getfield 26, 3) := by decide +kernel
theorem dX1_finish_78 : decode cX1_finish 78 = .ok (.iconst 1, 1) := by decide +kernel
theorem dX1_finish_79 : decode cX1_finish 79 = .ok (.iadd, 1) := by decide +kernel
theorem dX1_finish_80 : decode cX1_finish 80 = .ok (.putfield 26, 3) := by decide +kernel
theorem dX1_finish_83 : decode cX1_finish 83 = .ok (.return_, 1) := by decide +kernel
set_option maxRecDepth 20000 in
theorem ggX1_slotOf_J9_floorMod_7cf53 : GoodIn wsX1_slotOf wsJ9_floorMod_7cf53 := goodIn_r _ [6] (by decide +kernel) (by decide +kernel)
set_option maxRecDepth 20000 in
theorem gX1_slotOf_J9_floorMod_7cf53 : GoodIn wsX1_slotOf (va_wsS RX1 59 yJ9_floorMod_7cf53 wsJ9_floorMod_7cf53) := goodIn_app (goodIn_of _ (by decide +kernel)) ggX1_slotOf_J9_floorMod_7cf53
theorem dX1_slotOf_0 : decode cX1_slotOf 0 = .ok (.aload_n 0, 1) := by decide +kernel
theorem dX1_slotOf_1 : decode cX1_slotOf 1 = .ok (.getfield 22, 3) := by decide +kernel
theorem dX1_slotOf_4 : decode cX1_slotOf 4 = .ok (.aload_n 0, 1) := by decide +kernel
theorem dX1_slotOf_5 : decode cX1_slotOf 5 = .ok (.getfield 26, 3) := by decide +kernel
theorem dX1_slotOf_8 : decode cX1_slotOf 8 = .ok (.isub, 1) := by decide +kernel
theorem dX1_slotOf_9 : decode cX1_slotOf 9 = .ok (.iload_n 1, 1) := by decide +kernel
theorem dX1_slotOf_10 : decode cX1_slotOf 10 = .ok (.iadd, 1) := by decide +kernel
theorem dX1_slotOf_11 : decode cX1_slotOf 11 = .ok (.bipush 41, 2) := by decide +kernel
theorem dX1_slotOf_13 : decode cX1_slotOf 13 = .ok (.invokestatic 59, 3) := by decide +kernel
theorem dX1_slotOf_16 : decode cX1_slotOf 16 = .ok (.ireturn, 1) := by decide +kernel
theorem dX1_has_0 : decode cX1_has 0 = .ok (.iload_n 1, 1) := by decide +kernel
theorem dX1_has_1 : decode cX1_has 1 = .ok (.ifCond .lt 15, 3) := by decide +kernel
theorem dX1_has_4 : decode cX1_has 4 = .ok (.iload_n 1, 1) := by decide +kernel
theorem dX1_has_5 : decode cX1_has 5 = .ok (.aload_n 0, 1) := by decide +kernel
theorem dX1_has_6 : decode cX1_has 6 = .ok (.getfield 26, 3) := by decide +kernel
theorem dX1_has_9 : decode cX1_has 9 = .ok (.if_icmp .ge 7, 3) := by decide +kernel
theorem dX1_has_12 : decode cX1_has 12 = .ok (.iconst 1, 1) := by decide +kernel
theorem dX1_has_13 : decode cX1_has 13 = .ok (.goto 4, 3) := by decide +kernel
theorem dX1_has_16 : decode cX1_has 16 = .ok (.iconst 0, 1) := by decide +kernel
theorem dX1_has_17 : decode cX1_has 17 = .ok (.ireturn, 1) := by decide +kernel
set_option maxRecDepth 20000 in
theorem ggX1_lengthOf_X1_has : GoodIn wsX1_lengthOf wsX1_has := goodIn_r _ [6, 7, 17, 18, 19, 20, 21, 22, 23, 24, 25] (by decide +kernel) (by decide +kernel)
set_option maxRecDepth 20000 in
theorem gX1_lengthOf_X1_has : GoodIn wsX1_lengthOf (wsV RX1 65 RX1 yX1_has wsX1_has) := goodIn_app (goodIn_of _ (by decide +kernel)) ggX1_lengthOf_X1_has
set_option maxRecDepth 20000 in
theorem ggX1_lengthOf_X1_slotOf : GoodIn wsX1_lengthOf wsX1_slotOf := goodIn_r _ [11, 12, 7, 13, 14, 15, 16, 17, 18, 19, 20, 21, 22, 23, 24, 25] (by decide +kernel) (by decide +kernel)
set_option maxRecDepth 20000 in
theorem gX1_lengthOf_X1_slotOf : GoodIn wsX1_lengthOf (wsV RX1 69 RX1 yX1_slotOf wsX1_slotOf) := goodIn_app (goodIn_of _ (by decide +kernel)) ggX1_lengthOf_X1_slotOf
theorem dX1_lengthOf_0 : decode cX1_lengthOf 0 = .ok (.aload_n 0, 1) := by decide +kernel
theorem dX1_lengthOf_1 : decode cX1_lengthOf 1 = .ok (.iload_n 1, 1) := by decide +kernel
theorem dX1_lengthOf_2 : decode cX1_lengthOf 2 = .ok (.invokevirtual 65, 3) := by decide +kernel
theorem dX1_lengthOf_5 : decode cX1_lengthOf 5 = .ok (.ifCond .eq 16, 3) := by decide +kernel
theorem dX1_lengthOf_8 : decode cX1_lengthOf 8 = .ok (.aload_n 0, 1) := by decide +kernel
theorem dX1_lengthOf_9 : decode cX1_lengthOf 9 = .ok (.getfield 15, 3) := by decide +kernel
theorem dX1_lengthOf_12 : decode cX1_lengthOf 12 = .ok (.aload_n 0, 1) := by decide +kernel
theorem dX1_lengthOf_13 : decode cX1_lengthOf 13 = .ok (.iload_n 1, 1) := by decide +kernel
theorem dX1_lengthOf_14 : decode cX1_lengthOf 14 = .ok (.invokevirtual 69, 3) := by decide +kernel
theorem dX1_lengthOf_17 : decode cX1_lengthOf 17 = .ok (.iaload, 1) := by decide +kernel
theorem dX1_lengthOf_18 : decode cX1_lengthOf 18 = .ok (.goto 4, 3) := by decide +kernel
theorem dX1_lengthOf_21 : decode cX1_lengthOf 21 = .ok (.iconst (-1), 1) := by decide +kernel
theorem dX1_lengthOf_22 : decode cX1_lengthOf 22 = .ok (.ireturn, 1) := by decide +kernel
set_option maxRecDepth 20000 in
theorem ggX1_isWhole_X1_has : GoodIn wsX1_isWhole wsX1_has := goodIn_r _ [6, 7, 17, 18, 19, 20, 21, 22, 23, 24, 25] (by decide +kernel) (by decide +kernel)
set_option maxRecDepth 20000 in
theorem gX1_isWhole_X1_has : GoodIn wsX1_isWhole (wsV RX1 65 RX1 yX1_has wsX1_has) := goodIn_app (goodIn_of _ (by decide +kernel)) ggX1_isWhole_X1_has
set_option maxRecDepth 20000 in
theorem ggX1_isWhole_X1_slotOf : GoodIn wsX1_isWhole wsX1_slotOf := goodIn_r _ [11, 12, 7, 13, 14, 15, 16, 17, 18, 19, 20, 21, 22, 23, 24, 25] (by decide +kernel) (by decide +kernel)
set_option maxRecDepth 20000 in
theorem gX1_isWhole_X1_slotOf : GoodIn wsX1_isWhole (wsV RX1 69 RX1 yX1_slotOf wsX1_slotOf) := goodIn_app (goodIn_of _ (by decide +kernel)) ggX1_isWhole_X1_slotOf
theorem dX1_isWhole_0 : decode cX1_isWhole 0 = .ok (.aload_n 0, 1) := by decide +kernel
theorem dX1_isWhole_1 : decode cX1_isWhole 1 = .ok (.iload_n 1, 1) := by decide +kernel
theorem dX1_isWhole_2 : decode cX1_isWhole 2 = .ok (.invokevirtual 65, 3) := by decide +kernel
theorem dX1_isWhole_5 : decode cX1_isWhole 5 = .ok (.ifCond .eq 20, 3) := by decide +kernel
theorem dX1_isWhole_8 : decode cX1_isWhole 8 = .ok (.aload_n 0, 1) := by decide +kernel
theorem dX1_isWhole_9 : decode cX1_isWhole 9 = .ok (.getfield 18, 3) := by decide +kernel
theorem dX1_isWhole_12 : decode cX1_isWhole 12 = .ok (.aload_n 0, 1) := by decide +kernel
theorem dX1_isWhole_13 : decode cX1_isWhole 13 = .ok (.iload_n 1, 1) := by decide +kernel
theorem dX1_isWhole_14 : decode cX1_isWhole 14 = .ok (.invokevirtual 69, 3) := by decide +kernel
theorem dX1_isWhole_17 : decode cX1_isWhole 17 = .ok (.baload, 1) := by decide +kernel
theorem dX1_isWhole_18 : decode cX1_isWhole 18 = .ok (.ifCond .eq 7, 3) := by decide +kernel
theorem dX1_isWhole_21 : decode cX1_isWhole 21 = .ok (.iconst 1, 1) := by decide +kernel
theorem dX1_isWhole_22 : decode cX1_isWhole 22 = .ok (.goto 4, 3) := by decide +kernel
theorem dX1_isWhole_25 : decode cX1_isWhole 25 = .ok (.iconst 0, 1) := by decide +kernel
theorem dX1_isWhole_26 : decode cX1_isWhole 26 = .ok (.ireturn, 1) := by decide +kernel
set_option maxRecDepth 20000 in
theorem ggX1_byteOf_X1_lengthOf : GoodIn wsX1_byteOf wsX1_lengthOf := goodIn_r _ [6, 7, 8, 9, 10, 5, 11, 12, 13, 14, 15, 16, 17, 18, 19, 20, 21, 22, 23, 24, 25, 26, 27, 28, 29, 30] (by decide +kernel) (by decide +kernel)
set_option maxRecDepth 20000 in
theorem gX1_byteOf_X1_lengthOf : GoodIn wsX1_byteOf (wsV RX1 73 RX1 yX1_lengthOf wsX1_lengthOf) := goodIn_app (goodIn_of _ (by decide +kernel)) ggX1_byteOf_X1_lengthOf
set_option maxRecDepth 20000 in
theorem ggX1_byteOf_X1_slotOf : GoodIn wsX1_byteOf wsX1_slotOf := goodIn_r _ [16, 17, 12, 18, 19, 20, 21, 22, 23, 24, 25, 26, 27, 28, 29, 30] (by decide +kernel) (by decide +kernel)
set_option maxRecDepth 20000 in
theorem gX1_byteOf_X1_slotOf : GoodIn wsX1_byteOf (wsV RX1 69 RX1 yX1_slotOf wsX1_slotOf) := goodIn_app (goodIn_of _ (by decide +kernel)) ggX1_byteOf_X1_slotOf
theorem dX1_byteOf_0 : decode cX1_byteOf 0 = .ok (.iload_n 2, 1) := by decide +kernel
theorem dX1_byteOf_1 : decode cX1_byteOf 1 = .ok (.ifCond .lt 19, 3) := by decide +kernel
theorem dX1_byteOf_4 : decode cX1_byteOf 4 = .ok (.iload_n 2, 1) := by decide +kernel
theorem dX1_byteOf_5 : decode cX1_byteOf 5 = .ok (.sipush 300, 3) := by decide +kernel
theorem dX1_byteOf_8 : decode cX1_byteOf 8 = .ok (.if_icmp .ge 12, 3) := by decide +kernel
theorem dX1_byteOf_11 : decode cX1_byteOf 11 = .ok (.iload_n 2, 1) := by decide +kernel
theorem dX1_byteOf_12 : decode cX1_byteOf 12 = .ok (.aload_n 0, 1) := by decide +kernel
theorem dX1_byteOf_13 : decode cX1_byteOf 13 = .ok (.iload_n 1, 1) := by decide +kernel
theorem dX1_byteOf_14 : decode cX1_byteOf 14 = .ok (.invokevirtual 73, 3) := by decide +kernel
theorem dX1_byteOf_17 : decode cX1_byteOf 17 = .ok (.if_icmp .lt 5, 3) := by decide +kernel
theorem dX1_byteOf_20 : decode cX1_byteOf 20 = .ok (.iconst (-1), 1) := by decide +kernel
theorem dX1_byteOf_21 : decode cX1_byteOf 21 = .ok (.ireturn, 1) := by decide +kernel
theorem dX1_byteOf_22 : decode cX1_byteOf 22 = .ok (.aload_n 0, 1) := by decide +kernel
theorem dX1_byteOf_23 : decode cX1_byteOf 23 = .ok (.iload_n 1, 1) := by decide +kernel
theorem dX1_byteOf_24 : decode cX1_byteOf 24 = .ok (.invokevirtual 69, 3) := by decide +kernel
theorem dX1_byteOf_27 : decode cX1_byteOf 27 = .ok (.bipush 75, 2) := by decide +kernel
theorem dX1_byteOf_29 : decode cX1_byteOf 29 = .ok (.imul, 1) := by decide +kernel
theorem dX1_byteOf_30 : decode cX1_byteOf 30 = .ok (.iload_n 2, 1) := by decide +kernel
theorem dX1_byteOf_31 : decode cX1_byteOf 31 = .ok (.iconst 2, 1) := by decide +kernel
theorem dX1_byteOf_32 : decode cX1_byteOf 32 = .ok (.ishr, 1) := by decide +kernel
theorem dX1_byteOf_33 : decode cX1_byteOf 33 = .ok (.iadd, 1) := by decide +kernel
theorem dX1_byteOf_34 : decode cX1_byteOf 34 = .ok (.istore_n 3, 1) := by decide +kernel
theorem dX1_byteOf_35 : decode cX1_byteOf 35 = .ok (.aload_n 0, 1) := by decide +kernel
theorem dX1_byteOf_36 : decode cX1_byteOf 36 = .ok (.getfield 11, 3) := by decide +kernel
theorem dX1_byteOf_39 : decode cX1_byteOf 39 = .ok (.iload_n 3, 1) := by decide +kernel
theorem dX1_byteOf_40 : decode cX1_byteOf 40 = .ok (.iaload, 1) := by decide +kernel
theorem dX1_byteOf_41 : decode cX1_byteOf 41 = .ok (.iload_n 2, 1) := by decide +kernel
theorem dX1_byteOf_42 : decode cX1_byteOf 42 = .ok (.iconst 3, 1) := by decide +kernel
theorem dX1_byteOf_43 : decode cX1_byteOf 43 = .ok (.iand, 1) := by decide +kernel
theorem dX1_byteOf_44 : decode cX1_byteOf 44 = .ok (.bipush 8, 2) := by decide +kernel
theorem dX1_byteOf_46 : decode cX1_byteOf 46 = .ok (.imul, 1) := by decide +kernel
theorem dX1_byteOf_47 : decode cX1_byteOf 47 = .ok (.ishr, 1) := by decide +kernel
theorem dX1_byteOf_48 : decode cX1_byteOf 48 = .ok (.sipush 255, 3) := by decide +kernel
theorem dX1_byteOf_51 : decode cX1_byteOf 51 = .ok (.iand, 1) := by decide +kernel
theorem dX1_byteOf_52 : decode cX1_byteOf 52 = .ok (.ireturn, 1) := by decide +kernel
theorem dX2_init_0 : decode cX2_init 0 = .ok (.aload_n 0, 1) := by decide +kernel
theorem dX2_init_1 : decode cX2_init 1 = .ok (.invokespecial 3, 3) := by decide +kernel
theorem dX2_init_4 : decode cX2_init 4 = .ok (.aload_n 0, 1) := by decide +kernel
theorem dX2_init_5 : decode cX2_init 5 = .ok (.sipush 8000, 3) := by decide +kernel
theorem dX2_init_8 : decode cX2_init 8 = .ok (.newarray .byte, 2) := by decide +kernel
theorem dX2_init_10 : decode cX2_init 10 = .ok (.putfield 11, 3) := by decide +kernel
theorem dX2_init_13 : decode cX2_init 13 = .ok (.aload_n 0, 1) := by decide +kernel
theorem dX2_init_14 : decode cX2_init 14 = .ok (.iconst 0, 1) := by decide +kernel
theorem dX2_init_15 : decode cX2_init 15 = .ok (.putfield 15, 3) := by decide +kernel
theorem dX2_init_18 : decode cX2_init 18 = .ok (.return_, 1) := by decide +kernel
theorem dX2_hasRoomFor_0 : decode cX2_hasRoomFor 0 = .ok (.iload_n 1, 1) := by decide +kernel
theorem dX2_hasRoomFor_1 : decode cX2_hasRoomFor 1 = .ok (.sipush 8000, 3) := by decide +kernel
theorem dX2_hasRoomFor_4 : decode cX2_hasRoomFor 4 = .ok (.aload_n 0, 1) := by decide +kernel
theorem dX2_hasRoomFor_5 : decode cX2_hasRoomFor 5 = .ok (.getfield 15, 3) := by decide +kernel
theorem dX2_hasRoomFor_8 : decode cX2_hasRoomFor 8 = .ok (.isub, 1) := by decide +kernel
theorem dX2_hasRoomFor_9 : decode cX2_hasRoomFor 9 = .ok (.if_icmp .gt 7, 3) := by decide +kernel
theorem dX2_hasRoomFor_12 : decode cX2_hasRoomFor 12 = .ok (.iconst 1, 1) := by decide +kernel
theorem dX2_hasRoomFor_13 : decode cX2_hasRoomFor 13 = .ok (.goto 4, 3) := by decide +kernel
theorem dX2_hasRoomFor_16 : decode cX2_hasRoomFor 16 = .ok (.iconst 0, 1) := by decide +kernel
theorem dX2_hasRoomFor_17 : decode cX2_hasRoomFor 17 = .ok (.ireturn, 1) := by decide +kernel
theorem dX2_append_0 : decode cX2_append 0 = .ok (.aload_n 0, 1) := by decide +kernel
theorem dX2_append_1 : decode cX2_append 1 = .ok (.getfield 15, 3) := by decide +kernel
theorem dX2_append_4 : decode cX2_append 4 = .ok (.ifCond .lt 13, 3) := by decide +kernel
theorem dX2_append_7 : decode cX2_append 7 = .ok (.aload_n 0, 1) := by decide +kernel
theorem dX2_append_8 : decode cX2_append 8 = .ok (.getfield 15, 3) := by decide +kernel
theorem dX2_append_11 : decode cX2_append 11 = .ok (.sipush 8000, 3) := by decide +kernel
theorem dX2_append_14 : decode cX2_append 14 = .ok (.if_icmp .lt 5, 3) := by decide +kernel
theorem dX2_append_17 : decode cX2_append 17 = .ok (.iconst 0, 1) := by decide +kernel
theorem dX2_append_18 : decode cX2_append 18 = .ok (.ireturn, 1) := by decide +kernel
theorem dX2_append_19 : decode cX2_append 19 = .ok (.aload_n 0, 1) := by decide +kernel
theorem dX2_append_20 : decode cX2_append 20 = .ok (.getfield 11, 3) := by decide +kernel
theorem dX2_append_23 : decode cX2_append 23 = .ok (.aload_n 0, 1) := by decide +kernel
theorem dX2_append_24 : decode cX2_append 24 = .ok (.getfield 15, 3) := by decide +kernel
theorem dX2_append_27 : decode cX2_append 27 = .ok (.iload_n 1, 1) := by decide +kernel
theorem dX2_append_28 : decode cX2_append 28 = .ok (.i2b, 1) := by decide +kernel
theorem dX2_append_29 : decode cX2_append 29 = .ok (.bastore, 1) := by decide +kernel
theorem dX2_append_30 : decode cX2_append 30 = .ok (.aload_n 0, 1) := by decide +kernel
theorem dX2_append_31 : decode cX2_append 31 = .ok (.dup, 1) := by decide +kernel
theorem dX2_append_32 : decode cX2_append 32 = .ok (.getfield 15, 3) := by decide +kernel
theorem dX2_append_35 : decode cX2_append 35 = .ok (.iconst 1, 1) := by decide +kernel
theorem dX2_append_36 : decode cX2_append 36 = .ok (.iadd, 1) := by decide +kernel
theorem dX2_append_37 : decode cX2_append 37 = .ok (.putfield 15, 3) := by decide +kernel
theorem dX2_append_40 : decode cX2_append 40 = .ok (.iconst 1, 1) := by decide +kernel
theorem dX2_append_41 : decode cX2_append 41 = .ok (.ireturn, 1) := by decide +kernel
theorem dX2_has_0 : decode cX2_has 0 = .ok (.iload_n 1, 1) := by decide +kernel
theorem dX2_has_1 : decode cX2_has 1 = .ok (.ifCond .lt 25, 3) := by decide +kernel
theorem dX2_has_4 : decode cX2_has 4 = .ok (.iload_n 1, 1) := by decide +kernel
theorem dX2_has_5 : decode cX2_has 5 = .ok (.aload_n 0, 1) := by decide +kernel
theorem dX2_has_6 : decode cX2_has 6 = .ok (.getfield 15, 3) := by decide +kernel
theorem dX2_has_9 : decode cX2_has 9 = .ok (.if_icmp .ge 17, 3) := by decide +kernel
theorem dX2_has_12 : decode cX2_has 12 = .ok (.aload_n 0, 1) := by decide +kernel
theorem dX2_has_13 : decode cX2_has 13 = .ok (.getfield 15, 3) := by decide +kernel
theorem dX2_has_16 : decode cX2_has 16 = .ok (.sipush 8000, 3) := by decide +kernel
theorem dX2_has_19 : decode cX2_has 19 = .ok (.if_icmp .gt 7, 3) := by decide +kernel
theorem dX2_has_22 : decode cX2_has 22 = .ok (.iconst 1, 1) := by decide +kernel
theorem dX2_has_23 : decode cX2_has 23 = .ok (.goto 4, 3) := by decide +kernel
theorem dX2_has_26 : decode cX2_has 26 = .ok (.iconst 0, 1) := by decide +kernel
theorem dX2_has_27 : decode cX2_has 27 = .ok (.ireturn, 1) := by decide +kernel
set_option maxRecDepth 20000 in
theorem ggX2_get_X2_has : GoodIn wsX2_get wsX2_has := goodIn_r _ [6, 7, 8, 9] (by decide +kernel) (by decide +kernel)
set_option maxRecDepth 20000 in
theorem gX2_get_X2_has : GoodIn wsX2_get (wsV RX2 19 RX2 yX2_has wsX2_has) := goodIn_app (goodIn_of _ (by decide +kernel)) ggX2_get_X2_has
theorem dX2_get_0 : decode cX2_get 0 = .ok (.aload_n 0, 1) := by decide +kernel
theorem dX2_get_1 : decode cX2_get 1 = .ok (.iload_n 1, 1) := by decide +kernel
theorem dX2_get_2 : decode cX2_get 2 = .ok (.invokevirtual 19, 3) := by decide +kernel
theorem dX2_get_5 : decode cX2_get 5 = .ok (.ifCond .eq 12, 3) := by decide +kernel
theorem dX2_get_8 : decode cX2_get 8 = .ok (.aload_n 0, 1) := by decide +kernel
theorem dX2_get_9 : decode cX2_get 9 = .ok (.getfield 11, 3) := by decide +kernel
theorem dX2_get_12 : decode cX2_get 12 = .ok (.iload_n 1, 1) := by decide +kernel
theorem dX2_get_13 : decode cX2_get 13 = .ok (.baload, 1) := by decide +kernel
theorem dX2_get_14 : decode cX2_get 14 = .ok (.goto 4, 3) := by decide +kernel
theorem dX2_get_17 : decode cX2_get 17 = .ok (.iconst (-1), 1) := by decide +kernel
theorem dX2_get_18 : decode cX2_get 18 = .ok (.ireturn, 1) := by decide +kernel
set_option maxRecDepth 20000 in
theorem ggX2_flip_X2_has : GoodIn wsX2_flip wsX2_has := goodIn_r _ [6, 7, 8, 9] (by decide +kernel) (by decide +kernel)
set_option maxRecDepth 20000 in
theorem gX2_flip_X2_has : GoodIn wsX2_flip (wsV RX2 19 RX2 yX2_has wsX2_has) := goodIn_app (goodIn_of _ (by decide +kernel)) ggX2_flip_X2_has
theorem dX2_flip_0 : decode cX2_flip 0 = .ok (.aload_n 0, 1) := by decide +kernel
theorem dX2_flip_1 : decode cX2_flip 1 = .ok (.iload_n 1, 1) := by decide +kernel
theorem dX2_flip_2 : decode cX2_flip 2 = .ok (.invokevirtual 19, 3) := by decide +kernel
theorem dX2_flip_5 : decode cX2_flip 5 = .ok (.ifCond .ne 5, 3) := by decide +kernel
theorem dX2_flip_8 : decode cX2_flip 8 = .ok (.iconst 0, 1) := by decide +kernel
theorem dX2_flip_9 : decode cX2_flip 9 = .ok (.ireturn, 1) := by decide +kernel
theorem dX2_flip_10 : decode cX2_flip 10 = .ok (.aload_n 0, 1) := by decide +kernel
theorem dX2_flip_11 : decode cX2_flip 11 = .ok (.getfield 11, 3) := by decide +kernel
theorem dX2_flip_14 : decode cX2_flip 14 = .ok (.iload_n 1, 1) := by decide +kernel
theorem dX2_flip_15 : decode cX2_flip 15 = .ok (.iconst 1, 1) := by decide +kernel
theorem dX2_flip_16 : decode cX2_flip 16 = .ok (.aload_n 0, 1) := by decide +kernel
theorem dX2_flip_17 : decode cX2_flip 17 = .ok (.getfield 11, 3) := by decide +kernel
theorem dX2_flip_20 : decode cX2_flip 20 = .ok (.iload_n 1, 1) := by decide +kernel
theorem dX2_flip_21 : decode cX2_flip 21 = .ok (.baload, 1) := by decide +kernel
theorem dX2_flip_22 : decode cX2_flip 22 = .ok (.isub, 1) := by decide +kernel
theorem dX2_flip_23 : decode cX2_flip 23 = .ok (.i2b, 1) := by decide +kernel
theorem dX2_flip_24 : decode cX2_flip 24 = .ok (.bastore, 1) := by decide +kernel
theorem dX2_flip_25 : decode cX2_flip 25 = .ok (.iconst 1, 1) := by decide +kernel
theorem dX2_flip_26 : decode cX2_flip 26 = .ok (.ireturn, 1) := by decide +kernel
set_option maxRecDepth 20000 in
theorem ggX2_leaveOut_X2_has : GoodIn wsX2_leaveOut wsX2_has := goodIn_r _ [11, 2, 12, 13] (by decide +kernel) (by decide +kernel)
set_option maxRecDepth 20000 in
theorem gX2_leaveOut_X2_has : GoodIn wsX2_leaveOut (wsV RX2 19 RX2 yX2_has wsX2_has) := goodIn_app (goodIn_of _ (by decide +kernel)) ggX2_leaveOut_X2_has
theorem dX2_leaveOut_0 : decode cX2_leaveOut 0 = .ok (.aload_n 0, 1) := by decide +kernel
theorem dX2_leaveOut_1 : decode cX2_leaveOut 1 = .ok (.iload_n 1, 1) := by decide +kernel
theorem dX2_leaveOut_2 : decode cX2_leaveOut 2 = .ok (.invokevirtual 19, 3) := by decide +kernel
theorem dX2_leaveOut_5 : decode cX2_leaveOut 5 = .ok (.ifCond .ne 5, 3) := by decide +kernel
theorem dX2_leaveOut_8 : decode cX2_leaveOut 8 = .ok (.iconst 0, 1) := by decide +kernel
theorem dX2_leaveOut_9 : decode cX2_leaveOut 9 = .ok (.ireturn, 1) := by decide +kernel
theorem dX2_leaveOut_10 : decode cX2_leaveOut 10 = .ok (.aload_n 0, 1) := by decide +kernel
theorem dX2_leaveOut_11 : decode cX2_leaveOut 11 = .ok (.getfield 11, 3) := by decide +kernel
theorem dX2_leaveOut_14 : decode cX2_leaveOut 14 = .ok (.iload_n 1, 1) := by decide +kernel
theorem dX2_leaveOut_15 : decode cX2_leaveOut 15 = .ok (.iconst 1, 1) := by decide +kernel
theorem dX2_leaveOut_16 : decode cX2_leaveOut 16 = .ok (.iadd, 1) := by decide +kernel
theorem dX2_leaveOut_17 : decode cX2_leaveOut 17 = .ok (.aload_n 0, 1) := by decide +kernel
theorem dX2_leaveOut_18 : decode cX2_leaveOut 18 = .ok (.getfield 11, 3) := by decide +kernel
theorem dX2_leaveOut_21 : decode cX2_leaveOut 21 = .ok (.iload_n 1, 1) := by decide +kernel
theorem dX2_leaveOut_22 : decode cX2_leaveOut 22 = .ok (.aload_n 0, 1) := by decide +kernel
theorem dX2_leaveOut_23 : decode cX2_leaveOut 23 = .ok (.getfield 15, 3) := by decide +kernel
theorem dX2_leaveOut_26 : decode cX2_leaveOut 26 = .ok (.iload_n 1, 1) := by decide +kernel
theorem dX2_leaveOut_27 : decode cX2_leaveOut 27 = .ok (.isub, 1) := by decide +kernel
theorem dX2_leaveOut_28 : decode cX2_leaveOut 28 = .ok (.iconst 1, 1) := by decide +kernel
theorem dX2_leaveOut_29 : decode cX2_leaveOut 29 = .ok (.isub, 1) := by decide +kernel
theorem dX2_leaveOut_30 : decode cX2_leaveOut 30 = .ok (.invokestatic 23, 3) := by decide +kernel
theorem dX2_leaveOut_33 : decode cX2_leaveOut 33 = .ok (.aload_n 0, 1) := by decide +kernel
theorem dX2_leaveOut_34 : decode cX2_leaveOut 34 = .ok (.dup, 1) := by decide +kernel
theorem dX2_leaveOut_35 : decode cX2_leaveOut 35 = .ok (.getfield 15, 3) := by decide +kernel
theorem dX2_leaveOut_38 : decode cX2_leaveOut 38 = .ok (.iconst 1, 1) := by decide +kernel
theorem dX2_leaveOut_39 : decode cX2_leaveOut 39 = .ok (.isub, 1) := by decide +kernel
theorem dX2_leaveOut_40 : decode cX2_leaveOut 40 = .ok (.putfield 15, 3) := by decide +kernel
theorem dX2_leaveOut_43 : decode cX2_leaveOut 43 = .ok (.iconst 1, 1) := by decide +kernel
theorem dX2_leaveOut_44 : decode cX2_leaveOut 44 = .ok (.ireturn, 1) := by decide +kernel
theorem dX2_cutFront_0 : decode cX2_cutFront 0 = .ok (.iload_n 1, 1) := by decide +kernel
theorem dX2_cutFront_1 : decode cX2_cutFront 1 = .ok (.ifCond .le 11, 3) := by decide +kernel
theorem dX2_cutFront_4 : decode cX2_cutFront 4 = .ok (.iload_n 1, 1) := by decide +kernel
theorem dX2_cutFront_5 : decode cX2_cutFront 5 = .ok (.aload_n 0, 1) := by decide +kernel
theorem dX2_cutFront_6 : decode cX2_cutFront 6 = .ok (.getfield 15, 3) := by decide +kernel
theorem dX2_cutFront_9 : decode cX2_cutFront 9 = .ok (.if_icmp .le 4, 3) := by decide +kernel
theorem dX2_cutFront_12 : decode cX2_cutFront 12 = .ok (.return_, 1) := by decide +kernel
theorem dX2_cutFront_13 : decode cX2_cutFront 13 = .ok (.aload_n 0, 1) := by decide +kernel
theorem dX2_cutFront_14 : decode cX2_cutFront 14 = .ok (.getfield 11, 3) := by decide +kernel
theorem dX2_cutFront_17 : decode cX2_cutFront 17 = .ok (.iload_n 1, 1) := by decide +kernel
theorem dX2_cutFront_18 : decode cX2_cutFront 18 = .ok (.aload_n 0, 1) := by decide +kernel
theorem dX2_cutFront_19 : decode cX2_cutFront 19 = .ok (.getfield 11, 3) := by decide +kernel
theorem dX2_cutFront_22 : decode cX2_cutFront 22 = .ok (.iconst 0, 1) := by decide +kernel
theorem dX2_cutFront_23 : decode cX2_cutFront 23 = .ok (.aload_n 0, 1) := by decide +kernel
theorem dX2_cutFront_24 : decode cX2_cutFront 24 = .ok (.getfield 15, 3) := by decide +kernel
theorem dX2_cutFront_27 : decode cX2_cutFront 27 = .ok (.iload_n 1, 1) := by decide +kernel
theorem dX2_cutFront_28 : decode cX2_cutFront 28 = .ok (.isub, 1) := by decide +kernel
theorem dX2_cutFront_29 : decode cX2_cutFront 29 = .ok (.invokestatic 23, 3) := by decide +kernel
theorem dX2_cutFront_32 : decode cX2_cutFront 32 = .ok (.aload_n 0, 1) := by decide +kernel
theorem dX2_cutFront_33 : decode cX2_cutFront 33 = .ok (.dup, 1) := by decide +kernel
theorem dX2_cutFront_34 : decode cX2_cutFront 34 = .ok (.getfield 15, 3) := by decide +kernel
theorem dX2_cutFront_37 : decode cX2_cutFront 37 = .ok (.iload_n 1, 1) := by decide +kernel
theorem dX2_cutFront_38 : decode cX2_cutFront 38 = .ok (.isub, 1) := by decide +kernel
theorem dX2_cutFront_39 : decode cX2_cutFront 39 = .ok (.putfield 15, 3) := by decide +kernel
theorem dX2_cutFront_42 : decode cX2_cutFront 42 = .ok (.return_, 1) := by decide +kernel
set_option maxRecDepth 20000 in
theorem ggX3_init_X5_init : GoodIn wsX3_init wsX5_init := goodIn_r _ [23, 24, 2, 3, 25, 26, 27, 28, 29, 43, 44, 45, 46] (by decide +kernel) (by decide +kernel)
set_option maxRecDepth 20000 in
theorem gX3_init_X5_init_n11 : GoodIn wsX3_init (wsX5_init) := ggX3_init_X5_init
set_option maxRecDepth 20000 in
theorem ggX3_init_X1_init : GoodIn wsX3_init wsX1_init := goodIn_r _ [31, 32, 2, 3, 25, 33, 34, 35, 36, 37, 38, 39, 40, 41, 42, 59, 60, 61, 62, 63, 64, 65, 66, 67] (by decide +kernel) (by decide +kernel)
set_option maxRecDepth 20000 in
theorem gX3_init_X1_init_n20 : GoodIn wsX3_init (wsX1_init) := ggX3_init_X1_init
theorem dX3_init_0 : decode cX3_init 0 = .ok (.aload_n 0, 1) := by decide +kernel
theorem dX3_init_1 : decode cX3_init 1 = .ok (.invokespecial 3, 3) := by decide +kernel
theorem dX3_init_4 : decode cX3_init 4 = .ok (.aload_n 0, 1) := by decide +kernel
theorem dX3_init_5 : decode cX3_init 5 = .ok (.new 9, 3) := by decide +kernel
theorem dX3_init_8 : decode cX3_init 8 = .ok (.dup, 1) := by decide +kernel
theorem dX3_init_9 : decode cX3_init 9 = .ok (.invokespecial 11, 3) := by decide +kernel
theorem dX3_init_12 : decode cX3_init 12 = .ok (.putfield 12, 3) := by decide +kernel
theorem dX3_init_15 : decode cX3_init 15 = .ok (.aload_n 0, 1) := by decide +kernel
theorem dX3_init_16 : decode cX3_init 16 = .ok (.new 18, 3) := by decide +kernel
theorem dX3_init_19 : decode cX3_init 19 = .ok (.dup, 1) := by decide +kernel
theorem dX3_init_20 : decode cX3_init 20 = .ok (.invokespecial 20, 3) := by decide +kernel
theorem dX3_init_23 : decode cX3_init 23 = .ok (.putfield 21, 3) := by decide +kernel
theorem dX3_init_26 : decode cX3_init 26 = .ok (.aload_n 0, 1) := by decide +kernel
theorem dX3_init_27 : decode cX3_init 27 = .ok (.iconst 0, 1) := by decide +kernel
theorem dX3_init_28 : decode cX3_init 28 = .ok (.putfield 25, 3) := by decide +kernel
theorem dX3_init_31 : decode cX3_init 31 = .ok (.aload_n 0, 1) := by decide +kernel
theorem dX3_init_32 : decode cX3_init 32 = .ok (.iconst 0, 1) := by decide +kernel
theorem dX3_init_33 : decode cX3_init 33 = .ok (.putfield 29, 3) := by decide +kernel
theorem dX3_init_36 : decode cX3_init 36 = .ok (.aload_n 0, 1) := by decide +kernel
theorem dX3_init_37 : decode cX3_init 37 = .ok (.iconst 0, 1) := by decide +kernel
theorem dX3_init_38 : decode cX3_init 38 = .ok (.putfield 32, 3) := by decide +kernel
theorem dX3_init_41 : decode cX3_init 41 = .ok (.aload_n 0, 1) := by decide +kernel
theorem dX3_init_42 : decode cX3_init 42 = .ok (.iconst (-1), 1) := by decide +kernel
theorem dX3_init_43 : decode cX3_init 43 = .ok (.putfield 36, 3) := by decide +kernel
theorem dX3_init_46 : decode cX3_init 46 = .ok (.aload_n 0, 1) := by decide +kernel
theorem dX3_init_47 : decode cX3_init 47 = .ok (.iconst 0, 1) := by decide +kernel
theorem dX3_init_48 : decode cX3_init 48 = .ok (.putfield 39, 3) := by decide +kernel
theorem dX3_init_51 : decode cX3_init 51 = .ok (.aload_n 0, 1) := by decide +kernel
theorem dX3_init_52 : decode cX3_init 52 = .ok (.iconst 0, 1) := by decide +kernel
theorem dX3_init_53 : decode cX3_init 53 = .ok (.putfield 42, 3) := by decide +kernel
theorem dX3_init_56 : decode cX3_init 56 = .ok (.aload_n 0, 1) := by decide +kernel
theorem dX3_init_57 : decode cX3_init 57 = .ok (.iconst 0, 1) := by decide +kernel
theorem dX3_init_58 : decode cX3_init 58 = .ok (.putfield 45, 3) := by decide +kernel
theorem dX3_init_61 : decode cX3_init 61 = .ok (.aload_n 0, 1) := by decide +kernel
theorem dX3_init_62 : decode cX3_init 62 = .ok (.iconst 0, 1) := by decide +kernel
theorem dX3_init_63 : decode cX3_init 63 = .ok (.putfield 48, 3) := by decide +kernel
theorem dX3_init_66 : decode cX3_init 66 = .ok (.aload_n 0, 1) := by decide +kernel
theorem dX3_init_67 : decode cX3_init 67 = .ok (.iconst 0, 1) := by decide +kernel
theorem dX3_init_68 : decode cX3_init 68 = .ok (.putfield 51, 3) := by decide +kernel
theorem dX3_init_71 : decode cX3_init 71 = .ok (.aload_n 0, 1) := by decide +kernel
theorem dX3_init_72 : decode cX3_init 72 = .ok (.iconst 0, 1) := by decide +kernel
theorem dX3_init_73 : decode cX3_init 73 = .ok (.putfield 54, 3) := by decide +kernel
theorem dX3_init_76 : decode cX3_init 76 = .ok (.return_, 1) := by decide +kernel
set_option maxRecDepth 20000 in
theorem ggX3_accept_X0_isComma : GoodIn wsX3_accept wsX0_isComma := goodIn_r _ [8] (by decide +kernel) (by decide +kernel)
set_option maxRecDepth 20000 in
theorem gX3_accept_X0_isComma : GoodIn wsX3_accept (va_wsS RX3 57 yX0_isComma wsX0_isComma) := goodIn_app (goodIn_of _ (by decide +kernel)) ggX3_accept_X0_isComma
set_option maxRecDepth 20000 in
theorem ggX3_accept_X3_readGroup : GoodIn wsX3_accept wsX3_readGroup := goodIn_r _ [13, 1, 4, 2, 14, 15, 16, 17, 7, 18, 19, 20, 21, 22, 23, 24, 25, 26, 27, 28, 29, 30, 31, 32, 33, 34, 35, 36, 37, 38, 39, 40, 41, 42, 43, 44, 45, 46, 47, 48, 49, 50, 51, 52, 53, 54, 55, 134, 135, 136, 137, 138, 139, 140, 141, 142, 143, 144, 145] (by decide +kernel) (by decide +kernel)
set_option maxRecDepth 20000 in
theorem gX3_accept_X3_readGroup : GoodIn wsX3_accept (wsV RX3 63 RX3 yX3_readGroup wsX3_readGroup) := goodIn_app (goodIn_of _ (by decide +kernel)) ggX3_accept_X3_readGroup
set_option maxRecDepth 20000 in
theorem ggX3_accept_X3_laterGroup : GoodIn wsX3_accept wsX3_laterGroup := goodIn_r _ [59, 60, 3, 61, 62, 63, 64, 65, 12, 66, 67, 68, 69, 70, 71, 72, 73, 74, 75, 76, 77, 78, 79, 80, 81, 82, 83, 84, 85, 86, 87, 88, 89, 90, 91, 92, 93, 94, 95, 96, 97, 98, 99, 100, 101, 102, 103, 104, 105, 106, 107, 108, 109, 110, 111, 112, 113, 114, 115, 116, 117, 118, 119, 120, 121, 122, 123, 124, 125, 126, 134, 135, 136, 137, 138, 139, 140, 141, 142, 143, 144, 145, 146, 147, 148, 149, 150, 151, 152, 153, 154, 155, 156, 157, 158] (by decide +kernel) (by decide +kernel)
set_option maxRecDepth 20000 in
theorem gX3_accept_X3_laterGroup : GoodIn wsX3_accept (wsV RX3 67 RX3 yX3_laterGroup wsX3_laterGroup) := goodIn_app (goodIn_of _ (by decide +kernel)) ggX3_accept_X3_laterGroup
set_option maxRecDepth 20000 in
theorem ggX3_accept_X0_leanBeforeComma : GoodIn wsX3_accept wsX0_leanBeforeComma := goodIn_r _ [129] (by decide +kernel) (by decide +kernel)
set_option maxRecDepth 20000 in
theorem gX3_accept_X0_leanBeforeComma : GoodIn wsX3_accept (va_wsS RX3 71 yX0_leanBeforeComma wsX0_leanBeforeComma) := goodIn_app (goodIn_of _ (by decide +kernel)) ggX3_accept_X0_leanBeforeComma
set_option maxRecDepth 20000 in
theorem ggX3_accept_X3_firstGroup : GoodIn wsX3_accept wsX3_firstGroup := goodIn_r _ [133, 60, 3, 69, 70, 71, 12, 72, 67, 73, 62, 74, 75, 76, 77, 78, 79, 80, 81, 82, 83, 84, 85, 86, 87, 88, 134, 135, 136, 137, 138, 139, 140, 141, 142, 143, 144, 145, 146, 147, 148, 149, 150, 151, 152, 153, 154] (by decide +kernel) (by decide +kernel)
set_option maxRecDepth 20000 in
theorem gX3_accept_X3_firstGroup : GoodIn wsX3_accept (wsV RX3 75 RX3 yX3_firstGroup wsX3_firstGroup) := goodIn_app (goodIn_of _ (by decide +kernel)) ggX3_accept_X3_firstGroup
theorem dX3_accept_0 : decode cX3_accept 0 = .ok (.aload_n 0, 1) := by decide +kernel
theorem dX3_accept_1 : decode cX3_accept 1 = .ok (.aload_n 0, 1) := by decide +kernel
theorem dX3_accept_2 : decode cX3_accept 2 = .ok (.getfield 25, 3) := by decide +kernel
theorem dX3_accept_5 : decode cX3_accept 5 = .ok (.iconst 1, 1) := by decide +kernel
theorem dX3_accept_6 : decode cX3_accept 6 = .ok (.ishl, 1) := by decide +kernel
theorem dX3_accept_7 : decode cX3_accept 7 = .ok (.iload_n 1, 1) := by decide +kernel
theorem dX3_accept_8 : decode cX3_accept 8 = .ok (.iconst 1, 1) := by decide +kernel
theorem dX3_accept_9 : decode cX3_accept 9 = .ok (.iand, 1) := by decide +kernel
theorem dX3_accept_10 : decode cX3_accept 10 = .ok (.ior, 1) := by decide +kernel
theorem dX3_accept_11 : decode cX3_accept 11 = .ok (.sipush 1023, 3) := by decide +kernel
theorem dX3_accept_14 : decode cX3_accept 14 = .ok (.iand, 1) := by decide +kernel
theorem dX3_accept_15 : decode cX3_accept 15 = .ok (.putfield 25, 3) := by decide +kernel
theorem dX3_accept_18 : decode cX3_accept 18 = .ok (.aload_n 0, 1) := by decide +kernel
theorem dX3_accept_19 : decode cX3_accept 19 = .ok (.getfield 29, 3) := by decide +kernel
theorem dX3_accept_22 : decode cX3_accept 22 = .ok (.bipush 10, 2) := by decide +kernel
theorem dX3_accept_24 : decode cX3_accept 24 = .ok (.if_icmp .ge 13, 3) := by decide +kernel
theorem dX3_accept_27 : decode cX3_accept 27 = .ok (.aload_n 0, 1) := by decide +kernel
theorem dX3_accept_28 : decode cX3_accept 28 = .ok (.dup, 1) := by decide +kernel
theorem dX3_accept_29 : decode cX3_accept 29 = .ok (.getfield 29, 3) := by decide +kernel
theorem dX3_accept_32 : decode cX3_accept 32 = .ok (.iconst 1, 1) := by decide +kernel
theorem dX3_accept_33 : decode cX3_accept 33 = .ok (.iadd, 1) := by decide +kernel
theorem dX3_accept_34 : decode cX3_accept 34 = .ok (.putfield 29, 3) := by decide +kernel
theorem dX3_accept_37 : decode cX3_accept 37 = .ok (.aload_n 0, 1) := by decide +kernel
theorem dX3_accept_38 : decode cX3_accept 38 = .ok (.getfield 29, 3) := by decide +kernel
theorem dX3_accept_41 : decode cX3_accept 41 = .ok (.bipush 10, 2) := by decide +kernel
theorem dX3_accept_43 : decode cX3_accept 43 = .ok (.if_icmp .ge 4, 3) := by decide +kernel
theorem dX3_accept_46 : decode cX3_accept 46 = .ok (.return_, 1) := by decide +kernel
theorem dX3_accept_47 : decode cX3_accept 47 = .ok (.aload_n 0, 1) := by decide +kernel
theorem dX3_accept_48 : decode cX3_accept 48 = .ok (.getfield 25, 3) := by decide +kernel
theorem dX3_accept_51 : decode cX3_accept 51 = .ok (.invokestatic 57, 3) := by decide +kernel
theorem dX3_accept_54 : decode cX3_accept 54 = .ok (.istore_n 2, 1) := by decide +kernel
theorem dX3_accept_55 : decode cX3_accept 55 = .ok (.aload_n 0, 1) := by decide +kernel
theorem dX3_accept_56 : decode cX3_accept 56 = .ok (.getfield 39, 3) := by decide +kernel
theorem dX3_accept_59 : decode cX3_accept 59 = .ok (.ifCond .le 15, 3) := by decide +kernel
theorem dX3_accept_62 : decode cX3_accept 62 = .ok (.aload_n 0, 1) := by decide +kernel
theorem dX3_accept_63 : decode cX3_accept 63 = .ok (.aload_n 0, 1) := by decide +kernel
theorem dX3_accept_64 : decode cX3_accept 64 = .ok (.invokevirtual 63, 3) := by decide +kernel
theorem dX3_accept_67 : decode cX3_accept 67 = .ok (.iload_n 2, 1) := by decide +kernel
theorem dX3_accept_68 : decode cX3_accept 68 = .ok (.invokevirtual 67, 3) := by decide +kernel
theorem dX3_accept_71 : decode cX3_accept 71 = .ok (.goto 26, 3) := by decide +kernel
theorem dX3_accept_74 : decode cX3_accept 74 = .ok (.iload_n 2, 1) := by decide +kernel
theorem dX3_accept_75 : decode cX3_accept 75 = .ok (.ifCond .eq 22, 3) := by decide +kernel
theorem dX3_accept_78 : decode cX3_accept 78 = .ok (.aload_n 0, 1) := by decide +kernel
theorem dX3_accept_79 : decode cX3_accept 79 = .ok (.aload_n 0, 1) := by decide +kernel
theorem dX3_accept_80 : decode cX3_accept 80 = .ok (.getfield 25, 3) := by decide +kernel
theorem dX3_accept_83 : decode cX3_accept 83 = .ok (.invokestatic 71, 3) := by decide +kernel
theorem dX3_accept_86 : decode cX3_accept 86 = .ok (.putfield 36, 3) := by decide +kernel
theorem dX3_accept_89 : decode cX3_accept 89 = .ok (.aload_n 0, 1) := by decide +kernel
theorem dX3_accept_90 : decode cX3_accept 90 = .ok (.aload_n 0, 1) := by decide +kernel
theorem dX3_accept_91 : decode cX3_accept 91 = .ok (.invokevirtual 63, 3) := by decide +kernel
theorem dX3_accept_94 : decode cX3_accept 94 = .ok (.invokevirtual 75, 3) := by decide +kernel
theorem dX3_accept_97 : decode cX3_accept 97 = .ok (.return_, 1) := by decide +kernel
set_option maxRecDepth 20000 in
theorem ggX3_firstGroup_X3_searchAgain : GoodIn wsX3_firstGroup wsX3_searchAgain := goodIn_r _ [7, 2, 8, 9, 10, 11, 12, 13, 14, 15, 16, 17, 18, 19, 20, 21, 22, 23, 24, 25, 26, 27, 28, 29, 30, 31, 32, 33, 34, 35, 36, 37, 38, 39, 40, 41, 42, 43, 44, 45, 46] (by decide +kernel) (by decide +kernel)
set_option maxRecDepth 20000 in
theorem gX3_firstGroup_X3_searchAgain : GoodIn wsX3_firstGroup (wsV RX3 79 RX3 yX3_searchAgain wsX3_searchAgain) := goodIn_app (goodIn_of _ (by decide +kernel)) ggX3_firstGroup_X3_searchAgain
theorem dX3_firstGroup_0 : decode cX3_firstGroup 0 = .ok (.aload_n 0, 1) := by decide +kernel
theorem dX3_firstGroup_1 : decode cX3_firstGroup 1 = .ok (.iconst 1, 1) := by decide +kernel
theorem dX3_firstGroup_2 : decode cX3_firstGroup 2 = .ok (.putfield 32, 3) := by decide +kernel
theorem dX3_firstGroup_5 : decode cX3_firstGroup 5 = .ok (.iload_n 1, 1) := by decide +kernel
theorem dX3_firstGroup_6 : decode cX3_firstGroup 6 = .ok (.iconst (-1), 1) := by decide +kernel
theorem dX3_firstGroup_7 : decode cX3_firstGroup 7 = .ok (.if_icmp .ne 10, 3) := by decide +kernel
theorem dX3_firstGroup_10 : decode cX3_firstGroup 10 = .ok (.aload_n 0, 1) := by decide +kernel
theorem dX3_firstGroup_11 : decode cX3_firstGroup 11 = .ok (.invokevirtual 79, 3) := by decide +kernel
theorem dX3_firstGroup_14 : decode cX3_firstGroup 14 = .ok (.goto 8, 3) := by decide +kernel
theorem dX3_firstGroup_17 : decode cX3_firstGroup 17 = .ok (.aload_n 0, 1) := by decide +kernel
theorem dX3_firstGroup_18 : decode cX3_firstGroup 18 = .ok (.iconst 1, 1) := by decide +kernel
theorem dX3_firstGroup_19 : decode cX3_firstGroup 19 = .ok (.putfield 39, 3) := by decide +kernel
theorem dX3_firstGroup_22 : decode cX3_firstGroup 22 = .ok (.return_, 1) := by decide +kernel
set_option maxRecDepth 20000 in
theorem ggX3_laterGroup_X3_climb : GoodIn wsX3_laterGroup wsX3_climb := goodIn_r _ [9, 2, 10, 11, 12, 13, 14, 8, 15, 16, 4, 17, 18, 19, 20, 21, 22, 23, 24, 25, 26, 27, 28, 29, 30, 31, 70, 71, 72, 73, 74, 75, 76, 77, 78, 79, 80, 81, 82, 83, 84, 85, 86, 87, 88, 89, 90] (by decide +kernel) (by decide +kernel)
set_option maxRecDepth 20000 in
theorem gX3_laterGroup_X3_climb : GoodIn wsX3_laterGroup (wsV RX3 82 RX3 yX3_climb wsX3_climb) := goodIn_app (goodIn_of _ (by decide +kernel)) ggX3_laterGroup_X3_climb
set_option maxRecDepth 20000 in
theorem ggX3_laterGroup_X5_keep : GoodIn wsX3_laterGroup wsX5_keep := goodIn_r _ [36, 37, 38, 39, 40, 41, 42, 43, 44, 91, 92, 93, 94] (by decide +kernel) (by decide +kernel)
set_option maxRecDepth 20000 in
theorem gX3_laterGroup_X5_keep : GoodIn wsX3_laterGroup (wsV RX3 86 RX5 yX5_keep wsX5_keep) := goodIn_app (goodIn_of _ (by decide +kernel)) ggX3_laterGroup_X5_keep
set_option maxRecDepth 20000 in
theorem ggX3_laterGroup_X1_look : GoodIn wsX3_laterGroup wsX1_look := goodIn_r _ [48, 22, 49, 23, 24, 25, 20, 26, 27, 28, 29, 30, 31, 50, 18, 19, 21, 51, 52, 53, 54, 55, 56, 57, 58, 59, 60, 61, 62, 63, 64, 82, 83, 84, 85, 86, 87, 88, 89, 90] (by decide +kernel) (by decide +kernel)
set_option maxRecDepth 20000 in
theorem gX3_laterGroup_X1_look : GoodIn wsX3_laterGroup (wsV RX3 89 RX1 yX1_look wsX1_look) := goodIn_app (goodIn_of _ (by decide +kernel)) ggX3_laterGroup_X1_look
set_option maxRecDepth 20000 in
theorem ggX3_laterGroup_X3_weigh : GoodIn wsX3_laterGroup wsX3_weigh := goodIn_r _ [68, 11, 10, 69, 41, 42, 43, 12, 13, 14, 8, 15, 2, 16, 4, 17, 18, 19, 20, 21, 22, 23, 24, 25, 26, 27, 28, 29, 30, 31, 70, 71, 72, 73, 74, 75, 76, 77, 78, 79, 80, 81, 82, 83, 84, 85, 86, 87, 88, 89, 90] (by decide +kernel) (by decide +kernel)
set_option maxRecDepth 20000 in
theorem gX3_laterGroup_X3_weigh : GoodIn wsX3_laterGroup (wsV RX3 92 RX3 yX3_weigh wsX3_weigh) := goodIn_app (goodIn_of _ (by decide +kernel)) ggX3_laterGroup_X3_weigh
theorem dX3_laterGroup_0 : decode cX3_laterGroup 0 = .ok (.aload_n 0, 1) := by decide +kernel
theorem dX3_laterGroup_1 : decode cX3_laterGroup 1 = .ok (.aload_n 0, 1) := by decide +kernel
theorem dX3_laterGroup_2 : decode cX3_laterGroup 2 = .ok (.getfield 32, 3) := by decide +kernel
theorem dX3_laterGroup_5 : decode cX3_laterGroup 5 = .ok (.ifCond .ne 7, 3) := by decide +kernel
theorem dX3_laterGroup_8 : decode cX3_laterGroup 8 = .ok (.iconst 1, 1) := by decide +kernel
theorem dX3_laterGroup_9 : decode cX3_laterGroup 9 = .ok (.goto 4, 3) := by decide +kernel
theorem dX3_laterGroup_12 : decode cX3_laterGroup 12 = .ok (.iconst 0, 1) := by decide +kernel
theorem dX3_laterGroup_13 : decode cX3_laterGroup 13 = .ok (.putfield 32, 3) := by decide +kernel
theorem dX3_laterGroup_16 : decode cX3_laterGroup 16 = .ok (.iload_n 1, 1) := by decide +kernel
theorem dX3_laterGroup_17 : decode cX3_laterGroup 17 = .ok (.iconst (-1), 1) := by decide +kernel
theorem dX3_laterGroup_18 : decode cX3_laterGroup 18 = .ok (.if_icmp .eq 14, 3) := by decide +kernel
theorem dX3_laterGroup_21 : decode cX3_laterGroup 21 = .ok (.iload_n 2, 1) := by decide +kernel
theorem dX3_laterGroup_22 : decode cX3_laterGroup 22 = .ok (.ifCond .eq 14, 3) := by decide +kernel
theorem dX3_laterGroup_25 : decode cX3_laterGroup 25 = .ok (.aload_n 0, 1) := by decide +kernel
theorem dX3_laterGroup_26 : decode cX3_laterGroup 26 = .ok (.getfield 32, 3) := by decide +kernel
theorem dX3_laterGroup_29 : decode cX3_laterGroup 29 = .ok (.ifCond .ne 7, 3) := by decide +kernel
theorem dX3_laterGroup_32 : decode cX3_laterGroup 32 = .ok (.iconst 1, 1) := by decide +kernel
theorem dX3_laterGroup_33 : decode cX3_laterGroup 33 = .ok (.goto 4, 3) := by decide +kernel
theorem dX3_laterGroup_36 : decode cX3_laterGroup 36 = .ok (.iconst 0, 1) := by decide +kernel
theorem dX3_laterGroup_37 : decode cX3_laterGroup 37 = .ok (.istore_n 3, 1) := by decide +kernel
theorem dX3_laterGroup_38 : decode cX3_laterGroup 38 = .ok (.aload_n 0, 1) := by decide +kernel
theorem dX3_laterGroup_39 : decode cX3_laterGroup 39 = .ok (.getfield 39, 3) := by decide +kernel
theorem dX3_laterGroup_42 : decode cX3_laterGroup 42 = .ok (.iconst 3, 1) := by decide +kernel
theorem dX3_laterGroup_43 : decode cX3_laterGroup 43 = .ok (.if_icmp .ge 12, 3) := by decide +kernel
theorem dX3_laterGroup_46 : decode cX3_laterGroup 46 = .ok (.aload_n 0, 1) := by decide +kernel
theorem dX3_laterGroup_47 : decode cX3_laterGroup 47 = .ok (.iload_n 2, 1) := by decide +kernel
theorem dX3_laterGroup_48 : decode cX3_laterGroup 48 = .ok (.iload_n 3, 1) := by decide +kernel
theorem dX3_laterGroup_49 : decode cX3_laterGroup 49 = .ok (.invokevirtual 82, 3) := by decide +kernel
theorem dX3_laterGroup_52 : decode cX3_laterGroup 52 = .ok (.goto 24, 3) := by decide +kernel
theorem dX3_laterGroup_55 : decode cX3_laterGroup 55 = .ok (.aload_n 0, 1) := by decide +kernel
theorem dX3_laterGroup_56 : decode cX3_laterGroup 56 = .ok (.getfield 12, 3) := by decide +kernel
theorem dX3_laterGroup_59 : decode cX3_laterGroup 59 = .ok (.iload_n 1, 1) := by decide +kernel
theorem dX3_laterGroup_60 : decode cX3_laterGroup 60 = .ok (.invokevirtual 86, 3) := by decide +kernel
theorem dX3_laterGroup_63 : decode cX3_laterGroup 63 = .ok (.aload_n 0, 1) := by decide +kernel
theorem dX3_laterGroup_64 : decode cX3_laterGroup 64 = .ok (.getfield 21, 3) := by decide +kernel
theorem dX3_laterGroup_67 : decode cX3_laterGroup 67 = .ok (.iload_n 1, 1) := by decide +kernel
theorem dX3_laterGroup_68 : decode cX3_laterGroup 68 = .ok (.invokevirtual 89, 3) := by decide +kernel
theorem dX3_laterGroup_71 : decode cX3_laterGroup 71 = .ok (.aload_n 0, 1) := by decide +kernel
theorem dX3_laterGroup_72 : decode cX3_laterGroup 72 = .ok (.iload_n 3, 1) := by decide +kernel
theorem dX3_laterGroup_73 : decode cX3_laterGroup 73 = .ok (.invokevirtual 92, 3) := by decide +kernel
theorem dX3_laterGroup_76 : decode cX3_laterGroup 76 = .ok (.return_, 1) := by decide +kernel
set_option maxRecDepth 20000 in
theorem ggX3_readGroup_X0_symbolOf : GoodIn wsX3_readGroup wsX0_symbolOf := goodIn_r _ [9, 10, 11, 8, 12, 13, 14, 15, 16, 17, 18, 19, 20, 21, 22, 23, 24, 25, 26, 27, 28, 29, 30, 31, 32, 33, 34, 35, 36, 37, 38, 39, 40] (by decide +kernel) (by decide +kernel)
set_option maxRecDepth 20000 in
theorem gX3_readGroup_X0_symbolOf : GoodIn wsX3_readGroup (va_wsS RX3 96 yX0_symbolOf wsX0_symbolOf) := goodIn_app (goodIn_of _ (by decide +kernel)) ggX3_readGroup_X0_symbolOf
set_option maxRecDepth 20000 in
theorem ggX3_readGroup_X0_behindGroup : GoodIn wsX3_readGroup wsX0_behindGroup := goodIn_r _ [43, 18, 19, 8, 20, 21, 22, 23, 24, 25, 26, 27, 44, 45, 46] (by decide +kernel) (by decide +kernel)
set_option maxRecDepth 20000 in
theorem gX3_readGroup_X0_behindGroup : GoodIn wsX3_readGroup (va_wsS RX3 100 yX0_behindGroup wsX0_behindGroup) := goodIn_app (goodIn_of _ (by decide +kernel)) ggX3_readGroup_X0_behindGroup
theorem dX3_readGroup_0 : decode cX3_readGroup 0 = .ok (.aload_n 0, 1) := by decide +kernel
theorem dX3_readGroup_1 : decode cX3_readGroup 1 = .ok (.getfield 25, 3) := by decide +kernel
theorem dX3_readGroup_4 : decode cX3_readGroup 4 = .ok (.aload_n 0, 1) := by decide +kernel
theorem dX3_readGroup_5 : decode cX3_readGroup 5 = .ok (.getfield 36, 3) := by decide +kernel
theorem dX3_readGroup_8 : decode cX3_readGroup 8 = .ok (.invokestatic 96, 3) := by decide +kernel
theorem dX3_readGroup_11 : decode cX3_readGroup 11 = .ok (.istore_n 1, 1) := by decide +kernel
theorem dX3_readGroup_12 : decode cX3_readGroup 12 = .ok (.aload_n 0, 1) := by decide +kernel
theorem dX3_readGroup_13 : decode cX3_readGroup 13 = .ok (.aload_n 0, 1) := by decide +kernel
theorem dX3_readGroup_14 : decode cX3_readGroup 14 = .ok (.getfield 25, 3) := by decide +kernel
theorem dX3_readGroup_17 : decode cX3_readGroup 17 = .ok (.aload_n 0, 1) := by decide +kernel
theorem dX3_readGroup_18 : decode cX3_readGroup 18 = .ok (.getfield 36, 3) := by decide +kernel
theorem dX3_readGroup_21 : decode cX3_readGroup 21 = .ok (.invokestatic 100, 3) := by decide +kernel
theorem dX3_readGroup_24 : decode cX3_readGroup 24 = .ok (.putfield 36, 3) := by decide +kernel
theorem dX3_readGroup_27 : decode cX3_readGroup 27 = .ok (.aload_n 0, 1) := by decide +kernel
theorem dX3_readGroup_28 : decode cX3_readGroup 28 = .ok (.iconst 0, 1) := by decide +kernel
theorem dX3_readGroup_29 : decode cX3_readGroup 29 = .ok (.putfield 29, 3) := by decide +kernel
theorem dX3_readGroup_32 : decode cX3_readGroup 32 = .ok (.aload_n 0, 1) := by decide +kernel
theorem dX3_readGroup_33 : decode cX3_readGroup 33 = .ok (.dup, 1) := by decide +kernel
theorem dX3_readGroup_34 : decode cX3_readGroup 34 = .ok (.getfield 48, 3) := by decide +kernel
theorem dX3_readGroup_37 : decode cX3_readGroup 37 = .ok (.iconst 1, 1) := by decide +kernel
theorem dX3_readGroup_38 : decode cX3_readGroup 38 = .ok (.iadd, 1) := by decide +kernel
theorem dX3_readGroup_39 : decode cX3_readGroup 39 = .ok (.putfield 48, 3) := by decide +kernel
theorem dX3_readGroup_42 : decode cX3_readGroup 42 = .ok (.iload_n 1, 1) := by decide +kernel
theorem dX3_readGroup_43 : decode cX3_readGroup 43 = .ok (.iconst (-1), 1) := by decide +kernel
theorem dX3_readGroup_44 : decode cX3_readGroup 44 = .ok (.if_icmp .ne 13, 3) := by decide +kernel
theorem dX3_readGroup_47 : decode cX3_readGroup 47 = .ok (.aload_n 0, 1) := by decide +kernel
theorem dX3_readGroup_48 : decode cX3_readGroup 48 = .ok (.dup, 1) := by decide +kernel
theorem dX3_readGroup_49 : decode cX3_readGroup 49 = .ok (.getfield 51, 3) := by decide +kernel
theorem dX3_readGroup_52 : decode cX3_readGroup 52 = .ok (.iconst 1, 1) := by decide +kernel
theorem dX3_readGroup_53 : decode cX3_readGroup 53 = .ok (.iadd, 1) := by decide +kernel
theorem dX3_readGroup_54 : decode cX3_readGroup 54 = .ok (.putfield 51, 3) := by decide +kernel
theorem dX3_readGroup_57 : decode cX3_readGroup 57 = .ok (.iload_n 1, 1) := by decide +kernel
theorem dX3_readGroup_58 : decode cX3_readGroup 58 = .ok (.ireturn, 1) := by decide +kernel
set_option maxRecDepth 20000 in
theorem ggX3_climb_X3_searchAgain : GoodIn wsX3_climb wsX3_searchAgain := goodIn_r _ [8, 1, 2, 9, 10, 11, 12, 13, 14, 15, 16, 17, 18, 19, 20, 21, 22, 23, 24, 25, 26, 27, 28, 29, 30, 31, 32, 33, 34, 35, 36, 37, 38, 39, 40, 41, 42, 43, 44, 45, 46] (by decide +kernel) (by decide +kernel)
set_option maxRecDepth 20000 in
theorem gX3_climb_X3_searchAgain : GoodIn wsX3_climb (wsV RX3 79 RX3 yX3_searchAgain wsX3_searchAgain) := goodIn_app (goodIn_of _ (by decide +kernel)) ggX3_climb_X3_searchAgain
theorem dX3_climb_0 : decode cX3_climb 0 = .ok (.iload_n 2, 1) := by decide +kernel
theorem dX3_climb_1 : decode cX3_climb 1 = .ok (.ifCond .eq 10, 3) := by decide +kernel
theorem dX3_climb_4 : decode cX3_climb 4 = .ok (.aload_n 0, 1) := by decide +kernel
theorem dX3_climb_5 : decode cX3_climb 5 = .ok (.invokevirtual 79, 3) := by decide +kernel
theorem dX3_climb_8 : decode cX3_climb 8 = .ok (.goto 39, 3) := by decide +kernel
theorem dX3_climb_11 : decode cX3_climb 11 = .ok (.iload_n 1, 1) := by decide +kernel
theorem dX3_climb_12 : decode cX3_climb 12 = .ok (.ifCond .eq 35, 3) := by decide +kernel
theorem dX3_climb_15 : decode cX3_climb 15 = .ok (.aload_n 0, 1) := by decide +kernel
theorem dX3_climb_16 : decode cX3_climb 16 = .ok (.dup, 1) := by decide +kernel
theorem dX3_climb_17 : decode cX3_climb 17 = .ok (.getfield 39, 3) := by decide +kernel
theorem dX3_climb_20 : decode cX3_climb 20 = .ok (.iconst 1, 1) := by decide +kernel
theorem dX3_climb_21 : decode cX3_climb 21 = .ok (.iadd, 1) := by decide +kernel
theorem dX3_climb_22 : decode cX3_climb 22 = .ok (.putfield 39, 3) := by decide +kernel
theorem dX3_climb_25 : decode cX3_climb 25 = .ok (.aload_n 0, 1) := by decide +kernel
theorem dX3_climb_26 : decode cX3_climb 26 = .ok (.aload_n 0, 1) := by decide +kernel
theorem dX3_climb_27 : decode cX3_climb 27 = .ok (.getfield 39, 3) := by decide +kernel
theorem dX3_climb_30 : decode cX3_climb 30 = .ok (.iconst 3, 1) := by decide +kernel
theorem dX3_climb_31 : decode cX3_climb 31 = .ok (.if_icmp .ne 7, 3) := by decide +kernel
theorem dX3_climb_34 : decode cX3_climb 34 = .ok (.iconst 4, 1) := by decide +kernel
theorem dX3_climb_35 : decode cX3_climb 35 = .ok (.goto 4, 3) := by decide +kernel
theorem dX3_climb_38 : decode cX3_climb 38 = .ok (.iconst 0, 1) := by decide +kernel
theorem dX3_climb_39 : decode cX3_climb 39 = .ok (.putfield 42, 3) := by decide +kernel
theorem dX3_climb_42 : decode cX3_climb 42 = .ok (.aload_n 0, 1) := by decide +kernel
theorem dX3_climb_43 : decode cX3_climb 43 = .ok (.iconst 0, 1) := by decide +kernel
theorem dX3_climb_44 : decode cX3_climb 44 = .ok (.putfield 45, 3) := by decide +kernel
theorem dX3_climb_47 : decode cX3_climb 47 = .ok (.return_, 1) := by decide +kernel
set_option maxRecDepth 20000 in
theorem ggX3_weigh_X3_searchAgain : GoodIn wsX3_weigh wsX3_searchAgain := goodIn_r _ [11, 12, 2, 13, 14, 15, 16, 17, 18, 19, 20, 21, 22, 23, 24, 25, 26, 27, 28, 29, 30, 31, 32, 33, 34, 35, 36, 37, 38, 39, 40, 41, 42, 43, 44, 45, 46, 47, 48, 49, 50] (by decide +kernel) (by decide +kernel)
set_option maxRecDepth 20000 in
theorem gX3_weigh_X3_searchAgain : GoodIn wsX3_weigh (wsV RX3 79 RX3 yX3_searchAgain wsX3_searchAgain) := goodIn_app (goodIn_of _ (by decide +kernel)) ggX3_weigh_X3_searchAgain
theorem dX3_weigh_0 : decode cX3_weigh 0 = .ok (.iload_n 1, 1) := by decide +kernel
theorem dX3_weigh_1 : decode cX3_weigh 1 = .ok (.ifCond .eq 30, 3) := by decide +kernel
theorem dX3_weigh_4 : decode cX3_weigh 4 = .ok (.aload_n 0, 1) := by decide +kernel
theorem dX3_weigh_5 : decode cX3_weigh 5 = .ok (.iconst 0, 1) := by decide +kernel
theorem dX3_weigh_6 : decode cX3_weigh 6 = .ok (.putfield 45, 3) := by decide +kernel
theorem dX3_weigh_9 : decode cX3_weigh 9 = .ok (.aload_n 0, 1) := by decide +kernel
theorem dX3_weigh_10 : decode cX3_weigh 10 = .ok (.dup, 1) := by decide +kernel
theorem dX3_weigh_11 : decode cX3_weigh 11 = .ok (.getfield 42, 3) := by decide +kernel
theorem dX3_weigh_14 : decode cX3_weigh 14 = .ok (.iconst 1, 1) := by decide +kernel
theorem dX3_weigh_15 : decode cX3_weigh 15 = .ok (.isub, 1) := by decide +kernel
theorem dX3_weigh_16 : decode cX3_weigh 16 = .ok (.putfield 42, 3) := by decide +kernel
theorem dX3_weigh_19 : decode cX3_weigh 19 = .ok (.aload_n 0, 1) := by decide +kernel
theorem dX3_weigh_20 : decode cX3_weigh 20 = .ok (.getfield 42, 3) := by decide +kernel
theorem dX3_weigh_23 : decode cX3_weigh 23 = .ok (.ifCond .ne 7, 3) := by decide +kernel
theorem dX3_weigh_26 : decode cX3_weigh 26 = .ok (.aload_n 0, 1) := by decide +kernel
theorem dX3_weigh_27 : decode cX3_weigh 27 = .ok (.invokevirtual 79, 3) := by decide +kernel
theorem dX3_weigh_30 : decode cX3_weigh 30 = .ok (.return_, 1) := by decide +kernel
theorem dX3_weigh_31 : decode cX3_weigh 31 = .ok (.aload_n 0, 1) := by decide +kernel
theorem dX3_weigh_32 : decode cX3_weigh 32 = .ok (.dup, 1) := by decide +kernel
theorem dX3_weigh_33 : decode cX3_weigh 33 = .ok (.getfield 45, 3) := by decide +kernel
theorem dX3_weigh_36 : decode cX3_weigh 36 = .ok (.iconst 1, 1) := by decide +kernel
theorem dX3_weigh_37 : decode cX3_weigh 37 = .ok (.iadd, 1) := by decide +kernel
theorem dX3_weigh_38 : decode cX3_weigh 38 = .ok (.putfield 45, 3) := by decide +kernel
theorem dX3_weigh_41 : decode cX3_weigh 41 = .ok (.aload_n 0, 1) := by decide +kernel
theorem dX3_weigh_42 : decode cX3_weigh 42 = .ok (.getfield 45, 3) := by decide +kernel
theorem dX3_weigh_45 : decode cX3_weigh 45 = .ok (.iconst 4, 1) := by decide +kernel
theorem dX3_weigh_46 : decode cX3_weigh 46 = .ok (.if_icmp .ne 22, 3) := by decide +kernel
theorem dX3_weigh_49 : decode cX3_weigh 49 = .ok (.aload_n 0, 1) := by decide +kernel
theorem dX3_weigh_50 : decode cX3_weigh 50 = .ok (.iconst 0, 1) := by decide +kernel
theorem dX3_weigh_51 : decode cX3_weigh 51 = .ok (.putfield 45, 3) := by decide +kernel
theorem dX3_weigh_54 : decode cX3_weigh 54 = .ok (.aload_n 0, 1) := by decide +kernel
theorem dX3_weigh_55 : decode cX3_weigh 55 = .ok (.aload_n 0, 1) := by decide +kernel
theorem dX3_weigh_56 : decode cX3_weigh 56 = .ok (.getfield 42, 3) := by decide +kernel
theorem dX3_weigh_59 : decode cX3_weigh 59 = .ok (.iconst 1, 1) := by decide +kernel
theorem dX3_weigh_60 : decode cX3_weigh 60 = .ok (.iadd, 1) := by decide +kernel
theorem dX3_weigh_61 : decode cX3_weigh 61 = .ok (.iconst 4, 1) := by decide +kernel
theorem dX3_weigh_62 : decode cX3_weigh 62 = .ok (.invokestatic 103, 3) := by decide +kernel
theorem dX3_weigh_65 : decode cX3_weigh 65 = .ok (.putfield 42, 3) := by decide +kernel
theorem dX3_weigh_68 : decode cX3_weigh 68 = .ok (.return_, 1) := by decide +kernel
set_option maxRecDepth 20000 in
theorem ggX3_searchAgain_X1_lose : GoodIn wsX3_searchAgain wsX1_lose := goodIn_r _ [9, 10, 11, 12, 13, 8, 14, 15, 16, 17, 18, 19, 32, 33, 34, 35, 36, 37, 38, 39, 40] (by decide +kernel) (by decide +kernel)
set_option maxRecDepth 20000 in
theorem gX3_searchAgain_X1_lose : GoodIn wsX3_searchAgain (wsV RX3 108 RX1 yX1_lose wsX1_lose) := goodIn_app (goodIn_of _ (by decide +kernel)) ggX3_searchAgain_X1_lose
theorem dX3_searchAgain_0 : decode cX3_searchAgain 0 = .ok (.aload_n 0, 1) := by decide +kernel
theorem dX3_searchAgain_1 : decode cX3_searchAgain 1 = .ok (.iconst 0, 1) := by decide +kernel
theorem dX3_searchAgain_2 : decode cX3_searchAgain 2 = .ok (.putfield 39, 3) := by decide +kernel
theorem dX3_searchAgain_5 : decode cX3_searchAgain 5 = .ok (.aload_n 0, 1) := by decide +kernel
theorem dX3_searchAgain_6 : decode cX3_searchAgain 6 = .ok (.iconst 0, 1) := by decide +kernel
theorem dX3_searchAgain_7 : decode cX3_searchAgain 7 = .ok (.putfield 42, 3) := by decide +kernel
theorem dX3_searchAgain_10 : decode cX3_searchAgain 10 = .ok (.aload_n 0, 1) := by decide +kernel
theorem dX3_searchAgain_11 : decode cX3_searchAgain 11 = .ok (.dup, 1) := by decide +kernel
theorem dX3_searchAgain_12 : decode cX3_searchAgain 12 = .ok (.getfield 54, 3) := by decide +kernel
theorem dX3_searchAgain_15 : decode cX3_searchAgain 15 = .ok (.iconst 1, 1) := by decide +kernel
theorem dX3_searchAgain_16 : decode cX3_searchAgain 16 = .ok (.iadd, 1) := by decide +kernel
theorem dX3_searchAgain_17 : decode cX3_searchAgain 17 = .ok (.putfield 54, 3) := by decide +kernel
theorem dX3_searchAgain_20 : decode cX3_searchAgain 20 = .ok (.aload_n 0, 1) := by decide +kernel
theorem dX3_searchAgain_21 : decode cX3_searchAgain 21 = .ok (.getfield 21, 3) := by decide +kernel
theorem dX3_searchAgain_24 : decode cX3_searchAgain 24 = .ok (.invokevirtual 108, 3) := by decide +kernel
theorem dX3_searchAgain_27 : decode cX3_searchAgain 27 = .ok (.return_, 1) := by decide +kernel
theorem dX4_init_0 : decode cX4_init 0 = .ok (.aload_n 0, 1) := by decide +kernel
theorem dX4_init_1 : decode cX4_init 1 = .ok (.invokespecial 3, 3) := by decide +kernel
theorem dX4_init_4 : decode cX4_init 4 = .ok (.aload_n 0, 1) := by decide +kernel
theorem dX4_init_5 : decode cX4_init 5 = .ok (.sipush 400, 3) := by decide +kernel
theorem dX4_init_8 : decode cX4_init 8 = .ok (.newarray .int, 2) := by decide +kernel
theorem dX4_init_10 : decode cX4_init 10 = .ok (.putfield 11, 3) := by decide +kernel
theorem dX4_init_13 : decode cX4_init 13 = .ok (.aload_n 0, 1) := by decide +kernel
theorem dX4_init_14 : decode cX4_init 14 = .ok (.iconst 0, 1) := by decide +kernel
theorem dX4_init_15 : decode cX4_init 15 = .ok (.putfield 15, 3) := by decide +kernel
theorem dX4_init_18 : decode cX4_init 18 = .ok (.aload_n 0, 1) := by decide +kernel
theorem dX4_init_19 : decode cX4_init 19 = .ok (.iconst (-1), 1) := by decide +kernel
theorem dX4_init_20 : decode cX4_init 20 = .ok (.putfield 19, 3) := by decide +kernel
theorem dX4_init_23 : decode cX4_init 23 = .ok (.aload_n 0, 1) := by decide +kernel
theorem dX4_init_24 : decode cX4_init 24 = .ok (.iconst 0, 1) := by decide +kernel
theorem dX4_init_25 : decode cX4_init 25 = .ok (.putfield 22, 3) := by decide +kernel
theorem dX4_init_28 : decode cX4_init 28 = .ok (.return_, 1) := by decide +kernel
set_option maxRecDepth 20000 in
theorem ggX4_put_X0_groupOf : GoodIn wsX4_put wsX0_groupOf := goodIn_r _ [6, 7, 8, 5, 9, 10, 11, 12, 13, 14, 15, 16, 17, 18, 19, 20, 21, 22, 23, 24, 25, 26, 27, 28] (by decide +kernel) (by decide +kernel)
set_option maxRecDepth 20000 in
theorem gX4_put_X0_groupOf : GoodIn wsX4_put (va_wsS RX4 25 yX0_groupOf wsX0_groupOf) := goodIn_app (goodIn_of _ (by decide +kernel)) ggX4_put_X0_groupOf
set_option maxRecDepth 20000 in
theorem ggX4_put_X2_append : GoodIn wsX4_put wsX2_append := goodIn_r _ [33, 34, 35, 46, 47] (by decide +kernel) (by decide +kernel)
set_option maxRecDepth 20000 in
theorem gX4_put_X2_append : GoodIn wsX4_put (wsV RX4 31 RX2 yX2_append wsX2_append) := goodIn_app (goodIn_of _ (by decide +kernel)) ggX4_put_X2_append
set_option maxRecDepth 20000 in
theorem ggX4_put_X0_behindGroup : GoodIn wsX4_put wsX0_behindGroup := goodIn_r _ [38, 12, 13, 5, 14, 15, 16, 17, 18, 19, 20, 21, 39, 40, 41] (by decide +kernel) (by decide +kernel)
set_option maxRecDepth 20000 in
theorem gX4_put_X0_behindGroup : GoodIn wsX4_put (va_wsS RX4 37 yX0_behindGroup wsX0_behindGroup) := goodIn_app (goodIn_of _ (by decide +kernel)) ggX4_put_X0_behindGroup
theorem dX4_put_0 : decode cX4_put 0 = .ok (.iload_n 1, 1) := by decide +kernel
theorem dX4_put_1 : decode cX4_put 1 = .ok (.iload_n 2, 1) := by decide +kernel
theorem dX4_put_2 : decode cX4_put 2 = .ok (.aload_n 0, 1) := by decide +kernel
theorem dX4_put_3 : decode cX4_put 3 = .ok (.getfield 19, 3) := by decide +kernel
theorem dX4_put_6 : decode cX4_put 6 = .ok (.invokestatic 25, 3) := by decide +kernel
theorem dX4_put_9 : decode cX4_put 9 = .ok (.istore 4, 2) := by decide +kernel
theorem dX4_put_11 : decode cX4_put 11 = .ok (.bipush 9, 2) := by decide +kernel
theorem dX4_put_13 : decode cX4_put 13 = .ok (.istore 5, 2) := by decide +kernel
theorem dX4_put_15 : decode cX4_put 15 = .ok (.iload 5, 2) := by decide +kernel
theorem dX4_put_17 : decode cX4_put 17 = .ok (.ifCond .lt 21, 3) := by decide +kernel
theorem dX4_put_20 : decode cX4_put 20 = .ok (.aload_n 3, 1) := by decide +kernel
theorem dX4_put_21 : decode cX4_put 21 = .ok (.iload 4, 2) := by decide +kernel
theorem dX4_put_23 : decode cX4_put 23 = .ok (.iload 5, 2) := by decide +kernel
theorem dX4_put_25 : decode cX4_put 25 = .ok (.ishr, 1) := by decide +kernel
theorem dX4_put_26 : decode cX4_put 26 = .ok (.iconst 1, 1) := by decide +kernel
theorem dX4_put_27 : decode cX4_put 27 = .ok (.iand, 1) := by decide +kernel
theorem dX4_put_28 : decode cX4_put 28 = .ok (.invokevirtual 31, 3) := by decide +kernel
theorem dX4_put_31 : decode cX4_put 31 = .ok (.pop, 1) := by decide +kernel
theorem dX4_put_32 : decode cX4_put 32 = .ok (.iinc 5 (-1), 3) := by decide +kernel
theorem dX4_put_35 : decode cX4_put 35 = .ok (.goto (-20), 3) := by decide +kernel
theorem dX4_put_38 : decode cX4_put 38 = .ok (.aload_n 0, 1) := by decide +kernel
theorem dX4_put_39 : decode cX4_put 39 = .ok (.iload 4, 2) := by decide +kernel
theorem dX4_put_41 : decode cX4_put 41 = .ok (.aload_n 0, 1) := by decide +kernel
theorem dX4_put_42 : decode cX4_put 42 = .ok (.getfield 19, 3) := by decide +kernel
theorem dX4_put_45 : decode cX4_put 45 = .ok (.invokestatic 37, 3) := by decide +kernel
theorem dX4_put_48 : decode cX4_put 48 = .ok (.putfield 19, 3) := by decide +kernel
theorem dX4_put_51 : decode cX4_put 51 = .ok (.aload_n 0, 1) := by decide +kernel
theorem dX4_put_52 : decode cX4_put 52 = .ok (.dup, 1) := by decide +kernel
theorem dX4_put_53 : decode cX4_put 53 = .ok (.getfield 22, 3) := by decide +kernel
theorem dX4_put_56 : decode cX4_put 56 = .ok (.iconst 1, 1) := by decide +kernel
theorem dX4_put_57 : decode cX4_put 57 = .ok (.iadd, 1) := by decide +kernel
theorem dX4_put_58 : decode cX4_put 58 = .ok (.putfield 22, 3) := by decide +kernel
theorem dX4_put_61 : decode cX4_put 61 = .ok (.iload 4, 2) := by decide +kernel
theorem dX4_put_63 : decode cX4_put 63 = .ok (.ireturn, 1) := by decide +kernel
set_option maxRecDepth 20000 in
theorem ggX4_putIdle_X2_hasRoomFor : GoodIn wsX4_putIdle wsX2_hasRoomFor := goodIn_r _ [6, 7, 55, 56] (by decide +kernel) (by decide +kernel)
set_option maxRecDepth 20000 in
theorem gX4_putIdle_X2_hasRoomFor : GoodIn wsX4_putIdle (wsV RX4 41 RX2 yX2_hasRoomFor wsX2_hasRoomFor) := goodIn_app (goodIn_of _ (by decide +kernel)) ggX4_putIdle_X2_hasRoomFor
set_option maxRecDepth 20000 in
theorem ggX4_putIdle_X4_put : GoodIn wsX4_putIdle wsX4_put := goodIn_r _ [12, 1, 13, 14, 15, 16, 17, 18, 19, 20, 21, 22, 23, 24, 25, 26, 27, 28, 29, 30, 31, 32, 33, 34, 35, 36, 37, 38, 39, 40, 41, 42, 5, 43, 7, 44, 45, 46, 47, 48, 49, 50, 51, 52, 53, 54, 55, 56] (by decide +kernel) (by decide +kernel)
set_option maxRecDepth 20000 in
theorem gX4_putIdle_X4_put : GoodIn wsX4_putIdle (wsV RX4 44 RX4 yX4_put wsX4_put) := goodIn_app (goodIn_of _ (by decide +kernel)) ggX4_putIdle_X4_put
theorem dX4_putIdle_0 : decode cX4_putIdle 0 = .ok (.aload_n 1, 1) := by decide +kernel
theorem dX4_putIdle_1 : decode cX4_putIdle 1 = .ok (.bipush 20, 2) := by decide +kernel
theorem dX4_putIdle_3 : decode cX4_putIdle 3 = .ok (.invokevirtual 41, 3) := by decide +kernel
theorem dX4_putIdle_6 : decode cX4_putIdle 6 = .ok (.ifCond .ne 5, 3) := by decide +kernel
theorem dX4_putIdle_9 : decode cX4_putIdle 9 = .ok (.iconst 0, 1) := by decide +kernel
theorem dX4_putIdle_10 : decode cX4_putIdle 10 = .ok (.ireturn, 1) := by decide +kernel
theorem dX4_putIdle_11 : decode cX4_putIdle 11 = .ok (.aload_n 0, 1) := by decide +kernel
theorem dX4_putIdle_12 : decode cX4_putIdle 12 = .ok (.getfield 19, 3) := by decide +kernel
theorem dX4_putIdle_15 : decode cX4_putIdle 15 = .ok (.ifCond .le 9, 3) := by decide +kernel
theorem dX4_putIdle_18 : decode cX4_putIdle 18 = .ok (.sipush 197, 3) := by decide +kernel
theorem dX4_putIdle_21 : decode cX4_putIdle 21 = .ok (.goto 5, 3) := by decide +kernel
theorem dX4_putIdle_24 : decode cX4_putIdle 24 = .ok (.bipush 80, 2) := by decide +kernel
theorem dX4_putIdle_26 : decode cX4_putIdle 26 = .ok (.istore_n 2, 1) := by decide +kernel
theorem dX4_putIdle_27 : decode cX4_putIdle 27 = .ok (.aload_n 0, 1) := by decide +kernel
theorem dX4_putIdle_28 : decode cX4_putIdle 28 = .ok (.sipush 188, 3) := by decide +kernel
theorem dX4_putIdle_31 : decode cX4_putIdle 31 = .ok (.iconst 1, 1) := by decide +kernel
theorem dX4_putIdle_32 : decode cX4_putIdle 32 = .ok (.aload_n 1, 1) := by decide +kernel
theorem dX4_putIdle_33 : decode cX4_putIdle 33 = .ok (.invokevirtual 44, 3) := by decide +kernel
theorem dX4_putIdle_36 : decode cX4_putIdle 36 = .ok (.pop, 1) := by decide +kernel
theorem dX4_putIdle_37 : decode cX4_putIdle 37 = .ok (.aload_n 0, 1) := by decide +kernel
theorem dX4_putIdle_38 : decode cX4_putIdle 38 = .ok (.iload_n 2, 1) := by decide +kernel
theorem dX4_putIdle_39 : decode cX4_putIdle 39 = .ok (.iconst 0, 1) := by decide +kernel
theorem dX4_putIdle_40 : decode cX4_putIdle 40 = .ok (.aload_n 1, 1) := by decide +kernel
theorem dX4_putIdle_41 : decode cX4_putIdle 41 = .ok (.invokevirtual 44, 3) := by decide +kernel
theorem dX4_putIdle_44 : decode cX4_putIdle 44 = .ok (.pop, 1) := by decide +kernel
theorem dX4_putIdle_45 : decode cX4_putIdle 45 = .ok (.iconst 1, 1) := by decide +kernel
theorem dX4_putIdle_46 : decode cX4_putIdle 46 = .ok (.ireturn, 1) := by decide +kernel
theorem dX4_keepOnTape_0 : decode cX4_keepOnTape 0 = .ok (.iload_n 1, 1) := by decide +kernel
theorem dX4_keepOnTape_1 : decode cX4_keepOnTape 1 = .ok (.ifCond .lt 27, 3) := by decide +kernel
theorem dX4_keepOnTape_4 : decode cX4_keepOnTape 4 = .ok (.iload_n 1, 1) := by decide +kernel
theorem dX4_keepOnTape_5 : decode cX4_keepOnTape 5 = .ok (.sipush 255, 3) := by decide +kernel
theorem dX4_keepOnTape_8 : decode cX4_keepOnTape 8 = .ok (.if_icmp .gt 20, 3) := by decide +kernel
theorem dX4_keepOnTape_11 : decode cX4_keepOnTape 11 = .ok (.aload_n 0, 1) := by decide +kernel
theorem dX4_keepOnTape_12 : decode cX4_keepOnTape 12 = .ok (.getfield 15, 3) := by decide +kernel
theorem dX4_keepOnTape_15 : decode cX4_keepOnTape 15 = .ok (.ifCond .lt 13, 3) := by decide +kernel
theorem dX4_keepOnTape_18 : decode cX4_keepOnTape 18 = .ok (.aload_n 0, 1) := by decide +kernel
theorem dX4_keepOnTape_19 : decode cX4_keepOnTape 19 = .ok (.getfield 15, 3) := by decide +kernel
theorem dX4_keepOnTape_22 : decode cX4_keepOnTape 22 = .ok (.sipush 400, 3) := by decide +kernel
theorem dX4_keepOnTape_25 : decode cX4_keepOnTape 25 = .ok (.if_icmp .lt 5, 3) := by decide +kernel
theorem dX4_keepOnTape_28 : decode cX4_keepOnTape 28 = .ok (.iconst 0, 1) := by decide +kernel
theorem dX4_keepOnTape_29 : decode cX4_keepOnTape 29 = .ok (.ireturn, 1) := by decide +kernel
theorem dX4_keepOnTape_30 : decode cX4_keepOnTape 30 = .ok (.aload_n 0, 1) := by decide +kernel
theorem dX4_keepOnTape_31 : decode cX4_keepOnTape 31 = .ok (.getfield 11, 3) := by decide +kernel
theorem dX4_keepOnTape_34 : decode cX4_keepOnTape 34 = .ok (.aload_n 0, 1) := by decide +kernel
theorem dX4_keepOnTape_35 : decode cX4_keepOnTape 35 = .ok (.getfield 15, 3) := by decide +kernel
theorem dX4_keepOnTape_38 : decode cX4_keepOnTape 38 = .ok (.iload_n 1, 1) := by decide +kernel
theorem dX4_keepOnTape_39 : decode cX4_keepOnTape 39 = .ok (.iastore, 1) := by decide +kernel
theorem dX4_keepOnTape_40 : decode cX4_keepOnTape 40 = .ok (.aload_n 0, 1) := by decide +kernel
theorem dX4_keepOnTape_41 : decode cX4_keepOnTape 41 = .ok (.dup, 1) := by decide +kernel
theorem dX4_keepOnTape_42 : decode cX4_keepOnTape 42 = .ok (.getfield 15, 3) := by decide +kernel
theorem dX4_keepOnTape_45 : decode cX4_keepOnTape 45 = .ok (.iconst 1, 1) := by decide +kernel
theorem dX4_keepOnTape_46 : decode cX4_keepOnTape 46 = .ok (.iadd, 1) := by decide +kernel
theorem dX4_keepOnTape_47 : decode cX4_keepOnTape 47 = .ok (.putfield 15, 3) := by decide +kernel
theorem dX4_keepOnTape_50 : decode cX4_keepOnTape 50 = .ok (.iconst 1, 1) := by decide +kernel
theorem dX4_keepOnTape_51 : decode cX4_keepOnTape 51 = .ok (.ireturn, 1) := by decide +kernel
set_option maxRecDepth 20000 in
theorem ggX4_putFrame_X4_frameGroups : GoodIn wsX4_putFrame wsX4_frameGroups := goodIn_r _ [8, 1, 3, 57, 58, 59, 60] (by decide +kernel) (by decide +kernel)
set_option maxRecDepth 20000 in
theorem gX4_putFrame_X4_frameGroups : GoodIn wsX4_putFrame (wsV RX4 48 RX4 yX4_frameGroups wsX4_frameGroups) := goodIn_app (goodIn_of _ (by decide +kernel)) ggX4_putFrame_X4_frameGroups
set_option maxRecDepth 20000 in
theorem ggX4_putFrame_X2_hasRoomFor : GoodIn wsX4_putFrame wsX2_hasRoomFor := goodIn_r _ [13, 14, 61, 62] (by decide +kernel) (by decide +kernel)
set_option maxRecDepth 20000 in
theorem gX4_putFrame_X2_hasRoomFor : GoodIn wsX4_putFrame (wsV RX4 41 RX2 yX2_hasRoomFor wsX2_hasRoomFor) := goodIn_app (goodIn_of _ (by decide +kernel)) ggX4_putFrame_X2_hasRoomFor
set_option maxRecDepth 20000 in
theorem ggX4_putFrame_X4_put : GoodIn wsX4_putFrame wsX4_put := goodIn_r _ [18, 19, 3, 20, 21, 22, 23, 24, 25, 26, 27, 28, 29, 30, 31, 32, 33, 34, 35, 36, 37, 38, 39, 40, 41, 42, 43, 44, 45, 46, 47, 48, 12, 49, 14, 50, 51, 52, 53, 54, 55, 56, 57, 58, 59, 60, 61, 62] (by decide +kernel) (by decide +kernel)
set_option maxRecDepth 20000 in
theorem gX4_putFrame_X4_put : GoodIn wsX4_putFrame (wsV RX4 44 RX4 yX4_put wsX4_put) := goodIn_app (goodIn_of _ (by decide +kernel)) ggX4_putFrame_X4_put
theorem dX4_putFrame_0 : decode cX4_putFrame 0 = .ok (.aload_n 0, 1) := by decide +kernel
theorem dX4_putFrame_1 : decode cX4_putFrame 1 = .ok (.invokevirtual 48, 3) := by decide +kernel
theorem dX4_putFrame_4 : decode cX4_putFrame 4 = .ok (.istore_n 2, 1) := by decide +kernel
theorem dX4_putFrame_5 : decode cX4_putFrame 5 = .ok (.aload_n 1, 1) := by decide +kernel
theorem dX4_putFrame_6 : decode cX4_putFrame 6 = .ok (.iload_n 2, 1) := by decide +kernel
theorem dX4_putFrame_7 : decode cX4_putFrame 7 = .ok (.bipush 10, 2) := by decide +kernel
theorem dX4_putFrame_9 : decode cX4_putFrame 9 = .ok (.imul, 1) := by decide +kernel
theorem dX4_putFrame_10 : decode cX4_putFrame 10 = .ok (.invokevirtual 41, 3) := by decide +kernel
theorem dX4_putFrame_13 : decode cX4_putFrame 13 = .ok (.ifCond .ne 5, 3) := by decide +kernel
theorem dX4_putFrame_16 : decode cX4_putFrame 16 = .ok (.iconst (-1), 1) := by decide +kernel
theorem dX4_putFrame_17 : decode cX4_putFrame 17 = .ok (.ireturn, 1) := by decide +kernel
theorem dX4_putFrame_18 : decode cX4_putFrame 18 = .ok (.aload_n 0, 1) := by decide +kernel
theorem dX4_putFrame_19 : decode cX4_putFrame 19 = .ok (.sipush 251, 3) := by decide +kernel
theorem dX4_putFrame_22 : decode cX4_putFrame 22 = .ok (.iconst 1, 1) := by decide +kernel
theorem dX4_putFrame_23 : decode cX4_putFrame 23 = .ok (.aload_n 1, 1) := by decide +kernel
theorem dX4_putFrame_24 : decode cX4_putFrame 24 = .ok (.invokevirtual 44, 3) := by decide +kernel
theorem dX4_putFrame_27 : decode cX4_putFrame 27 = .ok (.pop, 1) := by decide +kernel
theorem dX4_putFrame_28 : decode cX4_putFrame 28 = .ok (.iconst 0, 1) := by decide +kernel
theorem dX4_putFrame_29 : decode cX4_putFrame 29 = .ok (.istore_n 3, 1) := by decide +kernel
theorem dX4_putFrame_30 : decode cX4_putFrame 30 = .ok (.iload_n 3, 1) := by decide +kernel
theorem dX4_putFrame_31 : decode cX4_putFrame 31 = .ok (.aload_n 0, 1) := by decide +kernel
theorem dX4_putFrame_32 : decode cX4_putFrame 32 = .ok (.getfield 15, 3) := by decide +kernel
theorem dX4_putFrame_35 : decode cX4_putFrame 35 = .ok (.if_icmp .ge 29, 3) := by decide +kernel
theorem dX4_putFrame_38 : decode cX4_putFrame 38 = .ok (.iload_n 3, 1) := by decide +kernel
theorem dX4_putFrame_39 : decode cX4_putFrame 39 = .ok (.sipush 400, 3) := by decide +kernel
theorem dX4_putFrame_42 : decode cX4_putFrame 42 = .ok (.if_icmp .ge 22, 3) := by decide +kernel
theorem dX4_putFrame_45 : decode cX4_putFrame 45 = .ok (.aload_n 0, 1) := by decide +kernel
theorem dX4_putFrame_46 : decode cX4_putFrame 46 = .ok (.aload_n 0, 1) := by decide +kernel
theorem dX4_putFrame_47 : decode cX4_putFrame 47 = .ok (.getfield 11, 3) := by decide +kernel
theorem dX4_putFrame_50 : decode cX4_putFrame 50 = .ok (.iload_n 3, 1) := by decide +kernel
theorem dX4_putFrame_51 : decode cX4_putFrame 51 = .ok (.iaload, 1) := by decide +kernel
theorem dX4_putFrame_52 : decode cX4_putFrame 52 = .ok (.iconst 0, 1) := by decide +kernel
theorem dX4_putFrame_53 : decode cX4_putFrame 53 = .ok (.aload_n 1, 1) := by decide +kernel
theorem dX4_putFrame_54 : decode cX4_putFrame 54 = .ok (.invokevirtual 44, 3) := by decide +kernel
theorem dX4_putFrame_57 : decode cX4_putFrame 57 = .ok (.pop, 1) := by decide +kernel
theorem dX4_putFrame_58 : decode cX4_putFrame 58 = .ok (.iinc 3 1, 3) := by decide +kernel
theorem dX4_putFrame_61 : decode cX4_putFrame 61 = .ok (.goto (-31), 3) := by decide +kernel
theorem dX4_putFrame_64 : decode cX4_putFrame 64 = .ok (.aload_n 0, 1) := by decide +kernel
theorem dX4_putFrame_65 : decode cX4_putFrame 65 = .ok (.sipush 253, 3) := by decide +kernel
theorem dX4_putFrame_68 : decode cX4_putFrame 68 = .ok (.iconst 1, 1) := by decide +kernel
theorem dX4_putFrame_69 : decode cX4_putFrame 69 = .ok (.aload_n 1, 1) := by decide +kernel
theorem dX4_putFrame_70 : decode cX4_putFrame 70 = .ok (.invokevirtual 44, 3) := by decide +kernel
theorem dX4_putFrame_73 : decode cX4_putFrame 73 = .ok (.pop, 1) := by decide +kernel
theorem dX4_putFrame_74 : decode cX4_putFrame 74 = .ok (.aload_n 0, 1) := by decide +kernel
theorem dX4_putFrame_75 : decode cX4_putFrame 75 = .ok (.sipush 247, 3) := by decide +kernel
theorem dX4_putFrame_78 : decode cX4_putFrame 78 = .ok (.iconst 1, 1) := by decide +kernel
theorem dX4_putFrame_79 : decode cX4_putFrame 79 = .ok (.aload_n 1, 1) := by decide +kernel
theorem dX4_putFrame_80 : decode cX4_putFrame 80 = .ok (.invokevirtual 44, 3) := by decide +kernel
theorem dX4_putFrame_83 : decode cX4_putFrame 83 = .ok (.pop, 1) := by decide +kernel
theorem dX4_putFrame_84 : decode cX4_putFrame 84 = .ok (.aload_n 0, 1) := by decide +kernel
theorem dX4_putFrame_85 : decode cX4_putFrame 85 = .ok (.getfield 22, 3) := by decide +kernel
theorem dX4_putFrame_88 : decode cX4_putFrame 88 = .ok (.iconst 1, 1) := by decide +kernel
theorem dX4_putFrame_89 : decode cX4_putFrame 89 = .ok (.iand, 1) := by decide +kernel
theorem dX4_putFrame_90 : decode cX4_putFrame 90 = .ok (.ifCond .eq 13, 3) := by decide +kernel
theorem dX4_putFrame_93 : decode cX4_putFrame 93 = .ok (.aload_n 0, 1) := by decide +kernel
theorem dX4_putFrame_94 : decode cX4_putFrame 94 = .ok (.sipush 247, 3) := by decide +kernel
theorem dX4_putFrame_97 : decode cX4_putFrame 97 = .ok (.iconst 1, 1) := by decide +kernel
theorem dX4_putFrame_98 : decode cX4_putFrame 98 = .ok (.aload_n 1, 1) := by decide +kernel
theorem dX4_putFrame_99 : decode cX4_putFrame 99 = .ok (.invokevirtual 44, 3) := by decide +kernel
theorem dX4_putFrame_102 : decode cX4_putFrame 102 = .ok (.pop, 1) := by decide +kernel
theorem dX4_putFrame_103 : decode cX4_putFrame 103 = .ok (.aload_n 0, 1) := by decide +kernel
theorem dX4_putFrame_104 : decode cX4_putFrame 104 = .ok (.iconst 0, 1) := by decide +kernel
theorem dX4_putFrame_105 : decode cX4_putFrame 105 = .ok (.putfield 15, 3) := by decide +kernel
theorem dX4_putFrame_108 : decode cX4_putFrame 108 = .ok (.iload_n 2, 1) := by decide +kernel
theorem dX4_putFrame_109 : decode cX4_putFrame 109 = .ok (.ireturn, 1) := by decide +kernel
theorem dX4_frameGroups_0 : decode cX4_frameGroups 0 = .ok (.aload_n 0, 1) := by decide +kernel
theorem dX4_frameGroups_1 : decode cX4_frameGroups 1 = .ok (.getfield 15, 3) := by decide +kernel
theorem dX4_frameGroups_4 : decode cX4_frameGroups 4 = .ok (.iconst 3, 1) := by decide +kernel
theorem dX4_frameGroups_5 : decode cX4_frameGroups 5 = .ok (.iadd, 1) := by decide +kernel
theorem dX4_frameGroups_6 : decode cX4_frameGroups 6 = .ok (.istore_n 1, 1) := by decide +kernel
theorem dX4_frameGroups_7 : decode cX4_frameGroups 7 = .ok (.iload_n 1, 1) := by decide +kernel
theorem dX4_frameGroups_8 : decode cX4_frameGroups 8 = .ok (.aload_n 0, 1) := by decide +kernel
theorem dX4_frameGroups_9 : decode cX4_frameGroups 9 = .ok (.getfield 22, 3) := by decide +kernel
theorem dX4_frameGroups_12 : decode cX4_frameGroups 12 = .ok (.iload_n 1, 1) := by decide +kernel
theorem dX4_frameGroups_13 : decode cX4_frameGroups 13 = .ok (.iadd, 1) := by decide +kernel
theorem dX4_frameGroups_14 : decode cX4_frameGroups 14 = .ok (.iconst 1, 1) := by decide +kernel
theorem dX4_frameGroups_15 : decode cX4_frameGroups 15 = .ok (.iand, 1) := by decide +kernel
theorem dX4_frameGroups_16 : decode cX4_frameGroups 16 = .ok (.iadd, 1) := by decide +kernel
theorem dX4_frameGroups_17 : decode cX4_frameGroups 17 = .ok (.ireturn, 1) := by decide +kernel
theorem dX5_init_0 : decode cX5_init 0 = .ok (.aload_n 0, 1) := by decide +kernel
theorem dX5_init_1 : decode cX5_init 1 = .ok (.invokespecial 3, 3) := by decide +kernel
theorem dX5_init_4 : decode cX5_init 4 = .ok (.aload_n 0, 1) := by decide +kernel
theorem dX5_init_5 : decode cX5_init 5 = .ok (.bipush 100, 2) := by decide +kernel
theorem dX5_init_7 : decode cX5_init 7 = .ok (.newarray .int, 2) := by decide +kernel
theorem dX5_init_9 : decode cX5_init 9 = .ok (.putfield 11, 3) := by decide +kernel
theorem dX5_init_12 : decode cX5_init 12 = .ok (.aload_n 0, 1) := by decide +kernel
theorem dX5_init_13 : decode cX5_init 13 = .ok (.iconst 0, 1) := by decide +kernel
theorem dX5_init_14 : decode cX5_init 14 = .ok (.putfield 15, 3) := by decide +kernel
theorem dX5_init_17 : decode cX5_init 17 = .ok (.aload_n 0, 1) := by decide +kernel
theorem dX5_init_18 : decode cX5_init 18 = .ok (.iconst 0, 1) := by decide +kernel
theorem dX5_init_19 : decode cX5_init 19 = .ok (.putfield 19, 3) := by decide +kernel
theorem dX5_init_22 : decode cX5_init 22 = .ok (.aload_n 0, 1) := by decide +kernel
theorem dX5_init_23 : decode cX5_init 23 = .ok (.iconst 0, 1) := by decide +kernel
theorem dX5_init_24 : decode cX5_init 24 = .ok (.putfield 22, 3) := by decide +kernel
theorem dX5_init_27 : decode cX5_init 27 = .ok (.return_, 1) := by decide +kernel
theorem dX5_keep_0 : decode cX5_keep 0 = .ok (.aload_n 0, 1) := by decide +kernel
theorem dX5_keep_1 : decode cX5_keep 1 = .ok (.getfield 15, 3) := by decide +kernel
theorem dX5_keep_4 : decode cX5_keep 4 = .ok (.ifCond .lt 12, 3) := by decide +kernel
theorem dX5_keep_7 : decode cX5_keep 7 = .ok (.aload_n 0, 1) := by decide +kernel
theorem dX5_keep_8 : decode cX5_keep 8 = .ok (.getfield 15, 3) := by decide +kernel
theorem dX5_keep_11 : decode cX5_keep 11 = .ok (.bipush 100, 2) := by decide +kernel
theorem dX5_keep_13 : decode cX5_keep 13 = .ok (.if_icmp .lt 4, 3) := by decide +kernel
theorem dX5_keep_16 : decode cX5_keep 16 = .ok (.return_, 1) := by decide +kernel
theorem dX5_keep_17 : decode cX5_keep 17 = .ok (.aload_n 0, 1) := by decide +kernel
theorem dX5_keep_18 : decode cX5_keep 18 = .ok (.getfield 11, 3) := by decide +kernel
theorem dX5_keep_21 : decode cX5_keep 21 = .ok (.aload_n 0, 1) := by decide +kernel
theorem dX5_keep_22 : decode cX5_keep 22 = .ok (.getfield 15, 3) := by decide +kernel
theorem dX5_keep_25 : decode cX5_keep 25 = .ok (.iload_n 1, 1) := by decide +kernel
theorem dX5_keep_26 : decode cX5_keep 26 = .ok (.iconst (-1), 1) := by decide +kernel
theorem dX5_keep_27 : decode cX5_keep 27 = .ok (.if_icmp .ne 9, 3) := by decide +kernel
theorem dX5_keep_30 : decode cX5_keep 30 = .ok (.sipush 512, 3) := by decide +kernel
theorem dX5_keep_33 : decode cX5_keep 33 = .ok (.goto 4, 3) := by decide +kernel
theorem dX5_keep_36 : decode cX5_keep 36 = .ok (.iload_n 1, 1) := by decide +kernel
theorem dX5_keep_37 : decode cX5_keep 37 = .ok (.iastore, 1) := by decide +kernel
theorem dX5_keep_38 : decode cX5_keep 38 = .ok (.aload_n 0, 1) := by decide +kernel
theorem dX5_keep_39 : decode cX5_keep 39 = .ok (.aload_n 0, 1) := by decide +kernel
theorem dX5_keep_40 : decode cX5_keep 40 = .ok (.getfield 15, 3) := by decide +kernel
theorem dX5_keep_43 : decode cX5_keep 43 = .ok (.iconst 1, 1) := by decide +kernel
theorem dX5_keep_44 : decode cX5_keep 44 = .ok (.iadd, 1) := by decide +kernel
theorem dX5_keep_45 : decode cX5_keep 45 = .ok (.bipush 100, 2) := by decide +kernel
theorem dX5_keep_47 : decode cX5_keep 47 = .ok (.irem, 1) := by decide +kernel
theorem dX5_keep_48 : decode cX5_keep 48 = .ok (.putfield 15, 3) := by decide +kernel
theorem dX5_keep_51 : decode cX5_keep 51 = .ok (.aload_n 0, 1) := by decide +kernel
theorem dX5_keep_52 : decode cX5_keep 52 = .ok (.aload_n 0, 1) := by decide +kernel
theorem dX5_keep_53 : decode cX5_keep 53 = .ok (.getfield 19, 3) := by decide +kernel
theorem dX5_keep_56 : decode cX5_keep 56 = .ok (.iconst 1, 1) := by decide +kernel
theorem dX5_keep_57 : decode cX5_keep 57 = .ok (.iadd, 1) := by decide +kernel
theorem dX5_keep_58 : decode cX5_keep 58 = .ok (.bipush 100, 2) := by decide +kernel
theorem dX5_keep_60 : decode cX5_keep 60 = .ok (.invokestatic 25, 3) := by decide +kernel
theorem dX5_keep_63 : decode cX5_keep 63 = .ok (.putfield 19, 3) := by decide +kernel
theorem dX5_keep_66 : decode cX5_keep 66 = .ok (.aload_n 0, 1) := by decide +kernel
theorem dX5_keep_67 : decode cX5_keep 67 = .ok (.dup, 1) := by decide +kernel
theorem dX5_keep_68 : decode cX5_keep 68 = .ok (.getfield 22, 3) := by decide +kernel
theorem dX5_keep_71 : decode cX5_keep 71 = .ok (.iconst 1, 1) := by decide +kernel
theorem dX5_keep_72 : decode cX5_keep 72 = .ok (.iadd, 1) := by decide +kernel
theorem dX5_keep_73 : decode cX5_keep 73 = .ok (.putfield 22, 3) := by decide +kernel
theorem dX5_keep_76 : decode cX5_keep 76 = .ok (.return_, 1) := by decide +kernel
theorem dX5_latest_0 : decode cX5_latest 0 = .ok (.iload_n 1, 1) := by decide +kernel
theorem dX5_latest_1 : decode cX5_latest 1 = .ok (.ifCond .lt 11, 3) := by decide +kernel
theorem dX5_latest_4 : decode cX5_latest 4 = .ok (.iload_n 1, 1) := by decide +kernel
theorem dX5_latest_5 : decode cX5_latest 5 = .ok (.aload_n 0, 1) := by decide +kernel
theorem dX5_latest_6 : decode cX5_latest 6 = .ok (.getfield 19, 3) := by decide +kernel
theorem dX5_latest_9 : decode cX5_latest 9 = .ok (.if_icmp .lt 5, 3) := by decide +kernel
theorem dX5_latest_12 : decode cX5_latest 12 = .ok (.iconst (-1), 1) := by decide +kernel
theorem dX5_latest_13 : decode cX5_latest 13 = .ok (.ireturn, 1) := by decide +kernel
theorem dX5_latest_14 : decode cX5_latest 14 = .ok (.aload_n 0, 1) := by decide +kernel
theorem dX5_latest_15 : decode cX5_latest 15 = .ok (.getfield 15, 3) := by decide +kernel
theorem dX5_latest_18 : decode cX5_latest 18 = .ok (.iconst 1, 1) := by decide +kernel
theorem dX5_latest_19 : decode cX5_latest 19 = .ok (.isub, 1) := by decide +kernel
theorem dX5_latest_20 : decode cX5_latest 20 = .ok (.iload_n 1, 1) := by decide +kernel
theorem dX5_latest_21 : decode cX5_latest 21 = .ok (.isub, 1) := by decide +kernel
theorem dX5_latest_22 : decode cX5_latest 22 = .ok (.istore_n 2, 1) := by decide +kernel
theorem dX5_latest_23 : decode cX5_latest 23 = .ok (.iload_n 2, 1) := by decide +kernel
theorem dX5_latest_24 : decode cX5_latest 24 = .ok (.ifCond .ge 6, 3) := by decide +kernel
theorem dX5_latest_27 : decode cX5_latest 27 = .ok (.iinc 2 100, 3) := by decide +kernel
theorem dX5_latest_30 : decode cX5_latest 30 = .ok (.iload_n 2, 1) := by decide +kernel
theorem dX5_latest_31 : decode cX5_latest 31 = .ok (.ifCond .lt 18, 3) := by decide +kernel
theorem dX5_latest_34 : decode cX5_latest 34 = .ok (.iload_n 2, 1) := by decide +kernel
theorem dX5_latest_35 : decode cX5_latest 35 = .ok (.bipush 100, 2) := by decide +kernel
theorem dX5_latest_37 : decode cX5_latest 37 = .ok (.if_icmp .ge 12, 3) := by decide +kernel
theorem dX5_latest_40 : decode cX5_latest 40 = .ok (.aload_n 0, 1) := by decide +kernel
theorem dX5_latest_41 : decode cX5_latest 41 = .ok (.getfield 11, 3) := by decide +kernel
theorem dX5_latest_44 : decode cX5_latest 44 = .ok (.iload_n 2, 1) := by decide +kernel
theorem dX5_latest_45 : decode cX5_latest 45 = .ok (.iaload, 1) := by decide +kernel
theorem dX5_latest_46 : decode cX5_latest 46 = .ok (.goto 4, 3) := by decide +kernel
theorem dX5_latest_49 : decode cX5_latest 49 = .ok (.iconst (-1), 1) := by decide +kernel
theorem dX5_latest_50 : decode cX5_latest 50 = .ok (.ireturn, 1) := by decide +kernel
set_option maxRecDepth 20000 in
theorem ggX6_init_X2_init : GoodIn wsX6_init wsX2_init := goodIn_r _ [17, 18, 2, 3, 19, 20, 21, 71, 72] (by decide +kernel) (by decide +kernel)
set_option maxRecDepth 20000 in
theorem gX6_init_X2_init_n9 : GoodIn wsX6_init (wsX2_init) := ggX6_init_X2_init
set_option maxRecDepth 20000 in
theorem ggX6_init_X4_init : GoodIn wsX6_init wsX4_init := goodIn_r _ [23, 24, 2, 3, 25, 26, 27, 28, 29, 76, 77, 78, 79] (by decide +kernel) (by decide +kernel)
set_option maxRecDepth 20000 in
theorem gX6_init_X4_init_n18 : GoodIn wsX6_init (wsX4_init) := ggX6_init_X4_init
set_option maxRecDepth 20000 in
theorem ggX6_init_X3_init : GoodIn wsX6_init wsX3_init := goodIn_r _ [31, 32, 2, 3, 33, 34, 35, 36, 37, 38, 39, 40, 41, 42, 43, 44, 45, 46, 47, 48, 49, 50, 51, 52, 53, 25, 54, 55, 56, 57, 58, 59, 60, 61, 62, 63, 64, 65, 66, 67, 68, 69, 70, 92, 93, 94, 95, 80, 81, 82, 83, 84, 85, 86, 87, 88, 89, 90, 91, 96, 97, 98, 99, 100, 101, 102, 103, 104] (by decide +kernel) (by decide +kernel)
set_option maxRecDepth 20000 in
theorem gX6_init_X3_init_n25 : GoodIn wsX6_init (wsX3_init) := ggX6_init_X3_init
theorem dX6_init_0 : decode cX6_init 0 = .ok (.aload_n 0, 1) := by decide +kernel
theorem dX6_init_1 : decode cX6_init 1 = .ok (.invokespecial 1, 3) := by decide +kernel
theorem dX6_init_4 : decode cX6_init 4 = .ok (.aload_n 0, 1) := by decide +kernel
theorem dX6_init_5 : decode cX6_init 5 = .ok (.new 7, 3) := by decide +kernel
theorem dX6_init_8 : decode cX6_init 8 = .ok (.dup, 1) := by decide +kernel
theorem dX6_init_9 : decode cX6_init 9 = .ok (.invokespecial 9, 3) := by decide +kernel
theorem dX6_init_12 : decode cX6_init 12 = .ok (.putfield 10, 3) := by decide +kernel
theorem dX6_init_15 : decode cX6_init 15 = .ok (.aload_n 0, 1) := by decide +kernel
theorem dX6_init_16 : decode cX6_init 16 = .ok (.new 16, 3) := by decide +kernel
theorem dX6_init_19 : decode cX6_init 19 = .ok (.dup, 1) := by decide +kernel
theorem dX6_init_20 : decode cX6_init 20 = .ok (.invokespecial 18, 3) := by decide +kernel
theorem dX6_init_23 : decode cX6_init 23 = .ok (.putfield 19, 3) := by decide +kernel
theorem dX6_init_26 : decode cX6_init 26 = .ok (.aload_n 0, 1) := by decide +kernel
theorem dX6_init_27 : decode cX6_init 27 = .ok (.new 23, 3) := by decide +kernel
theorem dX6_init_30 : decode cX6_init 30 = .ok (.dup, 1) := by decide +kernel
theorem dX6_init_31 : decode cX6_init 31 = .ok (.invokespecial 25, 3) := by decide +kernel
theorem dX6_init_34 : decode cX6_init 34 = .ok (.putfield 26, 3) := by decide +kernel
theorem dX6_init_37 : decode cX6_init 37 = .ok (.return_, 1) := by decide +kernel
set_option maxRecDepth 20000 in
theorem ggX6_send_X0_isSymbol : GoodIn wsX6_send wsX0_isSymbol := goodIn_r _ [6, 7, 8, 5, 9] (by decide +kernel) (by decide +kernel)
set_option maxRecDepth 20000 in
theorem gX6_send_X0_isSymbol : GoodIn wsX6_send (va_wsS RX6 30 yX0_isSymbol wsX0_isSymbol) := goodIn_app (goodIn_of _ (by decide +kernel)) ggX6_send_X0_isSymbol
set_option maxRecDepth 20000 in
theorem ggX6_send_X2_hasRoomFor : GoodIn wsX6_send wsX2_hasRoomFor := goodIn_r _ [14, 15, 62, 63] (by decide +kernel) (by decide +kernel)
set_option maxRecDepth 20000 in
theorem gX6_send_X2_hasRoomFor : GoodIn wsX6_send (wsV RX6 36 RX2 yX2_hasRoomFor wsX2_hasRoomFor) := goodIn_app (goodIn_of _ (by decide +kernel)) ggX6_send_X2_hasRoomFor
set_option maxRecDepth 20000 in
theorem ggX6_send_X4_put : GoodIn wsX6_send wsX4_put := goodIn_r _ [20, 21, 22, 23, 24, 5, 25, 26, 27, 28, 29, 30, 31, 32, 33, 34, 35, 36, 37, 38, 39, 40, 41, 42, 43, 44, 45, 46, 47, 48, 49, 50, 13, 51, 15, 52, 53, 54, 55, 56, 57, 58, 64, 65, 66, 67, 62, 63] (by decide +kernel) (by decide +kernel)
set_option maxRecDepth 20000 in
theorem gX6_send_X4_put : GoodIn wsX6_send (wsV RX6 40 RX4 yX4_put wsX4_put) := goodIn_app (goodIn_of _ (by decide +kernel)) ggX6_send_X4_put
theorem dX6_send_0 : decode cX6_send 0 = .ok (.iload_n 1, 1) := by decide +kernel
theorem dX6_send_1 : decode cX6_send 1 = .ok (.iload_n 2, 1) := by decide +kernel
theorem dX6_send_2 : decode cX6_send 2 = .ok (.invokestatic 30, 3) := by decide +kernel
theorem dX6_send_5 : decode cX6_send 5 = .ok (.ifCond .eq 15, 3) := by decide +kernel
theorem dX6_send_8 : decode cX6_send 8 = .ok (.aload_n 0, 1) := by decide +kernel
theorem dX6_send_9 : decode cX6_send 9 = .ok (.getfield 10, 3) := by decide +kernel
theorem dX6_send_12 : decode cX6_send 12 = .ok (.bipush 10, 2) := by decide +kernel
theorem dX6_send_14 : decode cX6_send 14 = .ok (.invokevirtual 36, 3) := by decide +kernel
theorem dX6_send_17 : decode cX6_send 17 = .ok (.ifCond .ne 5, 3) := by decide +kernel
theorem dX6_send_20 : decode cX6_send 20 = .ok (.iconst (-1), 1) := by decide +kernel
theorem dX6_send_21 : decode cX6_send 21 = .ok (.ireturn, 1) := by decide +kernel
theorem dX6_send_22 : decode cX6_send 22 = .ok (.aload_n 0, 1) := by decide +kernel
theorem dX6_send_23 : decode cX6_send 23 = .ok (.getfield 19, 3) := by decide +kernel
theorem dX6_send_26 : decode cX6_send 26 = .ok (.iload_n 1, 1) := by decide +kernel
theorem dX6_send_27 : decode cX6_send 27 = .ok (.iload_n 2, 1) := by decide +kernel
theorem dX6_send_28 : decode cX6_send 28 = .ok (.aload_n 0, 1) := by decide +kernel
theorem dX6_send_29 : decode cX6_send 29 = .ok (.getfield 10, 3) := by decide +kernel
theorem dX6_send_32 : decode cX6_send 32 = .ok (.invokevirtual 40, 3) := by decide +kernel
theorem dX6_send_35 : decode cX6_send 35 = .ok (.ireturn, 1) := by decide +kernel
set_option maxRecDepth 20000 in
theorem ggX6_idle_X4_putIdle : GoodIn wsX6_idle wsX4_putIdle := goodIn_r _ [7, 8, 9, 10, 11, 12, 13, 14, 15, 16, 17, 6, 18, 19, 20, 21, 22, 23, 24, 25, 26, 27, 28, 29, 30, 31, 32, 33, 34, 35, 36, 37, 38, 39, 40, 41, 42, 43, 44, 45, 46, 47, 48, 49, 50, 51, 52, 53, 54, 55, 56, 60, 61, 62, 63, 64, 65] (by decide +kernel) (by decide +kernel)
set_option maxRecDepth 20000 in
theorem gX6_idle_X4_putIdle : GoodIn wsX6_idle (wsV RX6 44 RX4 yX4_putIdle wsX4_putIdle) := goodIn_app (goodIn_of _ (by decide +kernel)) ggX6_idle_X4_putIdle
theorem dX6_idle_0 : decode cX6_idle 0 = .ok (.aload_n 0, 1) := by decide +kernel
theorem dX6_idle_1 : decode cX6_idle 1 = .ok (.getfield 19, 3) := by decide +kernel
theorem dX6_idle_4 : decode cX6_idle 4 = .ok (.aload_n 0, 1) := by decide +kernel
theorem dX6_idle_5 : decode cX6_idle 5 = .ok (.getfield 10, 3) := by decide +kernel
theorem dX6_idle_8 : decode cX6_idle 8 = .ok (.invokevirtual 44, 3) := by decide +kernel
theorem dX6_idle_11 : decode cX6_idle 11 = .ok (.ireturn, 1) := by decide +kernel
set_option maxRecDepth 20000 in
theorem ggX6_feed_X4_keepOnTape : GoodIn wsX6_feed wsX4_keepOnTape := goodIn_r _ [6, 7, 8, 12, 13, 14, 15] (by decide +kernel) (by decide +kernel)
set_option maxRecDepth 20000 in
theorem gX6_feed_X4_keepOnTape : GoodIn wsX6_feed (wsV RX6 48 RX4 yX4_keepOnTape wsX4_keepOnTape) := goodIn_app (goodIn_of _ (by decide +kernel)) ggX6_feed_X4_keepOnTape
theorem dX6_feed_0 : decode cX6_feed 0 = .ok (.aload_n 0, 1) := by decide +kernel
theorem dX6_feed_1 : decode cX6_feed 1 = .ok (.getfield 19, 3) := by decide +kernel
theorem dX6_feed_4 : decode cX6_feed 4 = .ok (.iload_n 1, 1) := by decide +kernel
theorem dX6_feed_5 : decode cX6_feed 5 = .ok (.invokevirtual 48, 3) := by decide +kernel
theorem dX6_feed_8 : decode cX6_feed 8 = .ok (.ireturn, 1) := by decide +kernel
set_option maxRecDepth 20000 in
theorem ggX6_frame_X4_putFrame : GoodIn wsX6_frame wsX4_putFrame := goodIn_r _ [7, 8, 9, 10, 11, 12, 13, 6, 14, 15, 16, 17, 18, 19, 20, 21, 22, 23, 24, 25, 26, 27, 28, 29, 30, 31, 32, 33, 34, 35, 36, 37, 38, 39, 40, 41, 42, 43, 44, 45, 46, 47, 48, 49, 50, 51, 52, 53, 54, 55, 56, 57, 58, 59, 60, 61, 62, 66, 67, 68, 69, 70, 71] (by decide +kernel) (by decide +kernel)
set_option maxRecDepth 20000 in
theorem gX6_frame_X4_putFrame : GoodIn wsX6_frame (wsV RX6 51 RX4 yX4_putFrame wsX4_putFrame) := goodIn_app (goodIn_of _ (by decide +kernel)) ggX6_frame_X4_putFrame
theorem dX6_frame_0 : decode cX6_frame 0 = .ok (.aload_n 0, 1) := by decide +kernel
theorem dX6_frame_1 : decode cX6_frame 1 = .ok (.getfield 19, 3) := by decide +kernel
theorem dX6_frame_4 : decode cX6_frame 4 = .ok (.aload_n 0, 1) := by decide +kernel
theorem dX6_frame_5 : decode cX6_frame 5 = .ok (.getfield 10, 3) := by decide +kernel
theorem dX6_frame_8 : decode cX6_frame 8 = .ok (.invokevirtual 51, 3) := by decide +kernel
theorem dX6_frame_11 : decode cX6_frame 11 = .ok (.ireturn, 1) := by decide +kernel
set_option maxRecDepth 20000 in
theorem ggX6_bit_X2_append : GoodIn wsX6_bit wsX2_append := goodIn_r _ [6, 7, 8, 12, 13] (by decide +kernel) (by decide +kernel)
set_option maxRecDepth 20000 in
theorem gX6_bit_X2_append : GoodIn wsX6_bit (wsV RX6 55 RX2 yX2_append wsX2_append) := goodIn_app (goodIn_of _ (by decide +kernel)) ggX6_bit_X2_append
theorem dX6_bit_0 : decode cX6_bit 0 = .ok (.iload_n 1, 1) := by decide +kernel
theorem dX6_bit_1 : decode cX6_bit 1 = .ok (.ifCond .eq 8, 3) := by decide +kernel
theorem dX6_bit_4 : decode cX6_bit 4 = .ok (.iload_n 1, 1) := by decide +kernel
theorem dX6_bit_5 : decode cX6_bit 5 = .ok (.iconst 1, 1) := by decide +kernel
theorem dX6_bit_6 : decode cX6_bit 6 = .ok (.if_icmp .ne 18, 3) := by decide +kernel
theorem dX6_bit_9 : decode cX6_bit 9 = .ok (.aload_n 0, 1) := by decide +kernel
theorem dX6_bit_10 : decode cX6_bit 10 = .ok (.getfield 10, 3) := by decide +kernel
theorem dX6_bit_13 : decode cX6_bit 13 = .ok (.iload_n 1, 1) := by decide +kernel
theorem dX6_bit_14 : decode cX6_bit 14 = .ok (.invokevirtual 55, 3) := by decide +kernel
theorem dX6_bit_17 : decode cX6_bit 17 = .ok (.ifCond .eq 7, 3) := by decide +kernel
theorem dX6_bit_20 : decode cX6_bit 20 = .ok (.iconst 1, 1) := by decide +kernel
theorem dX6_bit_21 : decode cX6_bit 21 = .ok (.goto 4, 3) := by decide +kernel
theorem dX6_bit_24 : decode cX6_bit 24 = .ok (.iconst 0, 1) := by decide +kernel
theorem dX6_bit_25 : decode cX6_bit 25 = .ok (.ireturn, 1) := by decide +kernel
set_option maxRecDepth 20000 in
theorem ggX6_turn_X2_flip : GoodIn wsX6_turn wsX2_flip := goodIn_r _ [6, 7, 8, 9, 10, 5, 11, 12, 16, 17] (by decide +kernel) (by decide +kernel)
set_option maxRecDepth 20000 in
theorem gX6_turn_X2_flip : GoodIn wsX6_turn (wsV RX6 58 RX2 yX2_flip wsX2_flip) := goodIn_app (goodIn_of _ (by decide +kernel)) ggX6_turn_X2_flip
theorem dX6_turn_0 : decode cX6_turn 0 = .ok (.aload_n 0, 1) := by decide +kernel
theorem dX6_turn_1 : decode cX6_turn 1 = .ok (.getfield 10, 3) := by decide +kernel
theorem dX6_turn_4 : decode cX6_turn 4 = .ok (.iload_n 1, 1) := by decide +kernel
theorem dX6_turn_5 : decode cX6_turn 5 = .ok (.invokevirtual 58, 3) := by decide +kernel
theorem dX6_turn_8 : decode cX6_turn 8 = .ok (.ireturn, 1) := by decide +kernel
set_option maxRecDepth 20000 in
theorem ggX6_drop_X2_leaveOut : GoodIn wsX6_drop wsX2_leaveOut := goodIn_r _ [6, 7, 8, 9, 10, 11, 12, 13, 14, 15, 5, 16, 20, 21] (by decide +kernel) (by decide +kernel)
set_option maxRecDepth 20000 in
theorem gX6_drop_X2_leaveOut : GoodIn wsX6_drop (wsV RX6 61 RX2 yX2_leaveOut wsX2_leaveOut) := goodIn_app (goodIn_of _ (by decide +kernel)) ggX6_drop_X2_leaveOut
theorem dX6_drop_0 : decode cX6_drop 0 = .ok (.aload_n 0, 1) := by decide +kernel
theorem dX6_drop_1 : decode cX6_drop 1 = .ok (.getfield 10, 3) := by decide +kernel
theorem dX6_drop_4 : decode cX6_drop 4 = .ok (.iload_n 1, 1) := by decide +kernel
theorem dX6_drop_5 : decode cX6_drop 5 = .ok (.invokevirtual 61, 3) := by decide +kernel
theorem dX6_drop_8 : decode cX6_drop 8 = .ok (.ireturn, 1) := by decide +kernel
set_option maxRecDepth 20000 in
theorem ggX6_line_X2_get : GoodIn wsX6_line wsX2_get := goodIn_r _ [6, 7, 8, 9, 10, 5, 11, 12, 16, 17] (by decide +kernel) (by decide +kernel)
set_option maxRecDepth 20000 in
theorem gX6_line_X2_get : GoodIn wsX6_line (wsV RX6 64 RX2 yX2_get wsX2_get) := goodIn_app (goodIn_of _ (by decide +kernel)) ggX6_line_X2_get
theorem dX6_line_0 : decode cX6_line 0 = .ok (.aload_n 0, 1) := by decide +kernel
theorem dX6_line_1 : decode cX6_line 1 = .ok (.getfield 10, 3) := by decide +kernel
theorem dX6_line_4 : decode cX6_line 4 = .ok (.iload_n 1, 1) := by decide +kernel
theorem dX6_line_5 : decode cX6_line 5 = .ok (.invokevirtual 64, 3) := by decide +kernel
theorem dX6_line_8 : decode cX6_line 8 = .ok (.ireturn, 1) := by decide +kernel
theorem dX6_size_0 : decode cX6_size 0 = .ok (.aload_n 0, 1) := by decide +kernel
theorem dX6_size_1 : decode cX6_size 1 = .ok (.getfield 10, 3) := by decide +kernel
theorem dX6_size_4 : decode cX6_size 4 = .ok (.getfield 68, 3) := by decide +kernel
theorem dX6_size_7 : decode cX6_size 7 = .ok (.ireturn, 1) := by decide +kernel
theorem dX6_disparity_0 : decode cX6_disparity 0 = .ok (.iload_n 1, 1) := by decide +kernel
theorem dX6_disparity_1 : decode cX6_disparity 1 = .ok (.lookupswitch 43 #[(0, 27), (1, 35)], 27) := by decide +kernel
theorem dX6_disparity_28 : decode cX6_disparity 28 = .ok (.aload_n 0, 1) := by decide +kernel
theorem dX6_disparity_29 : decode cX6_disparity 29 = .ok (.getfield 19, 3) := by decide +kernel
theorem dX6_disparity_32 : decode cX6_disparity 32 = .ok (.getfield 72, 3) := by decide +kernel
theorem dX6_disparity_35 : decode cX6_disparity 35 = .ok (.ireturn, 1) := by decide +kernel
theorem dX6_disparity_36 : decode cX6_disparity 36 = .ok (.aload_n 0, 1) := by decide +kernel
theorem dX6_disparity_37 : decode cX6_disparity 37 = .ok (.getfield 26, 3) := by decide +kernel
theorem dX6_disparity_40 : decode cX6_disparity 40 = .ok (.getfield 75, 3) := by decide +kernel
theorem dX6_disparity_43 : decode cX6_disparity 43 = .ok (.ireturn, 1) := by decide +kernel
theorem dX6_disparity_44 : decode cX6_disparity 44 = .ok (.iconst 0, 1) := by decide +kernel
theorem dX6_disparity_45 : decode cX6_disparity 45 = .ok (.ireturn, 1) := by decide +kernel
set_option maxRecDepth 20000 in
theorem ggX6_take_X2_get : GoodIn wsX6_take wsX2_get := goodIn_r _ [11, 12, 13, 14, 15, 10, 16, 17, 163, 164] (by decide +kernel) (by decide +kernel)
set_option maxRecDepth 20000 in
theorem gX6_take_X2_get : GoodIn wsX6_take (wsV RX6 64 RX2 yX2_get wsX2_get) := goodIn_app (goodIn_of _ (by decide +kernel)) ggX6_take_X2_get
set_option maxRecDepth 20000 in
theorem ggX6_take_X3_accept : GoodIn wsX6_take wsX3_accept := goodIn_r _ [22, 23, 24, 25, 26, 27, 28, 29, 30, 31, 32, 33, 21, 34, 35, 36, 37, 38, 39, 40, 41, 42, 43, 44, 45, 46, 47, 48, 49, 50, 51, 52, 53, 54, 55, 56, 57, 58, 59, 60, 61, 62, 63, 64, 65, 66, 67, 68, 69, 70, 71, 72, 73, 74, 75, 76, 77, 78, 79, 80, 81, 82, 83, 84, 85, 86, 87, 88, 89, 90, 91, 92, 93, 94, 95, 96, 97, 98, 99, 100, 101, 102, 103, 104, 105, 106, 107, 108, 109, 110, 111, 112, 113, 114, 115, 116, 117, 118, 3, 4, 5, 119, 120, 121, 122, 123, 124, 125, 126, 127, 128, 129, 130, 131, 132, 133, 134, 135, 136, 137, 138, 139, 140, 141, 142, 143, 144, 145, 146, 147, 148, 149, 150, 151, 165, 166, 167, 168, 169, 170, 171, 172, 173, 174, 175, 176, 177, 178, 179, 180, 181, 182, 183, 184, 185, 186, 187, 188, 189] (by decide +kernel) (by decide +kernel)
set_option maxRecDepth 20000 in
theorem gX6_take_X3_accept : GoodIn wsX6_take (wsV RX6 82 RX3 yX3_accept wsX3_accept) := goodIn_app (goodIn_of _ (by decide +kernel)) ggX6_take_X3_accept
set_option maxRecDepth 20000 in
theorem ggX6_take_X2_cutFront : GoodIn wsX6_take wsX2_cutFront := goodIn_r _ [155, 17, 12, 156, 157, 158, 159, 163, 164] (by decide +kernel) (by decide +kernel)
set_option maxRecDepth 20000 in
theorem gX6_take_X2_cutFront : GoodIn wsX6_take (wsV RX6 86 RX2 yX2_cutFront wsX2_cutFront) := goodIn_app (goodIn_of _ (by decide +kernel)) ggX6_take_X2_cutFront
theorem dX6_take_0 : decode cX6_take 0 = .ok (.iload_n 1, 1) := by decide +kernel
theorem dX6_take_1 : decode cX6_take 1 = .ok (.ifCond .lt 10, 3) := by decide +kernel
theorem dX6_take_4 : decode cX6_take 4 = .ok (.iload_n 1, 1) := by decide +kernel
theorem dX6_take_5 : decode cX6_take 5 = .ok (.sipush 8000, 3) := by decide +kernel
theorem dX6_take_8 : decode cX6_take 8 = .ok (.if_icmp .le 5, 3) := by decide +kernel
theorem dX6_take_11 : decode cX6_take 11 = .ok (.iconst (-1), 1) := by decide +kernel
theorem dX6_take_12 : decode cX6_take 12 = .ok (.ireturn, 1) := by decide +kernel
theorem dX6_take_13 : decode cX6_take 13 = .ok (.iload_n 1, 1) := by decide +kernel
theorem dX6_take_14 : decode cX6_take 14 = .ok (.aload_n 0, 1) := by decide +kernel
theorem dX6_take_15 : decode cX6_take 15 = .ok (.getfield 10, 3) := by decide +kernel
theorem dX6_take_18 : decode cX6_take 18 = .ok (.getfield 68, 3) := by decide +kernel
theorem dX6_take_21 : decode cX6_take 21 = .ok (.invokestatic 76, 3) := by decide +kernel
theorem dX6_take_24 : decode cX6_take 24 = .ok (.istore_n 2, 1) := by decide +kernel
theorem dX6_take_25 : decode cX6_take 25 = .ok (.iconst 0, 1) := by decide +kernel
theorem dX6_take_26 : decode cX6_take 26 = .ok (.istore_n 3, 1) := by decide +kernel
theorem dX6_take_27 : decode cX6_take 27 = .ok (.iload_n 3, 1) := by decide +kernel
theorem dX6_take_28 : decode cX6_take 28 = .ok (.iload_n 2, 1) := by decide +kernel
theorem dX6_take_29 : decode cX6_take 29 = .ok (.if_icmp .ge 24, 3) := by decide +kernel
theorem dX6_take_32 : decode cX6_take 32 = .ok (.aload_n 0, 1) := by decide +kernel
theorem dX6_take_33 : decode cX6_take 33 = .ok (.getfield 26, 3) := by decide +kernel
theorem dX6_take_36 : decode cX6_take 36 = .ok (.aload_n 0, 1) := by decide +kernel
theorem dX6_take_37 : decode cX6_take 37 = .ok (.getfield 10, 3) := by decide +kernel
theorem dX6_take_40 : decode cX6_take 40 = .ok (.iload_n 3, 1) := by decide +kernel
theorem dX6_take_41 : decode cX6_take 41 = .ok (.invokevirtual 64, 3) := by decide +kernel
theorem dX6_take_44 : decode cX6_take 44 = .ok (.invokevirtual 82, 3) := by decide +kernel
theorem dX6_take_47 : decode cX6_take 47 = .ok (.iinc 3 1, 3) := by decide +kernel
theorem dX6_take_50 : decode cX6_take 50 = .ok (.goto (-23), 3) := by decide +kernel
theorem dX6_take_53 : decode cX6_take 53 = .ok (.aload_n 0, 1) := by decide +kernel
theorem dX6_take_54 : decode cX6_take 54 = .ok (.getfield 10, 3) := by decide +kernel
theorem dX6_take_57 : decode cX6_take 57 = .ok (.iload_n 2, 1) := by decide +kernel
theorem dX6_take_58 : decode cX6_take 58 = .ok (.invokevirtual 86, 3) := by decide +kernel
theorem dX6_take_61 : decode cX6_take 61 = .ok (.iload_n 2, 1) := by decide +kernel
theorem dX6_take_62 : decode cX6_take 62 = .ok (.ireturn, 1) := by decide +kernel
theorem dX6_level_0 : decode cX6_level 0 = .ok (.aload_n 0, 1) := by decide +kernel
theorem dX6_level_1 : decode cX6_level 1 = .ok (.getfield 26, 3) := by decide +kernel
theorem dX6_level_4 : decode cX6_level 4 = .ok (.getfield 89, 3) := by decide +kernel
theorem dX6_level_7 : decode cX6_level 7 = .ok (.ireturn, 1) := by decide +kernel
theorem dX6_trust_0 : decode cX6_trust 0 = .ok (.aload_n 0, 1) := by decide +kernel
theorem dX6_trust_1 : decode cX6_trust 1 = .ok (.getfield 26, 3) := by decide +kernel
theorem dX6_trust_4 : decode cX6_trust 4 = .ok (.getfield 92, 3) := by decide +kernel
theorem dX6_trust_7 : decode cX6_trust 7 = .ok (.ireturn, 1) := by decide +kernel
set_option maxRecDepth 20000 in
theorem ggX6_symbol_X5_latest : GoodIn wsX6_symbol wsX5_latest := goodIn_r _ [6, 7, 8, 9, 25, 26, 27, 28] (by decide +kernel) (by decide +kernel)
set_option maxRecDepth 20000 in
theorem gX6_symbol_X5_latest : GoodIn wsX6_symbol (wsV RX6 99 RX5 yX5_latest wsX5_latest) := goodIn_app (goodIn_of _ (by decide +kernel)) ggX6_symbol_X5_latest
theorem dX6_symbol_0 : decode cX6_symbol 0 = .ok (.aload_n 0, 1) := by decide +kernel
theorem dX6_symbol_1 : decode cX6_symbol 1 = .ok (.getfield 26, 3) := by decide +kernel
theorem dX6_symbol_4 : decode cX6_symbol 4 = .ok (.getfield 95, 3) := by decide +kernel
theorem dX6_symbol_7 : decode cX6_symbol 7 = .ok (.iload_n 1, 1) := by decide +kernel
theorem dX6_symbol_8 : decode cX6_symbol 8 = .ok (.invokevirtual 99, 3) := by decide +kernel
theorem dX6_symbol_11 : decode cX6_symbol 11 = .ok (.ireturn, 1) := by decide +kernel
set_option maxRecDepth 20000 in
theorem ggX6_length_X1_lengthOf : GoodIn wsX6_length wsX1_lengthOf := goodIn_r _ [6, 7, 8, 9, 10, 5, 11, 12, 13, 14, 15, 16, 17, 18, 19, 20, 21, 37, 38, 39, 40, 41, 42, 43, 44, 45] (by decide +kernel) (by decide +kernel)
set_option maxRecDepth 20000 in
theorem gX6_length_X1_lengthOf : GoodIn wsX6_length (wsV RX6 108 RX1 yX1_lengthOf wsX1_lengthOf) := goodIn_app (goodIn_of _ (by decide +kernel)) ggX6_length_X1_lengthOf
theorem dX6_length_0 : decode cX6_length 0 = .ok (.aload_n 0, 1) := by decide +kernel
theorem dX6_length_1 : decode cX6_length 1 = .ok (.getfield 26, 3) := by decide +kernel
theorem dX6_length_4 : decode cX6_length 4 = .ok (.getfield 104, 3) := by decide +kernel
theorem dX6_length_7 : decode cX6_length 7 = .ok (.iload_n 1, 1) := by decide +kernel
theorem dX6_length_8 : decode cX6_length 8 = .ok (.invokevirtual 108, 3) := by decide +kernel
theorem dX6_length_11 : decode cX6_length 11 = .ok (.ireturn, 1) := by decide +kernel
set_option maxRecDepth 20000 in
theorem ggX6_whole_X1_isWhole : GoodIn wsX6_whole wsX1_isWhole := goodIn_r _ [6, 7, 8, 9, 10, 5, 11, 12, 13, 14, 15, 16, 17, 18, 19, 20, 21, 37, 38, 39, 40, 41, 42, 43, 44, 45] (by decide +kernel) (by decide +kernel)
set_option maxRecDepth 20000 in
theorem gX6_whole_X1_isWhole : GoodIn wsX6_whole (wsV RX6 113 RX1 yX1_isWhole wsX1_isWhole) := goodIn_app (goodIn_of _ (by decide +kernel)) ggX6_whole_X1_isWhole
theorem dX6_whole_0 : decode cX6_whole 0 = .ok (.aload_n 0, 1) := by decide +kernel
theorem dX6_whole_1 : decode cX6_whole 1 = .ok (.getfield 26, 3) := by decide +kernel
theorem dX6_whole_4 : decode cX6_whole 4 = .ok (.getfield 104, 3) := by decide +kernel
theorem dX6_whole_7 : decode cX6_whole 7 = .ok (.iload_n 1, 1) := by decide +kernel
theorem dX6_whole_8 : decode cX6_whole 8 = .ok (.invokevirtual 113, 3) := by decide +kernel
theorem dX6_whole_11 : decode cX6_whole 11 = .ok (.ireturn, 1) := by decide +kernel
set_option maxRecDepth 20000 in
theorem ggX6_at_X1_byteOf : GoodIn wsX6_at wsX1_byteOf := goodIn_r _ [6, 7, 8, 9, 10, 5, 11, 12, 13, 14, 15, 16, 17, 18, 19, 20, 21, 22, 23, 24, 25, 26, 42, 43, 44, 45, 46, 47, 48, 49, 50] (by decide +kernel) (by decide +kernel)
set_option maxRecDepth 20000 in
theorem gX6_at_X1_byteOf : GoodIn wsX6_at (wsV RX6 116 RX1 yX1_byteOf wsX1_byteOf) := goodIn_app (goodIn_of _ (by decide +kernel)) ggX6_at_X1_byteOf
theorem dX6_at_0 : decode cX6_at 0 = .ok (.aload_n 0, 1) := by decide +kernel
theorem dX6_at_1 : decode cX6_at 1 = .ok (.getfield 26, 3) := by decide +kernel
theorem dX6_at_4 : decode cX6_at 4 = .ok (.getfield 104, 3) := by decide +kernel
theorem dX6_at_7 : decode cX6_at 7 = .ok (.iload_n 1, 1) := by decide +kernel
theorem dX6_at_8 : decode cX6_at 8 = .ok (.iload_n 2, 1) := by decide +kernel
theorem dX6_at_9 : decode cX6_at 9 = .ok (.invokevirtual 116, 3) := by decide +kernel
theorem dX6_at_12 : decode cX6_at 12 = .ok (.ireturn, 1) := by decide +kernel
set_option maxRecDepth 20000 in
theorem ggX6_decode_X0_symbolOf : GoodIn wsX6_decode wsX0_symbolOf := goodIn_r _ [4, 5, 6, 3, 7, 8, 9, 10, 11, 12, 13, 14, 15, 16, 17, 18, 19, 20, 21, 22, 23, 24, 25, 26, 27, 28, 29, 30, 31, 32, 33, 34, 35] (by decide +kernel) (by decide +kernel)
set_option maxRecDepth 20000 in
theorem gX6_decode_X0_symbolOf : GoodIn wsX6_decode (va_wsS RX6 119 yX0_symbolOf wsX0_symbolOf) := goodIn_app (goodIn_of _ (by decide +kernel)) ggX6_decode_X0_symbolOf
theorem dX6_decode_0 : decode cX6_decode 0 = .ok (.iload_n 1, 1) := by decide +kernel
theorem dX6_decode_1 : decode cX6_decode 1 = .ok (.iload_n 2, 1) := by decide +kernel
theorem dX6_decode_2 : decode cX6_decode 2 = .ok (.invokestatic 119, 3) := by decide +kernel
theorem dX6_decode_5 : decode cX6_decode 5 = .ok (.ireturn, 1) := by decide +kernel
theorem dX6_count_0 : decode cX6_count 0 = .ok (.iload_n 1, 1) := by decide +kernel
theorem dX6_count_1 : decode cX6_count 1 = .ok (.tableswitch 123 0 7 #[47, 55, 63, 71, 79, 90, 101, 112], 47) := by decide +kernel
theorem dX6_count_48 : decode cX6_count 48 = .ok (.aload_n 0, 1) := by decide +kernel
theorem dX6_count_49 : decode cX6_count 49 = .ok (.getfield 19, 3) := by decide +kernel
theorem dX6_count_52 : decode cX6_count 52 = .ok (.getfield 122, 3) := by decide +kernel
theorem dX6_count_55 : decode cX6_count 55 = .ok (.ireturn, 1) := by decide +kernel
theorem dX6_count_56 : decode cX6_count 56 = .ok (.aload_n 0, 1) := by decide +kernel
theorem dX6_count_57 : decode cX6_count 57 = .ok (.getfield 26, 3) := by decide +kernel
theorem dX6_count_60 : decode cX6_count 60 = .ok (.getfield 125, 3) := by decide +kernel
theorem dX6_count_63 : decode cX6_count 63 = .ok (.ireturn, 1) := by decide +kernel
theorem dX6_count_64 : decode cX6_count 64 = .ok (.aload_n 0, 1) := by decide +kernel
theorem dX6_count_65 : decode cX6_count 65 = .ok (.getfield 26, 3) := by decide +kernel
theorem dX6_count_68 : decode cX6_count 68 = .ok (.getfield 128, 3) := by decide +kernel
theorem dX6_count_71 : decode cX6_count 71 = .ok (.ireturn, 1) := by decide +kernel
theorem dX6_count_72 : decode cX6_count 72 = .ok (.aload_n 0, 1) := by decide +kernel
theorem dX6_count_73 : decode cX6_count 73 = .ok (.getfield 26, 3) := by decide +kernel
theorem dX6_count_76 : decode cX6_count 76 = .ok (.getfield 131, 3) := by decide +kernel
theorem dX6_count_79 : decode cX6_count 79 = .ok (.ireturn, 1) := by decide +kernel
theorem dX6_count_80 : decode cX6_count 80 = .ok (.aload_n 0, 1) := by decide +kernel
theorem dX6_count_81 : decode cX6_count 81 = .ok (.getfield 26, 3) := by decide +kernel
theorem dX6_count_84 : decode cX6_count 84 = .ok (.getfield 104, 3) := by decide +kernel
theorem dX6_count_87 : decode cX6_count 87 = .ok (.getfield 134, 3) := by decide +kernel
theorem dX6_count_90 : decode cX6_count 90 = .ok (.ireturn, 1) := by decide +kernel
theorem dX6_count_91 : decode cX6_count 91 = .ok (.aload_n 0, 1) := by decide +kernel
theorem dX6_count_92 : decode cX6_count 92 = .ok (.getfield 26, 3) := by decide +kernel
theorem dX6_count_95 : decode cX6_count 95 = .ok (.getfield 104, 3) := by decide +kernel
theorem dX6_count_98 : decode cX6_count 98 = .ok (.getfield 137, 3) := by decide +kernel
theorem dX6_count_101 : decode cX6_count 101 = .ok (.ireturn, 1) := by decide +kernel
theorem dX6_count_102 : decode cX6_count 102 = .ok (.aload_n 0, 1) := by decide +kernel
theorem dX6_count_103 : decode cX6_count 103 = .ok (.getfield 26, 3) := by decide +kernel
theorem dX6_count_106 : decode cX6_count 106 = .ok (.getfield 104, 3) := by decide +kernel
theorem dX6_count_109 : decode cX6_count 109 = .ok (.getfield 140, 3) := by decide +kernel
theorem dX6_count_112 : decode cX6_count 112 = .ok (.ireturn, 1) := by decide +kernel
theorem dX6_count_113 : decode cX6_count 113 = .ok (.aload_n 0, 1) := by decide +kernel
theorem dX6_count_114 : decode cX6_count 114 = .ok (.getfield 26, 3) := by decide +kernel
theorem dX6_count_117 : decode cX6_count 117 = .ok (.getfield 95, 3) := by decide +kernel
theorem dX6_count_120 : decode cX6_count 120 = .ok (.getfield 143, 3) := by decide +kernel
theorem dX6_count_123 : decode cX6_count 123 = .ok (.ireturn, 1) := by decide +kernel
theorem dX6_count_124 : decode cX6_count 124 = .ok (.iconst (-1), 1) := by decide +kernel
theorem dX6_count_125 : decode cX6_count 125 = .ok (.ireturn, 1) := by decide +kernel
end
section
theorem dX7_form_0 : decode cX7_form 0 = .ok (.aload_n 0, 1) := by decide +kernel
theorem dX7_form_1 : decode cX7_form 1 = .ok (.iconst 2, 1) := by decide +kernel
theorem dX7_form_2 : decode cX7_form 2 = .ok (.iload_n 1, 1) := by decide +kernel
theorem dX7_form_3 : decode cX7_form 3 = .ok (.imul, 1) := by decide +kernel
theorem dX7_form_4 : decode cX7_form 4 = .ok (.iload_n 2, 1) := by decide +kernel
theorem dX7_form_5 : decode cX7_form 5 = .ok (.ifCond .le 7, 3) := by decide +kernel
theorem dX7_form_8 : decode cX7_form 8 = .ok (.iconst 1, 1) := by decide +kernel
theorem dX7_form_9 : decode cX7_form 9 = .ok (.goto 4, 3) := by decide +kernel
theorem dX7_form_12 : decode cX7_form 12 = .ok (.iconst 0, 1) := by decide +kernel
theorem dX7_form_13 : decode cX7_form 13 = .ok (.iadd, 1) := by decide +kernel
theorem dX7_form_14 : decode cX7_form 14 = .ok (.iaload, 1) := by decide +kernel
theorem dX7_form_15 : decode cX7_form 15 = .ok (.ireturn, 1) := by decide +kernel
theorem dX7_ones_0 : decode cX7_ones 0 = .ok (.iconst 0, 1) := by decide +kernel
theorem dX7_ones_1 : decode cX7_ones 1 = .ok (.istore_n 1, 1) := by decide +kernel
theorem dX7_ones_2 : decode cX7_ones 2 = .ok (.iload_n 0, 1) := by decide +kernel
theorem dX7_ones_3 : decode cX7_ones 3 = .ok (.istore_n 2, 1) := by decide +kernel
theorem dX7_ones_4 : decode cX7_ones 4 = .ok (.iload_n 2, 1) := by decide +kernel
theorem dX7_ones_5 : decode cX7_ones 5 = .ok (.ifCond .le 16, 3) := by decide +kernel
theorem dX7_ones_8 : decode cX7_ones 8 = .ok (.iload_n 1, 1) := by decide +kernel
theorem dX7_ones_9 : decode cX7_ones 9 = .ok (.iload_n 2, 1) := by decide +kernel
theorem dX7_ones_10 : decode cX7_ones 10 = .ok (.iconst 1, 1) := by decide +kernel
theorem dX7_ones_11 : decode cX7_ones 11 = .ok (.iand, 1) := by decide +kernel
theorem dX7_ones_12 : decode cX7_ones 12 = .ok (.iadd, 1) := by decide +kernel
theorem dX7_ones_13 : decode cX7_ones 13 = .ok (.istore_n 1, 1) := by decide +kernel
theorem dX7_ones_14 : decode cX7_ones 14 = .ok (.iload_n 2, 1) := by decide +kernel
theorem dX7_ones_15 : decode cX7_ones 15 = .ok (.iconst 1, 1) := by decide +kernel
theorem dX7_ones_16 : decode cX7_ones 16 = .ok (.ishr, 1) := by decide +kernel
theorem dX7_ones_17 : decode cX7_ones 17 = .ok (.istore_n 2, 1) := by decide +kernel
theorem dX7_ones_18 : decode cX7_ones 18 = .ok (.goto (-14), 3) := by decide +kernel
theorem dX7_ones_21 : decode cX7_ones 21 = .ok (.iload_n 1, 1) := by decide +kernel
theorem dX7_ones_22 : decode cX7_ones 22 = .ok (.ireturn, 1) := by decide +kernel
set_option maxRecDepth 20000 in
theorem ggX7_behind_X7_ones : GoodIn wsX7_behind wsX7_ones := goodIn_r _ [4] (by decide +kernel) (by decide +kernel)
set_option maxRecDepth 20000 in
theorem gX7_behind_X7_ones : GoodIn wsX7_behind (va_wsS RX7 52 yX7_ones wsX7_ones) := goodIn_app (goodIn_of _ (by decide +kernel)) ggX7_behind_X7_ones
theorem dX7_behind_0 : decode cX7_behind 0 = .ok (.iconst 2, 1) := by decide +kernel
theorem dX7_behind_1 : decode cX7_behind 1 = .ok (.iload_n 0, 1) := by decide +kernel
theorem dX7_behind_2 : decode cX7_behind 2 = .ok (.invokestatic 52, 3) := by decide +kernel
theorem dX7_behind_5 : decode cX7_behind 5 = .ok (.imul, 1) := by decide +kernel
theorem dX7_behind_6 : decode cX7_behind 6 = .ok (.istore_n 3, 1) := by decide +kernel
theorem dX7_behind_7 : decode cX7_behind 7 = .ok (.iload_n 3, 1) := by decide +kernel
theorem dX7_behind_8 : decode cX7_behind 8 = .ok (.iload_n 1, 1) := by decide +kernel
theorem dX7_behind_9 : decode cX7_behind 9 = .ok (.if_icmp .eq 14, 3) := by decide +kernel
theorem dX7_behind_12 : decode cX7_behind 12 = .ok (.iload_n 3, 1) := by decide +kernel
theorem dX7_behind_13 : decode cX7_behind 13 = .ok (.iload_n 1, 1) := by decide +kernel
theorem dX7_behind_14 : decode cX7_behind 14 = .ok (.if_icmp .le 7, 3) := by decide +kernel
theorem dX7_behind_17 : decode cX7_behind 17 = .ok (.iconst 1, 1) := by decide +kernel
theorem dX7_behind_18 : decode cX7_behind 18 = .ok (.goto 4, 3) := by decide +kernel
theorem dX7_behind_21 : decode cX7_behind 21 = .ok (.iconst (-1), 1) := by decide +kernel
theorem dX7_behind_22 : decode cX7_behind 22 = .ok (.ireturn, 1) := by decide +kernel
theorem dX7_behind_23 : decode cX7_behind 23 = .ok (.iload_n 1, 1) := by decide +kernel
theorem dX7_behind_24 : decode cX7_behind 24 = .ok (.bipush 6, 2) := by decide +kernel
theorem dX7_behind_26 : decode cX7_behind 26 = .ok (.if_icmp .ne 8, 3) := by decide +kernel
theorem dX7_behind_29 : decode cX7_behind 29 = .ok (.bipush 7, 2) := by decide +kernel
theorem dX7_behind_31 : decode cX7_behind 31 = .ok (.goto 4, 3) := by decide +kernel
theorem dX7_behind_34 : decode cX7_behind 34 = .ok (.iconst 3, 1) := by decide +kernel
theorem dX7_behind_35 : decode cX7_behind 35 = .ok (.istore 4, 2) := by decide +kernel
theorem dX7_behind_37 : decode cX7_behind 37 = .ok (.iload_n 1, 1) := by decide +kernel
theorem dX7_behind_38 : decode cX7_behind 38 = .ok (.bipush 6, 2) := by decide +kernel
theorem dX7_behind_40 : decode cX7_behind 40 = .ok (.if_icmp .ne 8, 3) := by decide +kernel
theorem dX7_behind_43 : decode cX7_behind 43 = .ok (.bipush 56, 2) := by decide +kernel
theorem dX7_behind_45 : decode cX7_behind 45 = .ok (.goto 5, 3) := by decide +kernel
theorem dX7_behind_48 : decode cX7_behind 48 = .ok (.bipush 12, 2) := by decide +kernel
theorem dX7_behind_50 : decode cX7_behind 50 = .ok (.istore 5, 2) := by decide +kernel
theorem dX7_behind_52 : decode cX7_behind 52 = .ok (.iload_n 0, 1) := by decide +kernel
theorem dX7_behind_53 : decode cX7_behind 53 = .ok (.iload 4, 2) := by decide +kernel
theorem dX7_behind_55 : decode cX7_behind 55 = .ok (.if_icmp .ne 7, 3) := by decide +kernel
theorem dX7_behind_58 : decode cX7_behind 58 = .ok (.iconst 1, 1) := by decide +kernel
theorem dX7_behind_59 : decode cX7_behind 59 = .ok (.goto 14, 3) := by decide +kernel
theorem dX7_behind_62 : decode cX7_behind 62 = .ok (.iload_n 0, 1) := by decide +kernel
theorem dX7_behind_63 : decode cX7_behind 63 = .ok (.iload 5, 2) := by decide +kernel
theorem dX7_behind_65 : decode cX7_behind 65 = .ok (.if_icmp .ne 7, 3) := by decide +kernel
theorem dX7_behind_68 : decode cX7_behind 68 = .ok (.iconst (-1), 1) := by decide +kernel
theorem dX7_behind_69 : decode cX7_behind 69 = .ok (.goto 4, 3) := by decide +kernel
theorem dX7_behind_72 : decode cX7_behind 72 = .ok (.iload_n 2, 1) := by decide +kernel
theorem dX7_behind_73 : decode cX7_behind 73 = .ok (.ireturn, 1) := by decide +kernel
theorem dX7_isSign_0 : decode cX7_isSign 0 = .ok (.iload_n 0, 1) := by decide +kernel
theorem dX7_isSign_1 : decode cX7_isSign 1 = .ok (.bipush 32, 2) := by decide +kernel
theorem dX7_isSign_3 : decode cX7_isSign 3 = .ok (.irem, 1) := by decide +kernel
theorem dX7_isSign_4 : decode cX7_isSign 4 = .ok (.istore_n 1, 1) := by decide +kernel
theorem dX7_isSign_5 : decode cX7_isSign 5 = .ok (.iload_n 0, 1) := by decide +kernel
theorem dX7_isSign_6 : decode cX7_isSign 6 = .ok (.ifCond .lt 53, 3) := by decide +kernel
theorem dX7_isSign_9 : decode cX7_isSign 9 = .ok (.iload_n 0, 1) := by decide +kernel
theorem dX7_isSign_10 : decode cX7_isSign 10 = .ok (.sipush 255, 3) := by decide +kernel
theorem dX7_isSign_13 : decode cX7_isSign 13 = .ok (.if_icmp .gt 46, 3) := by decide +kernel
theorem dX7_isSign_16 : decode cX7_isSign 16 = .ok (.iload_n 1, 1) := by decide +kernel
theorem dX7_isSign_17 : decode cX7_isSign 17 = .ok (.bipush 28, 2) := by decide +kernel
theorem dX7_isSign_19 : decode cX7_isSign 19 = .ok (.if_icmp .eq 36, 3) := by decide +kernel
theorem dX7_isSign_22 : decode cX7_isSign 22 = .ok (.iload_n 0, 1) := by decide +kernel
theorem dX7_isSign_23 : decode cX7_isSign 23 = .ok (.bipush 32, 2) := by decide +kernel
theorem dX7_isSign_25 : decode cX7_isSign 25 = .ok (.idiv, 1) := by decide +kernel
theorem dX7_isSign_26 : decode cX7_isSign 26 = .ok (.bipush 7, 2) := by decide +kernel
theorem dX7_isSign_28 : decode cX7_isSign 28 = .ok (.if_icmp .ne 31, 3) := by decide +kernel
theorem dX7_isSign_31 : decode cX7_isSign 31 = .ok (.iload_n 1, 1) := by decide +kernel
theorem dX7_isSign_32 : decode cX7_isSign 32 = .ok (.bipush 23, 2) := by decide +kernel
theorem dX7_isSign_34 : decode cX7_isSign 34 = .ok (.if_icmp .eq 21, 3) := by decide +kernel
theorem dX7_isSign_37 : decode cX7_isSign 37 = .ok (.iload_n 1, 1) := by decide +kernel
theorem dX7_isSign_38 : decode cX7_isSign 38 = .ok (.bipush 27, 2) := by decide +kernel
theorem dX7_isSign_40 : decode cX7_isSign 40 = .ok (.if_icmp .eq 15, 3) := by decide +kernel
theorem dX7_isSign_43 : decode cX7_isSign 43 = .ok (.iload_n 1, 1) := by decide +kernel
theorem dX7_isSign_44 : decode cX7_isSign 44 = .ok (.bipush 29, 2) := by decide +kernel
theorem dX7_isSign_46 : decode cX7_isSign 46 = .ok (.if_icmp .eq 9, 3) := by decide +kernel
theorem dX7_isSign_49 : decode cX7_isSign 49 = .ok (.iload_n 1, 1) := by decide +kernel
theorem dX7_isSign_50 : decode cX7_isSign 50 = .ok (.bipush 30, 2) := by decide +kernel
theorem dX7_isSign_52 : decode cX7_isSign 52 = .ok (.if_icmp .ne 7, 3) := by decide +kernel
theorem dX7_isSign_55 : decode cX7_isSign 55 = .ok (.iconst 1, 1) := by decide +kernel
theorem dX7_isSign_56 : decode cX7_isSign 56 = .ok (.goto 4, 3) := by decide +kernel
theorem dX7_isSign_59 : decode cX7_isSign 59 = .ok (.iconst 0, 1) := by decide +kernel
theorem dX7_isSign_60 : decode cX7_isSign 60 = .ok (.ireturn, 1) := by decide +kernel
set_option maxRecDepth 20000 in
theorem ggX7_groupOf_X7_form : GoodIn wsX7_groupOf wsX7_form := goodIn_r _ [7] (by decide +kernel) (by decide +kernel)
set_option maxRecDepth 20000 in
theorem gX7_groupOf_X7_form : GoodIn wsX7_groupOf (va_wsS RX7 56 yX7_form wsX7_form) := goodIn_app (goodIn_of _ (by decide +kernel)) ggX7_groupOf_X7_form
set_option maxRecDepth 20000 in
theorem ggX7_groupOf_X7_behind : GoodIn wsX7_groupOf wsX7_behind := goodIn_r _ [10, 11, 12, 6, 13] (by decide +kernel) (by decide +kernel)
set_option maxRecDepth 20000 in
theorem gX7_groupOf_X7_behind : GoodIn wsX7_groupOf (va_wsS RX7 60 yX7_behind wsX7_behind) := goodIn_app (goodIn_of _ (by decide +kernel)) ggX7_groupOf_X7_behind
theorem dX7_groupOf_0 : decode cX7_groupOf 0 = .ok (.iload_n 1, 1) := by decide +kernel
theorem dX7_groupOf_1 : decode cX7_groupOf 1 = .ok (.bipush 32, 2) := by decide +kernel
theorem dX7_groupOf_3 : decode cX7_groupOf 3 = .ok (.irem, 1) := by decide +kernel
theorem dX7_groupOf_4 : decode cX7_groupOf 4 = .ok (.istore 4, 2) := by decide +kernel
theorem dX7_groupOf_6 : decode cX7_groupOf 6 = .ok (.iload_n 1, 1) := by decide +kernel
theorem dX7_groupOf_7 : decode cX7_groupOf 7 = .ok (.bipush 32, 2) := by decide +kernel
theorem dX7_groupOf_9 : decode cX7_groupOf 9 = .ok (.idiv, 1) := by decide +kernel
theorem dX7_groupOf_10 : decode cX7_groupOf 10 = .ok (.istore 5, 2) := by decide +kernel
theorem dX7_groupOf_12 : decode cX7_groupOf 12 = .ok (.iload_n 2, 1) := by decide +kernel
theorem dX7_groupOf_13 : decode cX7_groupOf 13 = .ok (.ifCond .eq 24, 3) := by decide +kernel
theorem dX7_groupOf_16 : decode cX7_groupOf 16 = .ok (.iload 4, 2) := by decide +kernel
theorem dX7_groupOf_18 : decode cX7_groupOf 18 = .ok (.bipush 28, 2) := by decide +kernel
theorem dX7_groupOf_20 : decode cX7_groupOf 20 = .ok (.if_icmp .ne 17, 3) := by decide +kernel
theorem dX7_groupOf_23 : decode cX7_groupOf 23 = .ok (.iload_n 3, 1) := by decide +kernel
theorem dX7_groupOf_24 : decode cX7_groupOf 24 = .ok (.ifCond .ge 8, 3) := by decide +kernel
theorem dX7_groupOf_27 : decode cX7_groupOf 27 = .ok (.bipush 15, 2) := by decide +kernel
theorem dX7_groupOf_29 : decode cX7_groupOf 29 = .ok (.goto 18, 3) := by decide +kernel
theorem dX7_groupOf_32 : decode cX7_groupOf 32 = .ok (.bipush 48, 2) := by decide +kernel
theorem dX7_groupOf_34 : decode cX7_groupOf 34 = .ok (.goto 13, 3) := by decide +kernel
theorem dX7_groupOf_37 : decode cX7_groupOf 37 = .ok (.aload_n 0, 1) := by decide +kernel
theorem dX7_groupOf_38 : decode cX7_groupOf 38 = .ok (.getfield 7, 3) := by decide +kernel
theorem dX7_groupOf_41 : decode cX7_groupOf 41 = .ok (.iload 4, 2) := by decide +kernel
theorem dX7_groupOf_43 : decode cX7_groupOf 43 = .ok (.iload_n 3, 1) := by decide +kernel
theorem dX7_groupOf_44 : decode cX7_groupOf 44 = .ok (.invokestatic 56, 3) := by decide +kernel
theorem dX7_groupOf_47 : decode cX7_groupOf 47 = .ok (.istore 6, 2) := by decide +kernel
theorem dX7_groupOf_49 : decode cX7_groupOf 49 = .ok (.iload 6, 2) := by decide +kernel
theorem dX7_groupOf_51 : decode cX7_groupOf 51 = .ok (.bipush 6, 2) := by decide +kernel
theorem dX7_groupOf_53 : decode cX7_groupOf 53 = .ok (.iload_n 3, 1) := by decide +kernel
theorem dX7_groupOf_54 : decode cX7_groupOf 54 = .ok (.invokestatic 60, 3) := by decide +kernel
theorem dX7_groupOf_57 : decode cX7_groupOf 57 = .ok (.istore 7, 2) := by decide +kernel
theorem dX7_groupOf_59 : decode cX7_groupOf 59 = .ok (.iload_n 2, 1) := by decide +kernel
theorem dX7_groupOf_60 : decode cX7_groupOf 60 = .ok (.ifCond .eq 10, 3) := by decide +kernel
theorem dX7_groupOf_63 : decode cX7_groupOf 63 = .ok (.aload_n 0, 1) := by decide +kernel
theorem dX7_groupOf_64 : decode cX7_groupOf 64 = .ok (.getfield 16, 3) := by decide +kernel
theorem dX7_groupOf_67 : decode cX7_groupOf 67 = .ok (.goto 7, 3) := by decide +kernel
theorem dX7_groupOf_70 : decode cX7_groupOf 70 = .ok (.aload_n 0, 1) := by decide +kernel
theorem dX7_groupOf_71 : decode cX7_groupOf 71 = .ok (.getfield 13, 3) := by decide +kernel
theorem dX7_groupOf_74 : decode cX7_groupOf 74 = .ok (.iload 5, 2) := by decide +kernel
theorem dX7_groupOf_76 : decode cX7_groupOf 76 = .ok (.iload 7, 2) := by decide +kernel
theorem dX7_groupOf_78 : decode cX7_groupOf 78 = .ok (.invokestatic 56, 3) := by decide +kernel
theorem dX7_groupOf_81 : decode cX7_groupOf 81 = .ok (.istore 8, 2) := by decide +kernel
theorem dX7_groupOf_83 : decode cX7_groupOf 83 = .ok (.iload_n 2, 1) := by decide +kernel
theorem dX7_groupOf_84 : decode cX7_groupOf 84 = .ok (.ifCond .ne 43, 3) := by decide +kernel
theorem dX7_groupOf_87 : decode cX7_groupOf 87 = .ok (.iload 5, 2) := by decide +kernel
theorem dX7_groupOf_89 : decode cX7_groupOf 89 = .ok (.bipush 7, 2) := by decide +kernel
theorem dX7_groupOf_91 : decode cX7_groupOf 91 = .ok (.if_icmp .ne 36, 3) := by decide +kernel
theorem dX7_groupOf_94 : decode cX7_groupOf 94 = .ok (.iload 7, 2) := by decide +kernel
theorem dX7_groupOf_96 : decode cX7_groupOf 96 = .ok (.ifCond .ge 31, 3) := by decide +kernel
theorem dX7_groupOf_99 : decode cX7_groupOf 99 = .ok (.iload 4, 2) := by decide +kernel
theorem dX7_groupOf_101 : decode cX7_groupOf 101 = .ok (.bipush 17, 2) := by decide +kernel
theorem dX7_groupOf_103 : decode cX7_groupOf 103 = .ok (.if_icmp .eq 17, 3) := by decide +kernel
theorem dX7_groupOf_106 : decode cX7_groupOf 106 = .ok (.iload 4, 2) := by decide +kernel
theorem dX7_groupOf_108 : decode cX7_groupOf 108 = .ok (.bipush 18, 2) := by decide +kernel
theorem dX7_groupOf_110 : decode cX7_groupOf 110 = .ok (.if_icmp .eq 10, 3) := by decide +kernel
theorem dX7_groupOf_113 : decode cX7_groupOf 113 = .ok (.iload 4, 2) := by decide +kernel
theorem dX7_groupOf_115 : decode cX7_groupOf 115 = .ok (.bipush 20, 2) := by decide +kernel
theorem dX7_groupOf_117 : decode cX7_groupOf 117 = .ok (.if_icmp .ne 10, 3) := by decide +kernel
theorem dX7_groupOf_120 : decode cX7_groupOf 120 = .ok (.bipush 7, 2) := by decide +kernel
theorem dX7_groupOf_122 : decode cX7_groupOf 122 = .ok (.istore 8, 2) := by decide +kernel
theorem dX7_groupOf_124 : decode cX7_groupOf 124 = .ok (.goto 44, 3) := by decide +kernel
theorem dX7_groupOf_127 : decode cX7_groupOf 127 = .ok (.iload_n 2, 1) := by decide +kernel
theorem dX7_groupOf_128 : decode cX7_groupOf 128 = .ok (.ifCond .ne 40, 3) := by decide +kernel
theorem dX7_groupOf_131 : decode cX7_groupOf 131 = .ok (.iload 5, 2) := by decide +kernel
theorem dX7_groupOf_133 : decode cX7_groupOf 133 = .ok (.bipush 7, 2) := by decide +kernel
theorem dX7_groupOf_135 : decode cX7_groupOf 135 = .ok (.if_icmp .ne 33, 3) := by decide +kernel
theorem dX7_groupOf_138 : decode cX7_groupOf 138 = .ok (.iload 7, 2) := by decide +kernel
theorem dX7_groupOf_140 : decode cX7_groupOf 140 = .ok (.ifCond .le 28, 3) := by decide +kernel
theorem dX7_groupOf_143 : decode cX7_groupOf 143 = .ok (.iload 4, 2) := by decide +kernel
theorem dX7_groupOf_145 : decode cX7_groupOf 145 = .ok (.bipush 11, 2) := by decide +kernel
theorem dX7_groupOf_147 : decode cX7_groupOf 147 = .ok (.if_icmp .eq 17, 3) := by decide +kernel
theorem dX7_groupOf_150 : decode cX7_groupOf 150 = .ok (.iload 4, 2) := by decide +kernel
theorem dX7_groupOf_152 : decode cX7_groupOf 152 = .ok (.bipush 13, 2) := by decide +kernel
theorem dX7_groupOf_154 : decode cX7_groupOf 154 = .ok (.if_icmp .eq 10, 3) := by decide +kernel
theorem dX7_groupOf_157 : decode cX7_groupOf 157 = .ok (.iload 4, 2) := by decide +kernel
theorem dX7_groupOf_159 : decode cX7_groupOf 159 = .ok (.bipush 14, 2) := by decide +kernel
theorem dX7_groupOf_161 : decode cX7_groupOf 161 = .ok (.if_icmp .ne 7, 3) := by decide +kernel
theorem dX7_groupOf_164 : decode cX7_groupOf 164 = .ok (.bipush 8, 2) := by decide +kernel
theorem dX7_groupOf_166 : decode cX7_groupOf 166 = .ok (.istore 8, 2) := by decide +kernel
theorem dX7_groupOf_168 : decode cX7_groupOf 168 = .ok (.iload 6, 2) := by decide +kernel
theorem dX7_groupOf_170 : decode cX7_groupOf 170 = .ok (.iconst 4, 1) := by decide +kernel
theorem dX7_groupOf_171 : decode cX7_groupOf 171 = .ok (.ishl, 1) := by decide +kernel
theorem dX7_groupOf_172 : decode cX7_groupOf 172 = .ok (.iload 8, 2) := by decide +kernel
theorem dX7_groupOf_174 : decode cX7_groupOf 174 = .ok (.ior, 1) := by decide +kernel
theorem dX7_groupOf_175 : decode cX7_groupOf 175 = .ok (.ireturn, 1) := by decide +kernel
set_option maxRecDepth 20000 in
theorem ggX7_behindGroup_X7_behind : GoodIn wsX7_behindGroup wsX7_behind := goodIn_r _ [4, 5, 6, 3, 7] (by decide +kernel) (by decide +kernel)
set_option maxRecDepth 20000 in
theorem gX7_behindGroup_X7_behind : GoodIn wsX7_behindGroup (va_wsS RX7 60 yX7_behind wsX7_behind) := goodIn_app (goodIn_of _ (by decide +kernel)) ggX7_behindGroup_X7_behind
theorem dX7_behindGroup_0 : decode cX7_behindGroup 0 = .ok (.iload_n 0, 1) := by decide +kernel
theorem dX7_behindGroup_1 : decode cX7_behindGroup 1 = .ok (.bipush 15, 2) := by decide +kernel
theorem dX7_behindGroup_3 : decode cX7_behindGroup 3 = .ok (.iand, 1) := by decide +kernel
theorem dX7_behindGroup_4 : decode cX7_behindGroup 4 = .ok (.iconst 4, 1) := by decide +kernel
theorem dX7_behindGroup_5 : decode cX7_behindGroup 5 = .ok (.iload_n 0, 1) := by decide +kernel
theorem dX7_behindGroup_6 : decode cX7_behindGroup 6 = .ok (.iconst 4, 1) := by decide +kernel
theorem dX7_behindGroup_7 : decode cX7_behindGroup 7 = .ok (.ishr, 1) := by decide +kernel
theorem dX7_behindGroup_8 : decode cX7_behindGroup 8 = .ok (.bipush 6, 2) := by decide +kernel
theorem dX7_behindGroup_10 : decode cX7_behindGroup 10 = .ok (.iload_n 1, 1) := by decide +kernel
theorem dX7_behindGroup_11 : decode cX7_behindGroup 11 = .ok (.invokestatic 60, 3) := by decide +kernel
theorem dX7_behindGroup_14 : decode cX7_behindGroup 14 = .ok (.invokestatic 60, 3) := by decide +kernel
theorem dX7_behindGroup_17 : decode cX7_behindGroup 17 = .ok (.ireturn, 1) := by decide +kernel
set_option maxRecDepth 20000 in
theorem ggX7_decode_X7_groupOf : GoodIn wsX7_decode wsX7_groupOf := goodIn_r _ [5, 6, 7, 8, 9, 10, 4, 11, 12, 13, 14, 15, 16, 17, 21, 22, 23, 24, 25, 26, 27, 28, 29, 30, 31, 32, 33, 34, 35, 36, 37, 38, 39, 40, 41, 42, 43, 44, 45, 46, 47, 48, 49, 50, 51, 52] (by decide +kernel) (by decide +kernel)
set_option maxRecDepth 20000 in
theorem gX7_decode_X7_groupOf : GoodIn wsX7_decode (wsV RX7 64 RX7 yX7_groupOf wsX7_groupOf) := goodIn_app (goodIn_of _ (by decide +kernel)) ggX7_decode_X7_groupOf
set_option maxRecDepth 20000 in
theorem ggX7_decode_X7_isSign : GoodIn wsX7_decode wsX7_isSign := goodIn_r _ [20] (by decide +kernel) (by decide +kernel)
set_option maxRecDepth 20000 in
theorem gX7_decode_X7_isSign : GoodIn wsX7_decode (va_wsS RX7 68 yX7_isSign wsX7_isSign) := goodIn_app (goodIn_of _ (by decide +kernel)) ggX7_decode_X7_isSign
theorem dX7_decode_0 : decode cX7_decode 0 = .ok (.iload_n 1, 1) := by decide +kernel
theorem dX7_decode_1 : decode cX7_decode 1 = .ok (.ifCond .lt 20, 3) := by decide +kernel
theorem dX7_decode_4 : decode cX7_decode 4 = .ok (.iload_n 1, 1) := by decide +kernel
theorem dX7_decode_5 : decode cX7_decode 5 = .ok (.sipush 1023, 3) := by decide +kernel
theorem dX7_decode_8 : decode cX7_decode 8 = .ok (.if_icmp .gt 13, 3) := by decide +kernel
theorem dX7_decode_11 : decode cX7_decode 11 = .ok (.iload_n 2, 1) := by decide +kernel
theorem dX7_decode_12 : decode cX7_decode 12 = .ok (.iconst (-1), 1) := by decide +kernel
theorem dX7_decode_13 : decode cX7_decode 13 = .ok (.if_icmp .eq 10, 3) := by decide +kernel
theorem dX7_decode_16 : decode cX7_decode 16 = .ok (.iload_n 2, 1) := by decide +kernel
theorem dX7_decode_17 : decode cX7_decode 17 = .ok (.iconst 1, 1) := by decide +kernel
theorem dX7_decode_18 : decode cX7_decode 18 = .ok (.if_icmp .eq 5, 3) := by decide +kernel
theorem dX7_decode_21 : decode cX7_decode 21 = .ok (.iconst (-1), 1) := by decide +kernel
theorem dX7_decode_22 : decode cX7_decode 22 = .ok (.ireturn, 1) := by decide +kernel
theorem dX7_decode_23 : decode cX7_decode 23 = .ok (.iconst 0, 1) := by decide +kernel
theorem dX7_decode_24 : decode cX7_decode 24 = .ok (.istore_n 3, 1) := by decide +kernel
theorem dX7_decode_25 : decode cX7_decode 25 = .ok (.iload_n 3, 1) := by decide +kernel
theorem dX7_decode_26 : decode cX7_decode 26 = .ok (.sipush 256, 3) := by decide +kernel
theorem dX7_decode_29 : decode cX7_decode 29 = .ok (.if_icmp .ge 46, 3) := by decide +kernel
theorem dX7_decode_32 : decode cX7_decode 32 = .ok (.aload_n 0, 1) := by decide +kernel
theorem dX7_decode_33 : decode cX7_decode 33 = .ok (.iload_n 3, 1) := by decide +kernel
theorem dX7_decode_34 : decode cX7_decode 34 = .ok (.iconst 0, 1) := by decide +kernel
theorem dX7_decode_35 : decode cX7_decode 35 = .ok (.iload_n 2, 1) := by decide +kernel
theorem dX7_decode_36 : decode cX7_decode 36 = .ok (.invokevirtual 64, 3) := by decide +kernel
theorem dX7_decode_39 : decode cX7_decode 39 = .ok (.iload_n 1, 1) := by decide +kernel
theorem dX7_decode_40 : decode cX7_decode 40 = .ok (.if_icmp .ne 5, 3) := by decide +kernel
theorem dX7_decode_43 : decode cX7_decode 43 = .ok (.iload_n 3, 1) := by decide +kernel
theorem dX7_decode_44 : decode cX7_decode 44 = .ok (.ireturn, 1) := by decide +kernel
theorem dX7_decode_45 : decode cX7_decode 45 = .ok (.iload_n 3, 1) := by decide +kernel
theorem dX7_decode_46 : decode cX7_decode 46 = .ok (.invokestatic 68, 3) := by decide +kernel
theorem dX7_decode_49 : decode cX7_decode 49 = .ok (.ifCond .eq 20, 3) := by decide +kernel
theorem dX7_decode_52 : decode cX7_decode 52 = .ok (.aload_n 0, 1) := by decide +kernel
theorem dX7_decode_53 : decode cX7_decode 53 = .ok (.iload_n 3, 1) := by decide +kernel
theorem dX7_decode_54 : decode cX7_decode 54 = .ok (.iconst 1, 1) := by decide +kernel
theorem dX7_decode_55 : decode cX7_decode 55 = .ok (.iload_n 2, 1) := by decide +kernel
theorem dX7_decode_56 : decode cX7_decode 56 = .ok (.invokevirtual 64, 3) := by decide +kernel
theorem dX7_decode_59 : decode cX7_decode 59 = .ok (.iload_n 1, 1) := by decide +kernel
theorem dX7_decode_60 : decode cX7_decode 60 = .ok (.if_icmp .ne 9, 3) := by decide +kernel
theorem dX7_decode_63 : decode cX7_decode 63 = .ok (.sipush 256, 3) := by decide +kernel
theorem dX7_decode_66 : decode cX7_decode 66 = .ok (.iload_n 3, 1) := by decide +kernel
theorem dX7_decode_67 : decode cX7_decode 67 = .ok (.iadd, 1) := by decide +kernel
theorem dX7_decode_68 : decode cX7_decode 68 = .ok (.ireturn, 1) := by decide +kernel
theorem dX7_decode_69 : decode cX7_decode 69 = .ok (.iinc 3 1, 3) := by decide +kernel
theorem dX7_decode_72 : decode cX7_decode 72 = .ok (.goto (-47), 3) := by decide +kernel
theorem dX7_decode_75 : decode cX7_decode 75 = .ok (.iconst (-1), 1) := by decide +kernel
theorem dX7_decode_76 : decode cX7_decode 76 = .ok (.ireturn, 1) := by decide +kernel
set_option maxRecDepth 20000 in
theorem ggX7_send_X7_isSign : GoodIn wsX7_send wsX7_isSign := goodIn_r _ [8] (by decide +kernel) (by decide +kernel)
set_option maxRecDepth 20000 in
theorem gX7_send_X7_isSign : GoodIn wsX7_send (va_wsS RX7 68 yX7_isSign wsX7_isSign) := goodIn_app (goodIn_of _ (by decide +kernel)) ggX7_send_X7_isSign
set_option maxRecDepth 20000 in
theorem ggX7_send_X7_groupOf : GoodIn wsX7_send wsX7_groupOf := goodIn_r _ [12, 13, 14, 15, 16, 17, 7, 18, 19, 20, 21, 22, 23, 24, 28, 29, 30, 31, 32, 33, 34, 35, 36, 37, 38, 39, 40, 41, 42, 43, 44, 45, 46, 47, 48, 49, 50, 51, 52, 53, 54, 55, 56, 57, 58, 59] (by decide +kernel) (by decide +kernel)
set_option maxRecDepth 20000 in
theorem gX7_send_X7_groupOf : GoodIn wsX7_send (wsV RX7 64 RX7 yX7_groupOf wsX7_groupOf) := goodIn_app (goodIn_of _ (by decide +kernel)) ggX7_send_X7_groupOf
set_option maxRecDepth 20000 in
theorem ggX7_send_X7_behindGroup : GoodIn wsX7_send wsX7_behindGroup := goodIn_r _ [27, 19, 20, 7, 21, 22, 23, 24] (by decide +kernel) (by decide +kernel)
set_option maxRecDepth 20000 in
theorem gX7_send_X7_behindGroup : GoodIn wsX7_send (va_wsS RX7 72 yX7_behindGroup wsX7_behindGroup) := goodIn_app (goodIn_of _ (by decide +kernel)) ggX7_send_X7_behindGroup
theorem dX7_send_0 : decode cX7_send 0 = .ok (.iload_n 1, 1) := by decide +kernel
theorem dX7_send_1 : decode cX7_send 1 = .ok (.ifCond .lt 34, 3) := by decide +kernel
theorem dX7_send_4 : decode cX7_send 4 = .ok (.iload_n 1, 1) := by decide +kernel
theorem dX7_send_5 : decode cX7_send 5 = .ok (.sipush 255, 3) := by decide +kernel
theorem dX7_send_8 : decode cX7_send 8 = .ok (.if_icmp .gt 27, 3) := by decide +kernel
theorem dX7_send_11 : decode cX7_send 11 = .ok (.iload_n 2, 1) := by decide +kernel
theorem dX7_send_12 : decode cX7_send 12 = .ok (.ifCond .eq 10, 3) := by decide +kernel
theorem dX7_send_15 : decode cX7_send 15 = .ok (.iload_n 1, 1) := by decide +kernel
theorem dX7_send_16 : decode cX7_send 16 = .ok (.invokestatic 68, 3) := by decide +kernel
theorem dX7_send_19 : decode cX7_send 19 = .ok (.ifCond .eq 16, 3) := by decide +kernel
theorem dX7_send_22 : decode cX7_send 22 = .ok (.aload_n 0, 1) := by decide +kernel
theorem dX7_send_23 : decode cX7_send 23 = .ok (.getfield 49, 3) := by decide +kernel
theorem dX7_send_26 : decode cX7_send 26 = .ok (.bipush 10, 2) := by decide +kernel
theorem dX7_send_28 : decode cX7_send 28 = .ok (.iadd, 1) := by decide +kernel
theorem dX7_send_29 : decode cX7_send 29 = .ok (.sipush 8000, 3) := by decide +kernel
theorem dX7_send_32 : decode cX7_send 32 = .ok (.if_icmp .le 5, 3) := by decide +kernel
theorem dX7_send_35 : decode cX7_send 35 = .ok (.iconst (-1), 1) := by decide +kernel
theorem dX7_send_36 : decode cX7_send 36 = .ok (.ireturn, 1) := by decide +kernel
theorem dX7_send_37 : decode cX7_send 37 = .ok (.aload_n 0, 1) := by decide +kernel
theorem dX7_send_38 : decode cX7_send 38 = .ok (.iload_n 1, 1) := by decide +kernel
theorem dX7_send_39 : decode cX7_send 39 = .ok (.iload_n 2, 1) := by decide +kernel
theorem dX7_send_40 : decode cX7_send 40 = .ok (.aload_n 0, 1) := by decide +kernel
theorem dX7_send_41 : decode cX7_send 41 = .ok (.getfield 26, 3) := by decide +kernel
theorem dX7_send_44 : decode cX7_send 44 = .ok (.invokevirtual 64, 3) := by decide +kernel
theorem dX7_send_47 : decode cX7_send 47 = .ok (.istore_n 3, 1) := by decide +kernel
theorem dX7_send_48 : decode cX7_send 48 = .ok (.bipush 9, 2) := by decide +kernel
theorem dX7_send_50 : decode cX7_send 50 = .ok (.istore 4, 2) := by decide +kernel
theorem dX7_send_52 : decode cX7_send 52 = .ok (.iload 4, 2) := by decide +kernel
theorem dX7_send_54 : decode cX7_send 54 = .ok (.ifCond .lt 35, 3) := by decide +kernel
theorem dX7_send_57 : decode cX7_send 57 = .ok (.aload_n 0, 1) := by decide +kernel
theorem dX7_send_58 : decode cX7_send 58 = .ok (.getfield 19, 3) := by decide +kernel
theorem dX7_send_61 : decode cX7_send 61 = .ok (.aload_n 0, 1) := by decide +kernel
theorem dX7_send_62 : decode cX7_send 62 = .ok (.getfield 49, 3) := by decide +kernel
theorem dX7_send_65 : decode cX7_send 65 = .ok (.iload_n 3, 1) := by decide +kernel
theorem dX7_send_66 : decode cX7_send 66 = .ok (.iload 4, 2) := by decide +kernel
theorem dX7_send_68 : decode cX7_send 68 = .ok (.ishr, 1) := by decide +kernel
theorem dX7_send_69 : decode cX7_send 69 = .ok (.iconst 1, 1) := by decide +kernel
theorem dX7_send_70 : decode cX7_send 70 = .ok (.iand, 1) := by decide +kernel
theorem dX7_send_71 : decode cX7_send 71 = .ok (.i2b, 1) := by decide +kernel
theorem dX7_send_72 : decode cX7_send 72 = .ok (.bastore, 1) := by decide +kernel
theorem dX7_send_73 : decode cX7_send 73 = .ok (.aload_n 0, 1) := by decide +kernel
theorem dX7_send_74 : decode cX7_send 74 = .ok (.dup, 1) := by decide +kernel
theorem dX7_send_75 : decode cX7_send 75 = .ok (.getfield 49, 3) := by decide +kernel
theorem dX7_send_78 : decode cX7_send 78 = .ok (.iconst 1, 1) := by decide +kernel
theorem dX7_send_79 : decode cX7_send 79 = .ok (.iadd, 1) := by decide +kernel
theorem dX7_send_80 : decode cX7_send 80 = .ok (.putfield 49, 3) := by decide +kernel
theorem dX7_send_83 : decode cX7_send 83 = .ok (.iinc 4 (-1), 3) := by decide +kernel
theorem dX7_send_86 : decode cX7_send 86 = .ok (.goto (-34), 3) := by decide +kernel
theorem dX7_send_89 : decode cX7_send 89 = .ok (.aload_n 0, 1) := by decide +kernel
theorem dX7_send_90 : decode cX7_send 90 = .ok (.iload_n 3, 1) := by decide +kernel
theorem dX7_send_91 : decode cX7_send 91 = .ok (.aload_n 0, 1) := by decide +kernel
theorem dX7_send_92 : decode cX7_send 92 = .ok (.getfield 26, 3) := by decide +kernel
theorem dX7_send_95 : decode cX7_send 95 = .ok (.invokestatic 72, 3) := by decide +kernel
theorem dX7_send_98 : decode cX7_send 98 = .ok (.putfield 26, 3) := by decide +kernel
theorem dX7_send_101 : decode cX7_send 101 = .ok (.aload_n 0, 1) := by decide +kernel
theorem dX7_send_102 : decode cX7_send 102 = .ok (.dup, 1) := by decide +kernel
theorem dX7_send_103 : decode cX7_send 103 = .ok (.getfield 76, 3) := by decide +kernel
theorem dX7_send_106 : decode cX7_send 106 = .ok (.iconst 1, 1) := by decide +kernel
theorem dX7_send_107 : decode cX7_send 107 = .ok (.iadd, 1) := by decide +kernel
theorem dX7_send_108 : decode cX7_send 108 = .ok (.putfield 76, 3) := by decide +kernel
theorem dX7_send_111 : decode cX7_send 111 = .ok (.iload_n 3, 1) := by decide +kernel
theorem dX7_send_112 : decode cX7_send 112 = .ok (.ireturn, 1) := by decide +kernel
set_option maxRecDepth 20000 in
theorem ggX7_idle_X7_send : GoodIn wsX7_idle wsX7_send := goodIn_r _ [7, 1, 2, 8, 9, 10, 11, 6, 12, 13, 14, 15, 16, 17, 18, 19, 20, 21, 22, 23, 24, 25, 26, 27, 28, 29, 30, 31, 32, 33, 34, 35, 36, 37, 38, 39, 40, 41, 42, 43, 44, 45, 46, 47, 48, 49, 50, 51, 52, 53, 54, 55, 56, 57, 58, 59, 60, 61, 62, 63] (by decide +kernel) (by decide +kernel)
set_option maxRecDepth 20000 in
theorem gX7_idle_X7_send : GoodIn wsX7_idle (wsV RX7 79 RX7 yX7_send wsX7_send) := goodIn_app (goodIn_of _ (by decide +kernel)) ggX7_idle_X7_send
theorem dX7_idle_0 : decode cX7_idle 0 = .ok (.aload_n 0, 1) := by decide +kernel
theorem dX7_idle_1 : decode cX7_idle 1 = .ok (.getfield 49, 3) := by decide +kernel
theorem dX7_idle_4 : decode cX7_idle 4 = .ok (.bipush 20, 2) := by decide +kernel
theorem dX7_idle_6 : decode cX7_idle 6 = .ok (.iadd, 1) := by decide +kernel
theorem dX7_idle_7 : decode cX7_idle 7 = .ok (.sipush 8000, 3) := by decide +kernel
theorem dX7_idle_10 : decode cX7_idle 10 = .ok (.if_icmp .le 5, 3) := by decide +kernel
theorem dX7_idle_13 : decode cX7_idle 13 = .ok (.iconst 0, 1) := by decide +kernel
theorem dX7_idle_14 : decode cX7_idle 14 = .ok (.ireturn, 1) := by decide +kernel
theorem dX7_idle_15 : decode cX7_idle 15 = .ok (.aload_n 0, 1) := by decide +kernel
theorem dX7_idle_16 : decode cX7_idle 16 = .ok (.getfield 26, 3) := by decide +kernel
theorem dX7_idle_19 : decode cX7_idle 19 = .ok (.istore_n 1, 1) := by decide +kernel
theorem dX7_idle_20 : decode cX7_idle 20 = .ok (.aload_n 0, 1) := by decide +kernel
theorem dX7_idle_21 : decode cX7_idle 21 = .ok (.sipush 188, 3) := by decide +kernel
theorem dX7_idle_24 : decode cX7_idle 24 = .ok (.iconst 1, 1) := by decide +kernel
theorem dX7_idle_25 : decode cX7_idle 25 = .ok (.invokevirtual 79, 3) := by decide +kernel
theorem dX7_idle_28 : decode cX7_idle 28 = .ok (.pop, 1) := by decide +kernel
theorem dX7_idle_29 : decode cX7_idle 29 = .ok (.aload_n 0, 1) := by decide +kernel
theorem dX7_idle_30 : decode cX7_idle 30 = .ok (.iload_n 1, 1) := by decide +kernel
theorem dX7_idle_31 : decode cX7_idle 31 = .ok (.ifCond .le 9, 3) := by decide +kernel
theorem dX7_idle_34 : decode cX7_idle 34 = .ok (.sipush 197, 3) := by decide +kernel
theorem dX7_idle_37 : decode cX7_idle 37 = .ok (.goto 5, 3) := by decide +kernel
theorem dX7_idle_40 : decode cX7_idle 40 = .ok (.bipush 80, 2) := by decide +kernel
theorem dX7_idle_42 : decode cX7_idle 42 = .ok (.iconst 0, 1) := by decide +kernel
theorem dX7_idle_43 : decode cX7_idle 43 = .ok (.invokevirtual 79, 3) := by decide +kernel
theorem dX7_idle_46 : decode cX7_idle 46 = .ok (.pop, 1) := by decide +kernel
theorem dX7_idle_47 : decode cX7_idle 47 = .ok (.iconst 1, 1) := by decide +kernel
theorem dX7_idle_48 : decode cX7_idle 48 = .ok (.ireturn, 1) := by decide +kernel
theorem dX7_feed_0 : decode cX7_feed 0 = .ok (.iload_n 1, 1) := by decide +kernel
theorem dX7_feed_1 : decode cX7_feed 1 = .ok (.ifCond .lt 20, 3) := by decide +kernel
theorem dX7_feed_4 : decode cX7_feed 4 = .ok (.iload_n 1, 1) := by decide +kernel
theorem dX7_feed_5 : decode cX7_feed 5 = .ok (.sipush 255, 3) := by decide +kernel
theorem dX7_feed_8 : decode cX7_feed 8 = .ok (.if_icmp .gt 13, 3) := by decide +kernel
theorem dX7_feed_11 : decode cX7_feed 11 = .ok (.aload_n 0, 1) := by decide +kernel
theorem dX7_feed_12 : decode cX7_feed 12 = .ok (.getfield 83, 3) := by decide +kernel
theorem dX7_feed_15 : decode cX7_feed 15 = .ok (.sipush 400, 3) := by decide +kernel
theorem dX7_feed_18 : decode cX7_feed 18 = .ok (.if_icmp .ne 5, 3) := by decide +kernel
theorem dX7_feed_21 : decode cX7_feed 21 = .ok (.iconst 0, 1) := by decide +kernel
theorem dX7_feed_22 : decode cX7_feed 22 = .ok (.ireturn, 1) := by decide +kernel
theorem dX7_feed_23 : decode cX7_feed 23 = .ok (.aload_n 0, 1) := by decide +kernel
theorem dX7_feed_24 : decode cX7_feed 24 = .ok (.getfield 23, 3) := by decide +kernel
theorem dX7_feed_27 : decode cX7_feed 27 = .ok (.aload_n 0, 1) := by decide +kernel
theorem dX7_feed_28 : decode cX7_feed 28 = .ok (.getfield 83, 3) := by decide +kernel
theorem dX7_feed_31 : decode cX7_feed 31 = .ok (.iload_n 1, 1) := by decide +kernel
theorem dX7_feed_32 : decode cX7_feed 32 = .ok (.i2b, 1) := by decide +kernel
theorem dX7_feed_33 : decode cX7_feed 33 = .ok (.bastore, 1) := by decide +kernel
theorem dX7_feed_34 : decode cX7_feed 34 = .ok (.aload_n 0, 1) := by decide +kernel
theorem dX7_feed_35 : decode cX7_feed 35 = .ok (.dup, 1) := by decide +kernel
theorem dX7_feed_36 : decode cX7_feed 36 = .ok (.getfield 83, 3) := by decide +kernel
theorem dX7_feed_39 : decode cX7_feed 39 = .ok (.iconst 1, 1) := by decide +kernel
theorem dX7_feed_40 : decode cX7_feed 40 = .ok (.iadd, 1) := by decide +kernel
theorem dX7_feed_41 : decode cX7_feed 41 = .ok (.putfield 83, 3) := by decide +kernel
theorem dX7_feed_44 : decode cX7_feed 44 = .ok (.iconst 1, 1) := by decide +kernel
theorem dX7_feed_45 : decode cX7_feed 45 = .ok (.ireturn, 1) := by decide +kernel
set_option maxRecDepth 20000 in
theorem ggX7_frame_X7_send : GoodIn wsX7_frame wsX7_send := goodIn_r _ [9, 3, 10, 11, 2, 12, 13, 8, 14, 15, 16, 17, 18, 19, 20, 21, 22, 23, 24, 25, 26, 27, 28, 29, 30, 31, 32, 33, 34, 35, 36, 37, 38, 39, 40, 41, 42, 43, 44, 45, 46, 47, 48, 49, 50, 51, 52, 53, 54, 55, 56, 57, 58, 59, 60, 61, 62, 63, 64, 65] (by decide +kernel) (by decide +kernel)
set_option maxRecDepth 20000 in
theorem gX7_frame_X7_send : GoodIn wsX7_frame (wsV RX7 79 RX7 yX7_send wsX7_send) := goodIn_app (goodIn_of _ (by decide +kernel)) ggX7_frame_X7_send
theorem dX7_frame_0 : decode cX7_frame 0 = .ok (.aload_n 0, 1) := by decide +kernel
theorem dX7_frame_1 : decode cX7_frame 1 = .ok (.getfield 83, 3) := by decide +kernel
theorem dX7_frame_4 : decode cX7_frame 4 = .ok (.iconst 3, 1) := by decide +kernel
theorem dX7_frame_5 : decode cX7_frame 5 = .ok (.iadd, 1) := by decide +kernel
theorem dX7_frame_6 : decode cX7_frame 6 = .ok (.istore_n 1, 1) := by decide +kernel
theorem dX7_frame_7 : decode cX7_frame 7 = .ok (.iload_n 1, 1) := by decide +kernel
theorem dX7_frame_8 : decode cX7_frame 8 = .ok (.aload_n 0, 1) := by decide +kernel
theorem dX7_frame_9 : decode cX7_frame 9 = .ok (.getfield 76, 3) := by decide +kernel
theorem dX7_frame_12 : decode cX7_frame 12 = .ok (.iload_n 1, 1) := by decide +kernel
theorem dX7_frame_13 : decode cX7_frame 13 = .ok (.iadd, 1) := by decide +kernel
theorem dX7_frame_14 : decode cX7_frame 14 = .ok (.iconst 2, 1) := by decide +kernel
theorem dX7_frame_15 : decode cX7_frame 15 = .ok (.irem, 1) := by decide +kernel
theorem dX7_frame_16 : decode cX7_frame 16 = .ok (.iadd, 1) := by decide +kernel
theorem dX7_frame_17 : decode cX7_frame 17 = .ok (.istore_n 1, 1) := by decide +kernel
theorem dX7_frame_18 : decode cX7_frame 18 = .ok (.aload_n 0, 1) := by decide +kernel
theorem dX7_frame_19 : decode cX7_frame 19 = .ok (.getfield 49, 3) := by decide +kernel
theorem dX7_frame_22 : decode cX7_frame 22 = .ok (.bipush 10, 2) := by decide +kernel
theorem dX7_frame_24 : decode cX7_frame 24 = .ok (.iload_n 1, 1) := by decide +kernel
theorem dX7_frame_25 : decode cX7_frame 25 = .ok (.imul, 1) := by decide +kernel
theorem dX7_frame_26 : decode cX7_frame 26 = .ok (.iadd, 1) := by decide +kernel
theorem dX7_frame_27 : decode cX7_frame 27 = .ok (.sipush 8000, 3) := by decide +kernel
theorem dX7_frame_30 : decode cX7_frame 30 = .ok (.if_icmp .le 5, 3) := by decide +kernel
theorem dX7_frame_33 : decode cX7_frame 33 = .ok (.iconst (-1), 1) := by decide +kernel
theorem dX7_frame_34 : decode cX7_frame 34 = .ok (.ireturn, 1) := by decide +kernel
theorem dX7_frame_35 : decode cX7_frame 35 = .ok (.aload_n 0, 1) := by decide +kernel
theorem dX7_frame_36 : decode cX7_frame 36 = .ok (.sipush 251, 3) := by decide +kernel
theorem dX7_frame_39 : decode cX7_frame 39 = .ok (.iconst 1, 1) := by decide +kernel
theorem dX7_frame_40 : decode cX7_frame 40 = .ok (.invokevirtual 79, 3) := by decide +kernel
theorem dX7_frame_43 : decode cX7_frame 43 = .ok (.pop, 1) := by decide +kernel
theorem dX7_frame_44 : decode cX7_frame 44 = .ok (.iconst 0, 1) := by decide +kernel
theorem dX7_frame_45 : decode cX7_frame 45 = .ok (.istore_n 2, 1) := by decide +kernel
theorem dX7_frame_46 : decode cX7_frame 46 = .ok (.iload_n 2, 1) := by decide +kernel
theorem dX7_frame_47 : decode cX7_frame 47 = .ok (.aload_n 0, 1) := by decide +kernel
theorem dX7_frame_48 : decode cX7_frame 48 = .ok (.getfield 83, 3) := by decide +kernel
theorem dX7_frame_51 : decode cX7_frame 51 = .ok (.if_icmp .ge 25, 3) := by decide +kernel
theorem dX7_frame_54 : decode cX7_frame 54 = .ok (.aload_n 0, 1) := by decide +kernel
theorem dX7_frame_55 : decode cX7_frame 55 = .ok (.aload_n 0, 1) := by decide +kernel
theorem dX7_frame_56 : decode cX7_frame 56 = .ok (.getfield 23, 3) := by decide +kernel
theorem dX7_frame_59 : decode cX7_frame 59 = .ok (.iload_n 2, 1) := by decide +kernel
theorem dX7_frame_60 : decode cX7_frame 60 = .ok (.baload, 1) := by decide +kernel
theorem dX7_frame_61 : decode cX7_frame 61 = .ok (.sipush 255, 3) := by decide +kernel
theorem dX7_frame_64 : decode cX7_frame 64 = .ok (.iand, 1) := by decide +kernel
theorem dX7_frame_65 : decode cX7_frame 65 = .ok (.iconst 0, 1) := by decide +kernel
theorem dX7_frame_66 : decode cX7_frame 66 = .ok (.invokevirtual 79, 3) := by decide +kernel
theorem dX7_frame_69 : decode cX7_frame 69 = .ok (.pop, 1) := by decide +kernel
theorem dX7_frame_70 : decode cX7_frame 70 = .ok (.iinc 2 1, 3) := by decide +kernel
theorem dX7_frame_73 : decode cX7_frame 73 = .ok (.goto (-27), 3) := by decide +kernel
theorem dX7_frame_76 : decode cX7_frame 76 = .ok (.aload_n 0, 1) := by decide +kernel
theorem dX7_frame_77 : decode cX7_frame 77 = .ok (.sipush 253, 3) := by decide +kernel
theorem dX7_frame_80 : decode cX7_frame 80 = .ok (.iconst 1, 1) := by decide +kernel
theorem dX7_frame_81 : decode cX7_frame 81 = .ok (.invokevirtual 79, 3) := by decide +kernel
theorem dX7_frame_84 : decode cX7_frame 84 = .ok (.pop, 1) := by decide +kernel
theorem dX7_frame_85 : decode cX7_frame 85 = .ok (.aload_n 0, 1) := by decide +kernel
theorem dX7_frame_86 : decode cX7_frame 86 = .ok (.sipush 247, 3) := by decide +kernel
theorem dX7_frame_89 : decode cX7_frame 89 = .ok (.iconst 1, 1) := by decide +kernel
theorem dX7_frame_90 : decode cX7_frame 90 = .ok (.invokevirtual 79, 3) := by decide +kernel
theorem dX7_frame_93 : decode cX7_frame 93 = .ok (.pop, 1) := by decide +kernel
theorem dX7_frame_94 : decode cX7_frame 94 = .ok (.iload_n 1, 1) := by decide +kernel
theorem dX7_frame_95 : decode cX7_frame 95 = .ok (.aload_n 0, 1) := by decide +kernel
theorem dX7_frame_96 : decode cX7_frame 96 = .ok (.getfield 83, 3) := by decide +kernel
theorem dX7_frame_99 : decode cX7_frame 99 = .ok (.iconst 3, 1) := by decide +kernel
theorem dX7_frame_100 : decode cX7_frame 100 = .ok (.iadd, 1) := by decide +kernel
theorem dX7_frame_101 : decode cX7_frame 101 = .ok (.if_icmp .le 12, 3) := by decide +kernel
theorem dX7_frame_104 : decode cX7_frame 104 = .ok (.aload_n 0, 1) := by decide +kernel
theorem dX7_frame_105 : decode cX7_frame 105 = .ok (.sipush 247, 3) := by decide +kernel
theorem dX7_frame_108 : decode cX7_frame 108 = .ok (.iconst 1, 1) := by decide +kernel
theorem dX7_frame_109 : decode cX7_frame 109 = .ok (.invokevirtual 79, 3) := by decide +kernel
theorem dX7_frame_112 : decode cX7_frame 112 = .ok (.pop, 1) := by decide +kernel
theorem dX7_frame_113 : decode cX7_frame 113 = .ok (.aload_n 0, 1) := by decide +kernel
theorem dX7_frame_114 : decode cX7_frame 114 = .ok (.iconst 0, 1) := by decide +kernel
theorem dX7_frame_115 : decode cX7_frame 115 = .ok (.putfield 83, 3) := by decide +kernel
theorem dX7_frame_118 : decode cX7_frame 118 = .ok (.iload_n 1, 1) := by decide +kernel
theorem dX7_frame_119 : decode cX7_frame 119 = .ok (.ireturn, 1) := by decide +kernel
theorem dX7_bit_0 : decode cX7_bit 0 = .ok (.iload_n 1, 1) := by decide +kernel
theorem dX7_bit_1 : decode cX7_bit 1 = .ok (.ifCond .lt 18, 3) := by decide +kernel
theorem dX7_bit_4 : decode cX7_bit 4 = .ok (.iload_n 1, 1) := by decide +kernel
theorem dX7_bit_5 : decode cX7_bit 5 = .ok (.iconst 1, 1) := by decide +kernel
theorem dX7_bit_6 : decode cX7_bit 6 = .ok (.if_icmp .gt 13, 3) := by decide +kernel
theorem dX7_bit_9 : decode cX7_bit 9 = .ok (.aload_n 0, 1) := by decide +kernel
theorem dX7_bit_10 : decode cX7_bit 10 = .ok (.getfield 49, 3) := by decide +kernel
theorem dX7_bit_13 : decode cX7_bit 13 = .ok (.sipush 8000, 3) := by decide +kernel
theorem dX7_bit_16 : decode cX7_bit 16 = .ok (.if_icmp .ne 5, 3) := by decide +kernel
theorem dX7_bit_19 : decode cX7_bit 19 = .ok (.iconst 0, 1) := by decide +kernel
theorem dX7_bit_20 : decode cX7_bit 20 = .ok (.ireturn, 1) := by decide +kernel
theorem dX7_bit_21 : decode cX7_bit 21 = .ok (.aload_n 0, 1) := by decide +kernel
theorem dX7_bit_22 : decode cX7_bit 22 = .ok (.getfield 19, 3) := by decide +kernel
theorem dX7_bit_25 : decode cX7_bit 25 = .ok (.aload_n 0, 1) := by decide +kernel
theorem dX7_bit_26 : decode cX7_bit 26 = .ok (.getfield 49, 3) := by decide +kernel
theorem dX7_bit_29 : decode cX7_bit 29 = .ok (.iload_n 1, 1) := by decide +kernel
theorem dX7_bit_30 : decode cX7_bit 30 = .ok (.i2b, 1) := by decide +kernel
theorem dX7_bit_31 : decode cX7_bit 31 = .ok (.bastore, 1) := by decide +kernel
theorem dX7_bit_32 : decode cX7_bit 32 = .ok (.aload_n 0, 1) := by decide +kernel
theorem dX7_bit_33 : decode cX7_bit 33 = .ok (.dup, 1) := by decide +kernel
theorem dX7_bit_34 : decode cX7_bit 34 = .ok (.getfield 49, 3) := by decide +kernel
theorem dX7_bit_37 : decode cX7_bit 37 = .ok (.iconst 1, 1) := by decide +kernel
theorem dX7_bit_38 : decode cX7_bit 38 = .ok (.iadd, 1) := by decide +kernel
theorem dX7_bit_39 : decode cX7_bit 39 = .ok (.putfield 49, 3) := by decide +kernel
theorem dX7_bit_42 : decode cX7_bit 42 = .ok (.iconst 1, 1) := by decide +kernel
theorem dX7_bit_43 : decode cX7_bit 43 = .ok (.ireturn, 1) := by decide +kernel
theorem dX7_turn_0 : decode cX7_turn 0 = .ok (.iload_n 1, 1) := by decide +kernel
theorem dX7_turn_1 : decode cX7_turn 1 = .ok (.ifCond .lt 11, 3) := by decide +kernel
theorem dX7_turn_4 : decode cX7_turn 4 = .ok (.iload_n 1, 1) := by decide +kernel
theorem dX7_turn_5 : decode cX7_turn 5 = .ok (.aload_n 0, 1) := by decide +kernel
theorem dX7_turn_6 : decode cX7_turn 6 = .ok (.getfield 49, 3) := by decide +kernel
theorem dX7_turn_9 : decode cX7_turn 9 = .ok (.if_icmp .lt 5, 3) := by decide +kernel
theorem dX7_turn_12 : decode cX7_turn 12 = .ok (.iconst 0, 1) := by decide +kernel
theorem dX7_turn_13 : decode cX7_turn 13 = .ok (.ireturn, 1) := by decide +kernel
theorem dX7_turn_14 : decode cX7_turn 14 = .ok (.aload_n 0, 1) := by decide +kernel
theorem dX7_turn_15 : decode cX7_turn 15 = .ok (.getfield 19, 3) := by decide +kernel
theorem dX7_turn_18 : decode cX7_turn 18 = .ok (.iload_n 1, 1) := by decide +kernel
theorem dX7_turn_19 : decode cX7_turn 19 = .ok (.iconst 1, 1) := by decide +kernel
theorem dX7_turn_20 : decode cX7_turn 20 = .ok (.aload_n 0, 1) := by decide +kernel
theorem dX7_turn_21 : decode cX7_turn 21 = .ok (.getfield 19, 3) := by decide +kernel
theorem dX7_turn_24 : decode cX7_turn 24 = .ok (.iload_n 1, 1) := by decide +kernel
theorem dX7_turn_25 : decode cX7_turn 25 = .ok (.baload, 1) := by decide +kernel
theorem dX7_turn_26 : decode cX7_turn 26 = .ok (.isub, 1) := by decide +kernel
theorem dX7_turn_27 : decode cX7_turn 27 = .ok (.i2b, 1) := by decide +kernel
theorem dX7_turn_28 : decode cX7_turn 28 = .ok (.bastore, 1) := by decide +kernel
theorem dX7_turn_29 : decode cX7_turn 29 = .ok (.iconst 1, 1) := by decide +kernel
theorem dX7_turn_30 : decode cX7_turn 30 = .ok (.ireturn, 1) := by decide +kernel
theorem dX7_drop_0 : decode cX7_drop 0 = .ok (.iload_n 1, 1) := by decide +kernel
theorem dX7_drop_1 : decode cX7_drop 1 = .ok (.ifCond .lt 11, 3) := by decide +kernel
theorem dX7_drop_4 : decode cX7_drop 4 = .ok (.iload_n 1, 1) := by decide +kernel
theorem dX7_drop_5 : decode cX7_drop 5 = .ok (.aload_n 0, 1) := by decide +kernel
theorem dX7_drop_6 : decode cX7_drop 6 = .ok (.getfield 49, 3) := by decide +kernel
theorem dX7_drop_9 : decode cX7_drop 9 = .ok (.if_icmp .lt 5, 3) := by decide +kernel
theorem dX7_drop_12 : decode cX7_drop 12 = .ok (.iconst 0, 1) := by decide +kernel
theorem dX7_drop_13 : decode cX7_drop 13 = .ok (.ireturn, 1) := by decide +kernel
theorem dX7_drop_14 : decode cX7_drop 14 = .ok (.aload_n 0, 1) := by decide +kernel
theorem dX7_drop_15 : decode cX7_drop 15 = .ok (.dup, 1) := by decide +kernel
theorem dX7_drop_16 : decode cX7_drop 16 = .ok (.getfield 49, 3) := by decide +kernel
theorem dX7_drop_19 : decode cX7_drop 19 = .ok (.iconst 1, 1) := by decide +kernel
theorem dX7_drop_20 : decode cX7_drop 20 = .ok (.isub, 1) := by decide +kernel
theorem dX7_drop_21 : decode cX7_drop 21 = .ok (.putfield 49, 3) := by decide +kernel
theorem dX7_drop_24 : decode cX7_drop 24 = .ok (.iload_n 1, 1) := by decide +kernel
theorem dX7_drop_25 : decode cX7_drop 25 = .ok (.istore_n 2, 1) := by decide +kernel
theorem dX7_drop_26 : decode cX7_drop 26 = .ok (.iload_n 2, 1) := by decide +kernel
theorem dX7_drop_27 : decode cX7_drop 27 = .ok (.aload_n 0, 1) := by decide +kernel
theorem dX7_drop_28 : decode cX7_drop 28 = .ok (.getfield 49, 3) := by decide +kernel
theorem dX7_drop_31 : decode cX7_drop 31 = .ok (.if_icmp .ge 23, 3) := by decide +kernel
theorem dX7_drop_34 : decode cX7_drop 34 = .ok (.aload_n 0, 1) := by decide +kernel
theorem dX7_drop_35 : decode cX7_drop 35 = .ok (.getfield 19, 3) := by decide +kernel
theorem dX7_drop_38 : decode cX7_drop 38 = .ok (.iload_n 2, 1) := by decide +kernel
theorem dX7_drop_39 : decode cX7_drop 39 = .ok (.aload_n 0, 1) := by decide +kernel
theorem dX7_drop_40 : decode cX7_drop 40 = .ok (.getfield 19, 3) := by decide +kernel
theorem dX7_drop_43 : decode cX7_drop 43 = .ok (.iload_n 2, 1) := by decide +kernel
theorem dX7_drop_44 : decode cX7_drop 44 = .ok (.iconst 1, 1) := by decide +kernel
theorem dX7_drop_45 : decode cX7_drop 45 = .ok (.iadd, 1) := by decide +kernel
theorem dX7_drop_46 : decode cX7_drop 46 = .ok (.baload, 1) := by decide +kernel
theorem dX7_drop_47 : decode cX7_drop 47 = .ok (.bastore, 1) := by decide +kernel
theorem dX7_drop_48 : decode cX7_drop 48 = .ok (.iinc 2 1, 3) := by decide +kernel
theorem dX7_drop_51 : decode cX7_drop 51 = .ok (.goto (-25), 3) := by decide +kernel
theorem dX7_drop_54 : decode cX7_drop 54 = .ok (.iconst 1, 1) := by decide +kernel
theorem dX7_drop_55 : decode cX7_drop 55 = .ok (.ireturn, 1) := by decide +kernel
theorem dX7_line_0 : decode cX7_line 0 = .ok (.iload_n 1, 1) := by decide +kernel
theorem dX7_line_1 : decode cX7_line 1 = .ok (.ifCond .lt 20, 3) := by decide +kernel
theorem dX7_line_4 : decode cX7_line 4 = .ok (.iload_n 1, 1) := by decide +kernel
theorem dX7_line_5 : decode cX7_line 5 = .ok (.aload_n 0, 1) := by decide +kernel
theorem dX7_line_6 : decode cX7_line 6 = .ok (.getfield 49, 3) := by decide +kernel
theorem dX7_line_9 : decode cX7_line 9 = .ok (.if_icmp .ge 12, 3) := by decide +kernel
theorem dX7_line_12 : decode cX7_line 12 = .ok (.aload_n 0, 1) := by decide +kernel
theorem dX7_line_13 : decode cX7_line 13 = .ok (.getfield 19, 3) := by decide +kernel
theorem dX7_line_16 : decode cX7_line 16 = .ok (.iload_n 1, 1) := by decide +kernel
theorem dX7_line_17 : decode cX7_line 17 = .ok (.baload, 1) := by decide +kernel
theorem dX7_line_18 : decode cX7_line 18 = .ok (.goto 4, 3) := by decide +kernel
theorem dX7_line_21 : decode cX7_line 21 = .ok (.iconst (-1), 1) := by decide +kernel
theorem dX7_line_22 : decode cX7_line 22 = .ok (.ireturn, 1) := by decide +kernel
theorem dX7_size_0 : decode cX7_size 0 = .ok (.aload_n 0, 1) := by decide +kernel
theorem dX7_size_1 : decode cX7_size 1 = .ok (.getfield 49, 3) := by decide +kernel
theorem dX7_size_4 : decode cX7_size 4 = .ok (.ireturn, 1) := by decide +kernel
theorem dX7_disparity_0 : decode cX7_disparity 0 = .ok (.iload_n 1, 1) := by decide +kernel
theorem dX7_disparity_1 : decode cX7_disparity 1 = .ok (.ifCond .ne 10, 3) := by decide +kernel
theorem dX7_disparity_4 : decode cX7_disparity 4 = .ok (.aload_n 0, 1) := by decide +kernel
theorem dX7_disparity_5 : decode cX7_disparity 5 = .ok (.getfield 26, 3) := by decide +kernel
theorem dX7_disparity_8 : decode cX7_disparity 8 = .ok (.goto 16, 3) := by decide +kernel
theorem dX7_disparity_11 : decode cX7_disparity 11 = .ok (.iload_n 1, 1) := by decide +kernel
theorem dX7_disparity_12 : decode cX7_disparity 12 = .ok (.iconst 1, 1) := by decide +kernel
theorem dX7_disparity_13 : decode cX7_disparity 13 = .ok (.if_icmp .ne 10, 3) := by decide +kernel
theorem dX7_disparity_16 : decode cX7_disparity 16 = .ok (.aload_n 0, 1) := by decide +kernel
theorem dX7_disparity_17 : decode cX7_disparity 17 = .ok (.getfield 30, 3) := by decide +kernel
theorem dX7_disparity_20 : decode cX7_disparity 20 = .ok (.goto 4, 3) := by decide +kernel
theorem dX7_disparity_23 : decode cX7_disparity 23 = .ok (.iconst 0, 1) := by decide +kernel
theorem dX7_disparity_24 : decode cX7_disparity 24 = .ok (.ireturn, 1) := by decide +kernel
set_option maxRecDepth 20000 in
theorem ggX7_take_X7_takeBit : GoodIn wsX7_take wsX7_takeBit := goodIn_r _ [7, 8, 9, 10, 11, 12, 13, 14, 6, 15, 16, 17, 18, 19, 20, 21, 22, 23, 24, 25, 26, 27, 28, 29, 30, 31, 32, 33, 34, 35, 36, 37, 38, 39, 40, 41, 42, 43, 44, 45, 46, 47, 48, 49, 50, 51, 52, 53, 54, 55, 56, 57, 58, 59, 60, 61, 62, 63, 64, 65, 66, 67, 68, 69, 70, 71, 72, 73, 74, 75, 76, 77, 78, 79, 80, 81, 82, 83, 84, 85, 86, 87, 88, 89, 90, 91, 92, 93, 94, 95, 96, 97, 98, 99, 100, 101, 102, 103, 104, 105, 106, 107] (by decide +kernel) (by decide +kernel)
set_option maxRecDepth 20000 in
theorem gX7_take_X7_takeBit : GoodIn wsX7_take (wsV RX7 86 RX7 yX7_takeBit wsX7_takeBit) := goodIn_app (goodIn_of _ (by decide +kernel)) ggX7_take_X7_takeBit
theorem dX7_take_0 : decode cX7_take 0 = .ok (.iload_n 1, 1) := by decide +kernel
theorem dX7_take_1 : decode cX7_take 1 = .ok (.ifCond .lt 10, 3) := by decide +kernel
theorem dX7_take_4 : decode cX7_take 4 = .ok (.iload_n 1, 1) := by decide +kernel
theorem dX7_take_5 : decode cX7_take 5 = .ok (.sipush 8000, 3) := by decide +kernel
theorem dX7_take_8 : decode cX7_take 8 = .ok (.if_icmp .le 5, 3) := by decide +kernel
theorem dX7_take_11 : decode cX7_take 11 = .ok (.iconst (-1), 1) := by decide +kernel
theorem dX7_take_12 : decode cX7_take 12 = .ok (.ireturn, 1) := by decide +kernel
theorem dX7_take_13 : decode cX7_take 13 = .ok (.iload_n 1, 1) := by decide +kernel
theorem dX7_take_14 : decode cX7_take 14 = .ok (.aload_n 0, 1) := by decide +kernel
theorem dX7_take_15 : decode cX7_take 15 = .ok (.getfield 49, 3) := by decide +kernel
theorem dX7_take_18 : decode cX7_take 18 = .ok (.if_icmp .ge 7, 3) := by decide +kernel
theorem dX7_take_21 : decode cX7_take 21 = .ok (.iload_n 1, 1) := by decide +kernel
theorem dX7_take_22 : decode cX7_take 22 = .ok (.goto 7, 3) := by decide +kernel
theorem dX7_take_25 : decode cX7_take 25 = .ok (.aload_n 0, 1) := by decide +kernel
theorem dX7_take_26 : decode cX7_take 26 = .ok (.getfield 49, 3) := by decide +kernel
theorem dX7_take_29 : decode cX7_take 29 = .ok (.istore_n 2, 1) := by decide +kernel
theorem dX7_take_30 : decode cX7_take 30 = .ok (.iconst 0, 1) := by decide +kernel
theorem dX7_take_31 : decode cX7_take 31 = .ok (.istore_n 3, 1) := by decide +kernel
theorem dX7_take_32 : decode cX7_take 32 = .ok (.iload_n 3, 1) := by decide +kernel
theorem dX7_take_33 : decode cX7_take 33 = .ok (.iload_n 2, 1) := by decide +kernel
theorem dX7_take_34 : decode cX7_take 34 = .ok (.if_icmp .ge 19, 3) := by decide +kernel
theorem dX7_take_37 : decode cX7_take 37 = .ok (.aload_n 0, 1) := by decide +kernel
theorem dX7_take_38 : decode cX7_take 38 = .ok (.aload_n 0, 1) := by decide +kernel
theorem dX7_take_39 : decode cX7_take 39 = .ok (.getfield 19, 3) := by decide +kernel
theorem dX7_take_42 : decode cX7_take 42 = .ok (.iload_n 3, 1) := by decide +kernel
theorem dX7_take_43 : decode cX7_take 43 = .ok (.baload, 1) := by decide +kernel
theorem dX7_take_44 : decode cX7_take 44 = .ok (.invokevirtual 86, 3) := by decide +kernel
theorem dX7_take_47 : decode cX7_take 47 = .ok (.iinc 3 1, 3) := by decide +kernel
theorem dX7_take_50 : decode cX7_take 50 = .ok (.goto (-18), 3) := by decide +kernel
theorem dX7_take_53 : decode cX7_take 53 = .ok (.aload_n 0, 1) := by decide +kernel
theorem dX7_take_54 : decode cX7_take 54 = .ok (.dup, 1) := by decide +kernel
theorem dX7_take_55 : decode cX7_take 55 = .ok (.getfield 49, 3) := by decide +kernel
theorem dX7_take_58 : decode cX7_take 58 = .ok (.iload_n 2, 1) := by decide +kernel
theorem dX7_take_59 : decode cX7_take 59 = .ok (.isub, 1) := by decide +kernel
theorem dX7_take_60 : decode cX7_take 60 = .ok (.putfield 49, 3) := by decide +kernel
theorem dX7_take_63 : decode cX7_take 63 = .ok (.iconst 0, 1) := by decide +kernel
theorem dX7_take_64 : decode cX7_take 64 = .ok (.istore_n 3, 1) := by decide +kernel
theorem dX7_take_65 : decode cX7_take 65 = .ok (.iload_n 3, 1) := by decide +kernel
theorem dX7_take_66 : decode cX7_take 66 = .ok (.aload_n 0, 1) := by decide +kernel
theorem dX7_take_67 : decode cX7_take 67 = .ok (.getfield 49, 3) := by decide +kernel
theorem dX7_take_70 : decode cX7_take 70 = .ok (.if_icmp .ge 23, 3) := by decide +kernel
theorem dX7_take_73 : decode cX7_take 73 = .ok (.aload_n 0, 1) := by decide +kernel
theorem dX7_take_74 : decode cX7_take 74 = .ok (.getfield 19, 3) := by decide +kernel
theorem dX7_take_77 : decode cX7_take 77 = .ok (.iload_n 3, 1) := by decide +kernel
theorem dX7_take_78 : decode cX7_take 78 = .ok (.aload_n 0, 1) := by decide +kernel
theorem dX7_take_79 : decode cX7_take 79 = .ok (.getfield 19, 3) := by decide +kernel
theorem dX7_take_82 : decode cX7_take 82 = .ok (.iload_n 3, 1) := by decide +kernel
theorem dX7_take_83 : decode cX7_take 83 = .ok (.iload_n 2, 1) := by decide +kernel
theorem dX7_take_84 : decode cX7_take 84 = .ok (.iadd, 1) := by decide +kernel
theorem dX7_take_85 : decode cX7_take 85 = .ok (.baload, 1) := by decide +kernel
theorem dX7_take_86 : decode cX7_take 86 = .ok (.bastore, 1) := by decide +kernel
theorem dX7_take_87 : decode cX7_take 87 = .ok (.iinc 3 1, 3) := by decide +kernel
theorem dX7_take_90 : decode cX7_take 90 = .ok (.goto (-25), 3) := by decide +kernel
theorem dX7_take_93 : decode cX7_take 93 = .ok (.iload_n 2, 1) := by decide +kernel
theorem dX7_take_94 : decode cX7_take 94 = .ok (.ireturn, 1) := by decide +kernel
theorem dX7_isComma_0 : decode cX7_isComma 0 = .ok (.iload_n 0, 1) := by decide +kernel
theorem dX7_isComma_1 : decode cX7_isComma 1 = .ok (.iconst 3, 1) := by decide +kernel
theorem dX7_isComma_2 : decode cX7_isComma 2 = .ok (.ishr, 1) := by decide +kernel
theorem dX7_isComma_3 : decode cX7_isComma 3 = .ok (.bipush 31, 2) := by decide +kernel
theorem dX7_isComma_5 : decode cX7_isComma 5 = .ok (.if_icmp .eq 11, 3) := by decide +kernel
theorem dX7_isComma_8 : decode cX7_isComma 8 = .ok (.iload_n 0, 1) := by decide +kernel
theorem dX7_isComma_9 : decode cX7_isComma 9 = .ok (.iconst 3, 1) := by decide +kernel
theorem dX7_isComma_10 : decode cX7_isComma 10 = .ok (.ishr, 1) := by decide +kernel
theorem dX7_isComma_11 : decode cX7_isComma 11 = .ok (.bipush 96, 2) := by decide +kernel
theorem dX7_isComma_13 : decode cX7_isComma 13 = .ok (.if_icmp .ne 7, 3) := by decide +kernel
theorem dX7_isComma_16 : decode cX7_isComma 16 = .ok (.iconst 1, 1) := by decide +kernel
theorem dX7_isComma_17 : decode cX7_isComma 17 = .ok (.goto 4, 3) := by decide +kernel
theorem dX7_isComma_20 : decode cX7_isComma 20 = .ok (.iconst 0, 1) := by decide +kernel
theorem dX7_isComma_21 : decode cX7_isComma 21 = .ok (.ireturn, 1) := by decide +kernel
set_option maxRecDepth 20000 in
theorem ggX7_takeBit_X7_isComma : GoodIn wsX7_takeBit wsX7_isComma := goodIn_r _ [9] (by decide +kernel) (by decide +kernel)
set_option maxRecDepth 20000 in
theorem gX7_takeBit_X7_isComma : GoodIn wsX7_takeBit (va_wsS RX7 99 yX7_isComma wsX7_isComma) := goodIn_app (goodIn_of _ (by decide +kernel)) ggX7_takeBit_X7_isComma
set_option maxRecDepth 20000 in
theorem ggX7_takeBit_X7_takeGroup : GoodIn wsX7_takeBit wsX7_takeGroup := goodIn_r _ [13, 1, 4, 5, 14, 15, 2, 3, 16, 17, 18, 19, 20, 8, 21, 22, 23, 24, 25, 26, 27, 28, 29, 30, 31, 32, 33, 34, 35, 36, 37, 38, 39, 40, 6, 7, 9, 41, 42, 43, 44, 45, 46, 47, 48, 49, 50, 51, 52, 53, 54, 55, 56, 57, 58, 59, 60, 61, 62, 63, 64, 65, 66, 67, 68, 69, 70, 71, 72, 73, 74, 75, 76, 77, 78, 79, 80, 81, 82, 83, 84, 85, 86, 87, 88, 89, 90, 91, 92, 93, 94, 95, 96, 97, 98, 99, 100, 101] (by decide +kernel) (by decide +kernel)
set_option maxRecDepth 20000 in
theorem gX7_takeBit_X7_takeGroup : GoodIn wsX7_takeBit (wsV RX7 106 RX7 yX7_takeGroup wsX7_takeGroup) := goodIn_app (goodIn_of _ (by decide +kernel)) ggX7_takeBit_X7_takeGroup
theorem dX7_takeBit_0 : decode cX7_takeBit 0 = .ok (.aload_n 0, 1) := by decide +kernel
theorem dX7_takeBit_1 : decode cX7_takeBit 1 = .ok (.aload_n 0, 1) := by decide +kernel
theorem dX7_takeBit_2 : decode cX7_takeBit 2 = .ok (.getfield 90, 3) := by decide +kernel
theorem dX7_takeBit_5 : decode cX7_takeBit 5 = .ok (.iconst 1, 1) := by decide +kernel
theorem dX7_takeBit_6 : decode cX7_takeBit 6 = .ok (.ishl, 1) := by decide +kernel
theorem dX7_takeBit_7 : decode cX7_takeBit 7 = .ok (.iload_n 1, 1) := by decide +kernel
theorem dX7_takeBit_8 : decode cX7_takeBit 8 = .ok (.ior, 1) := by decide +kernel
theorem dX7_takeBit_9 : decode cX7_takeBit 9 = .ok (.sipush 1023, 3) := by decide +kernel
theorem dX7_takeBit_12 : decode cX7_takeBit 12 = .ok (.iand, 1) := by decide +kernel
theorem dX7_takeBit_13 : decode cX7_takeBit 13 = .ok (.putfield 90, 3) := by decide +kernel
theorem dX7_takeBit_16 : decode cX7_takeBit 16 = .ok (.aload_n 0, 1) := by decide +kernel
theorem dX7_takeBit_17 : decode cX7_takeBit 17 = .ok (.dup, 1) := by decide +kernel
theorem dX7_takeBit_18 : decode cX7_takeBit 18 = .ok (.getfield 93, 3) := by decide +kernel
theorem dX7_takeBit_21 : decode cX7_takeBit 21 = .ok (.iconst 1, 1) := by decide +kernel
theorem dX7_takeBit_22 : decode cX7_takeBit 22 = .ok (.iadd, 1) := by decide +kernel
theorem dX7_takeBit_23 : decode cX7_takeBit 23 = .ok (.putfield 93, 3) := by decide +kernel
theorem dX7_takeBit_26 : decode cX7_takeBit 26 = .ok (.aload_n 0, 1) := by decide +kernel
theorem dX7_takeBit_27 : decode cX7_takeBit 27 = .ok (.getfield 96, 3) := by decide +kernel
theorem dX7_takeBit_30 : decode cX7_takeBit 30 = .ok (.ifCond .ne 60, 3) := by decide +kernel
theorem dX7_takeBit_33 : decode cX7_takeBit 33 = .ok (.aload_n 0, 1) := by decide +kernel
theorem dX7_takeBit_34 : decode cX7_takeBit 34 = .ok (.getfield 93, 3) := by decide +kernel
theorem dX7_takeBit_37 : decode cX7_takeBit 37 = .ok (.bipush 10, 2) := by decide +kernel
theorem dX7_takeBit_39 : decode cX7_takeBit 39 = .ok (.if_icmp .lt 65, 3) := by decide +kernel
theorem dX7_takeBit_42 : decode cX7_takeBit 42 = .ok (.aload_n 0, 1) := by decide +kernel
theorem dX7_takeBit_43 : decode cX7_takeBit 43 = .ok (.getfield 90, 3) := by decide +kernel
theorem dX7_takeBit_46 : decode cX7_takeBit 46 = .ok (.invokestatic 99, 3) := by decide +kernel
theorem dX7_takeBit_49 : decode cX7_takeBit 49 = .ok (.ifCond .eq 55, 3) := by decide +kernel
theorem dX7_takeBit_52 : decode cX7_takeBit 52 = .ok (.aload_n 0, 1) := by decide +kernel
theorem dX7_takeBit_53 : decode cX7_takeBit 53 = .ok (.aload_n 0, 1) := by decide +kernel
theorem dX7_takeBit_54 : decode cX7_takeBit 54 = .ok (.getfield 90, 3) := by decide +kernel
theorem dX7_takeBit_57 : decode cX7_takeBit 57 = .ok (.iconst 3, 1) := by decide +kernel
theorem dX7_takeBit_58 : decode cX7_takeBit 58 = .ok (.ishr, 1) := by decide +kernel
theorem dX7_takeBit_59 : decode cX7_takeBit 59 = .ok (.bipush 31, 2) := by decide +kernel
theorem dX7_takeBit_61 : decode cX7_takeBit 61 = .ok (.if_icmp .ne 7, 3) := by decide +kernel
theorem dX7_takeBit_64 : decode cX7_takeBit 64 = .ok (.iconst (-1), 1) := by decide +kernel
theorem dX7_takeBit_65 : decode cX7_takeBit 65 = .ok (.goto 4, 3) := by decide +kernel
theorem dX7_takeBit_68 : decode cX7_takeBit 68 = .ok (.iconst 1, 1) := by decide +kernel
theorem dX7_takeBit_69 : decode cX7_takeBit 69 = .ok (.putfield 30, 3) := by decide +kernel
theorem dX7_takeBit_72 : decode cX7_takeBit 72 = .ok (.aload_n 0, 1) := by decide +kernel
theorem dX7_takeBit_73 : decode cX7_takeBit 73 = .ok (.iconst 0, 1) := by decide +kernel
theorem dX7_takeBit_74 : decode cX7_takeBit 74 = .ok (.putfield 102, 3) := by decide +kernel
theorem dX7_takeBit_77 : decode cX7_takeBit 77 = .ok (.aload_n 0, 1) := by decide +kernel
theorem dX7_takeBit_78 : decode cX7_takeBit 78 = .ok (.iconst 1, 1) := by decide +kernel
theorem dX7_takeBit_79 : decode cX7_takeBit 79 = .ok (.putfield 96, 3) := by decide +kernel
theorem dX7_takeBit_82 : decode cX7_takeBit 82 = .ok (.aload_n 0, 1) := by decide +kernel
theorem dX7_takeBit_83 : decode cX7_takeBit 83 = .ok (.iconst 1, 1) := by decide +kernel
theorem dX7_takeBit_84 : decode cX7_takeBit 84 = .ok (.invokevirtual 106, 3) := by decide +kernel
theorem dX7_takeBit_87 : decode cX7_takeBit 87 = .ok (.goto 17, 3) := by decide +kernel
theorem dX7_takeBit_90 : decode cX7_takeBit 90 = .ok (.aload_n 0, 1) := by decide +kernel
theorem dX7_takeBit_91 : decode cX7_takeBit 91 = .ok (.getfield 93, 3) := by decide +kernel
theorem dX7_takeBit_94 : decode cX7_takeBit 94 = .ok (.bipush 10, 2) := by decide +kernel
theorem dX7_takeBit_96 : decode cX7_takeBit 96 = .ok (.if_icmp .ne 8, 3) := by decide +kernel
theorem dX7_takeBit_99 : decode cX7_takeBit 99 = .ok (.aload_n 0, 1) := by decide +kernel
theorem dX7_takeBit_100 : decode cX7_takeBit 100 = .ok (.iconst 0, 1) := by decide +kernel
theorem dX7_takeBit_101 : decode cX7_takeBit 101 = .ok (.invokevirtual 106, 3) := by decide +kernel
theorem dX7_takeBit_104 : decode cX7_takeBit 104 = .ok (.return_, 1) := by decide +kernel
set_option maxRecDepth 20000 in
theorem ggX7_takeGroup_X7_decode : GoodIn wsX7_takeGroup wsX7_decode := goodIn_r _ [14, 15, 16, 17, 13, 18, 19, 20, 21, 22, 23, 24, 25, 26, 27, 28, 29, 30, 31, 32, 33, 66, 67, 68, 69, 70, 71, 72, 73, 74, 75, 76, 77, 78, 79, 80, 81, 82, 83, 84, 85, 86, 87, 88, 89, 90, 91, 92, 93, 94, 95, 96, 97] (by decide +kernel) (by decide +kernel)
set_option maxRecDepth 20000 in
theorem gX7_takeGroup_X7_decode : GoodIn wsX7_takeGroup (wsV RX7 110 RX7 yX7_decode wsX7_decode) := goodIn_app (goodIn_of _ (by decide +kernel)) ggX7_takeGroup_X7_decode
set_option maxRecDepth 20000 in
theorem ggX7_takeGroup_X7_isComma : GoodIn wsX7_takeGroup wsX7_isComma := goodIn_r _ [36] (by decide +kernel) (by decide +kernel)
set_option maxRecDepth 20000 in
theorem gX7_takeGroup_X7_isComma : GoodIn wsX7_takeGroup (va_wsS RX7 99 yX7_isComma wsX7_isComma) := goodIn_app (goodIn_of _ (by decide +kernel)) ggX7_takeGroup_X7_isComma
set_option maxRecDepth 20000 in
theorem ggX7_takeGroup_X7_behindGroup : GoodIn wsX7_takeGroup wsX7_behindGroup := goodIn_r _ [39, 25, 26, 13, 27, 28, 29, 30] (by decide +kernel) (by decide +kernel)
set_option maxRecDepth 20000 in
theorem gX7_takeGroup_X7_behindGroup : GoodIn wsX7_takeGroup (va_wsS RX7 72 yX7_behindGroup wsX7_behindGroup) := goodIn_app (goodIn_of _ (by decide +kernel)) ggX7_takeGroup_X7_behindGroup
set_option maxRecDepth 20000 in
theorem ggX7_takeGroup_X7_searchAgain : GoodIn wsX7_takeGroup wsX7_searchAgain := goodIn_r _ [43, 7, 8, 6, 44, 45, 46, 47, 48, 13, 49, 50, 51, 52, 53, 54, 55, 56, 57, 66, 67, 68, 69, 70, 71, 72, 73, 74, 75, 76, 77, 78, 79, 80, 81, 82, 83, 84, 85, 86, 87, 88, 89, 90, 91, 92, 93, 94, 95, 96, 97] (by decide +kernel) (by decide +kernel)
set_option maxRecDepth 20000 in
theorem gX7_takeGroup_X7_searchAgain : GoodIn wsX7_takeGroup (wsV RX7 119 RX7 yX7_searchAgain wsX7_searchAgain) := goodIn_app (goodIn_of _ (by decide +kernel)) ggX7_takeGroup_X7_searchAgain
set_option maxRecDepth 20000 in
theorem ggX7_takeGroup_X7_receive : GoodIn wsX7_takeGroup wsX7_receive := goodIn_r _ [61, 62, 63, 45, 64, 65, 56, 57, 46, 47, 48, 13, 49, 50, 51, 52, 53, 54, 55, 66, 67, 68, 69, 70, 71, 72, 73, 74, 75, 76, 77, 78, 79, 80, 81, 82, 83, 84, 85, 86, 87, 88, 89, 90, 91, 92, 93, 94, 95, 96, 97] (by decide +kernel) (by decide +kernel)
set_option maxRecDepth 20000 in
theorem gX7_takeGroup_X7_receive : GoodIn wsX7_takeGroup (wsV RX7 128 RX7 yX7_receive wsX7_receive) := goodIn_app (goodIn_of _ (by decide +kernel)) ggX7_takeGroup_X7_receive
theorem dX7_takeGroup_0 : decode cX7_takeGroup 0 = .ok (.aload_n 0, 1) := by decide +kernel
theorem dX7_takeGroup_1 : decode cX7_takeGroup 1 = .ok (.aload_n 0, 1) := by decide +kernel
theorem dX7_takeGroup_2 : decode cX7_takeGroup 2 = .ok (.getfield 90, 3) := by decide +kernel
theorem dX7_takeGroup_5 : decode cX7_takeGroup 5 = .ok (.aload_n 0, 1) := by decide +kernel
theorem dX7_takeGroup_6 : decode cX7_takeGroup 6 = .ok (.getfield 30, 3) := by decide +kernel
theorem dX7_takeGroup_9 : decode cX7_takeGroup 9 = .ok (.invokevirtual 110, 3) := by decide +kernel
theorem dX7_takeGroup_12 : decode cX7_takeGroup 12 = .ok (.istore_n 2, 1) := by decide +kernel
theorem dX7_takeGroup_13 : decode cX7_takeGroup 13 = .ok (.iload_n 2, 1) := by decide +kernel
theorem dX7_takeGroup_14 : decode cX7_takeGroup 14 = .ok (.iconst (-1), 1) := by decide +kernel
theorem dX7_takeGroup_15 : decode cX7_takeGroup 15 = .ok (.if_icmp .eq 7, 3) := by decide +kernel
theorem dX7_takeGroup_18 : decode cX7_takeGroup 18 = .ok (.iconst 1, 1) := by decide +kernel
theorem dX7_takeGroup_19 : decode cX7_takeGroup 19 = .ok (.goto 4, 3) := by decide +kernel
theorem dX7_takeGroup_22 : decode cX7_takeGroup 22 = .ok (.iconst 0, 1) := by decide +kernel
theorem dX7_takeGroup_23 : decode cX7_takeGroup 23 = .ok (.istore_n 3, 1) := by decide +kernel
theorem dX7_takeGroup_24 : decode cX7_takeGroup 24 = .ok (.aload_n 0, 1) := by decide +kernel
theorem dX7_takeGroup_25 : decode cX7_takeGroup 25 = .ok (.getfield 90, 3) := by decide +kernel
theorem dX7_takeGroup_28 : decode cX7_takeGroup 28 = .ok (.invokestatic 99, 3) := by decide +kernel
theorem dX7_takeGroup_31 : decode cX7_takeGroup 31 = .ok (.istore 4, 2) := by decide +kernel
theorem dX7_takeGroup_33 : decode cX7_takeGroup 33 = .ok (.iload_n 3, 1) := by decide +kernel
theorem dX7_takeGroup_34 : decode cX7_takeGroup 34 = .ok (.ifCond .eq 15, 3) := by decide +kernel
theorem dX7_takeGroup_37 : decode cX7_takeGroup 37 = .ok (.iload 4, 2) := by decide +kernel
theorem dX7_takeGroup_39 : decode cX7_takeGroup 39 = .ok (.ifCond .eq 14, 3) := by decide +kernel
theorem dX7_takeGroup_42 : decode cX7_takeGroup 42 = .ok (.aload_n 0, 1) := by decide +kernel
theorem dX7_takeGroup_43 : decode cX7_takeGroup 43 = .ok (.getfield 102, 3) := by decide +kernel
theorem dX7_takeGroup_46 : decode cX7_takeGroup 46 = .ok (.ifCond .eq 7, 3) := by decide +kernel
theorem dX7_takeGroup_49 : decode cX7_takeGroup 49 = .ok (.iconst 1, 1) := by decide +kernel
theorem dX7_takeGroup_50 : decode cX7_takeGroup 50 = .ok (.goto 4, 3) := by decide +kernel
theorem dX7_takeGroup_53 : decode cX7_takeGroup 53 = .ok (.iconst 0, 1) := by decide +kernel
theorem dX7_takeGroup_54 : decode cX7_takeGroup 54 = .ok (.istore 5, 2) := by decide +kernel
theorem dX7_takeGroup_56 : decode cX7_takeGroup 56 = .ok (.aload_n 0, 1) := by decide +kernel
theorem dX7_takeGroup_57 : decode cX7_takeGroup 57 = .ok (.aload_n 0, 1) := by decide +kernel
theorem dX7_takeGroup_58 : decode cX7_takeGroup 58 = .ok (.getfield 90, 3) := by decide +kernel
theorem dX7_takeGroup_61 : decode cX7_takeGroup 61 = .ok (.aload_n 0, 1) := by decide +kernel
theorem dX7_takeGroup_62 : decode cX7_takeGroup 62 = .ok (.getfield 30, 3) := by decide +kernel
theorem dX7_takeGroup_65 : decode cX7_takeGroup 65 = .ok (.invokestatic 72, 3) := by decide +kernel
theorem dX7_takeGroup_68 : decode cX7_takeGroup 68 = .ok (.putfield 30, 3) := by decide +kernel
theorem dX7_takeGroup_71 : decode cX7_takeGroup 71 = .ok (.aload_n 0, 1) := by decide +kernel
theorem dX7_takeGroup_72 : decode cX7_takeGroup 72 = .ok (.dup, 1) := by decide +kernel
theorem dX7_takeGroup_73 : decode cX7_takeGroup 73 = .ok (.getfield 113, 3) := by decide +kernel
theorem dX7_takeGroup_76 : decode cX7_takeGroup 76 = .ok (.iconst 1, 1) := by decide +kernel
theorem dX7_takeGroup_77 : decode cX7_takeGroup 77 = .ok (.iadd, 1) := by decide +kernel
theorem dX7_takeGroup_78 : decode cX7_takeGroup 78 = .ok (.putfield 113, 3) := by decide +kernel
theorem dX7_takeGroup_81 : decode cX7_takeGroup 81 = .ok (.aload_n 0, 1) := by decide +kernel
theorem dX7_takeGroup_82 : decode cX7_takeGroup 82 = .ok (.dup, 1) := by decide +kernel
theorem dX7_takeGroup_83 : decode cX7_takeGroup 83 = .ok (.getfield 116, 3) := by decide +kernel
theorem dX7_takeGroup_86 : decode cX7_takeGroup 86 = .ok (.iload_n 3, 1) := by decide +kernel
theorem dX7_takeGroup_87 : decode cX7_takeGroup 87 = .ok (.ifCond .eq 7, 3) := by decide +kernel
theorem dX7_takeGroup_90 : decode cX7_takeGroup 90 = .ok (.iconst 0, 1) := by decide +kernel
theorem dX7_takeGroup_91 : decode cX7_takeGroup 91 = .ok (.goto 4, 3) := by decide +kernel
theorem dX7_takeGroup_94 : decode cX7_takeGroup 94 = .ok (.iconst 1, 1) := by decide +kernel
theorem dX7_takeGroup_95 : decode cX7_takeGroup 95 = .ok (.iadd, 1) := by decide +kernel
theorem dX7_takeGroup_96 : decode cX7_takeGroup 96 = .ok (.putfield 116, 3) := by decide +kernel
theorem dX7_takeGroup_99 : decode cX7_takeGroup 99 = .ok (.aload_n 0, 1) := by decide +kernel
theorem dX7_takeGroup_100 : decode cX7_takeGroup 100 = .ok (.getfield 102, 3) := by decide +kernel
theorem dX7_takeGroup_103 : decode cX7_takeGroup 103 = .ok (.ifCond .ne 7, 3) := by decide +kernel
theorem dX7_takeGroup_106 : decode cX7_takeGroup 106 = .ok (.iconst 1, 1) := by decide +kernel
theorem dX7_takeGroup_107 : decode cX7_takeGroup 107 = .ok (.goto 4, 3) := by decide +kernel
theorem dX7_takeGroup_110 : decode cX7_takeGroup 110 = .ok (.iconst 0, 1) := by decide +kernel
theorem dX7_takeGroup_111 : decode cX7_takeGroup 111 = .ok (.istore 6, 2) := by decide +kernel
theorem dX7_takeGroup_113 : decode cX7_takeGroup 113 = .ok (.aload_n 0, 1) := by decide +kernel
theorem dX7_takeGroup_114 : decode cX7_takeGroup 114 = .ok (.aload_n 0, 1) := by decide +kernel
theorem dX7_takeGroup_115 : decode cX7_takeGroup 115 = .ok (.getfield 102, 3) := by decide +kernel
theorem dX7_takeGroup_118 : decode cX7_takeGroup 118 = .ok (.ifCond .ne 7, 3) := by decide +kernel
theorem dX7_takeGroup_121 : decode cX7_takeGroup 121 = .ok (.iconst 1, 1) := by decide +kernel
theorem dX7_takeGroup_122 : decode cX7_takeGroup 122 = .ok (.goto 4, 3) := by decide +kernel
theorem dX7_takeGroup_125 : decode cX7_takeGroup 125 = .ok (.iconst 0, 1) := by decide +kernel
theorem dX7_takeGroup_126 : decode cX7_takeGroup 126 = .ok (.putfield 102, 3) := by decide +kernel
theorem dX7_takeGroup_129 : decode cX7_takeGroup 129 = .ok (.aload_n 0, 1) := by decide +kernel
theorem dX7_takeGroup_130 : decode cX7_takeGroup 130 = .ok (.iconst 0, 1) := by decide +kernel
theorem dX7_takeGroup_131 : decode cX7_takeGroup 131 = .ok (.putfield 93, 3) := by decide +kernel
theorem dX7_takeGroup_134 : decode cX7_takeGroup 134 = .ok (.iload_n 1, 1) := by decide +kernel
theorem dX7_takeGroup_135 : decode cX7_takeGroup 135 = .ok (.ifCond .eq 14, 3) := by decide +kernel
theorem dX7_takeGroup_138 : decode cX7_takeGroup 138 = .ok (.iload_n 3, 1) := by decide +kernel
theorem dX7_takeGroup_139 : decode cX7_takeGroup 139 = .ok (.ifCond .ne 159, 3) := by decide +kernel
theorem dX7_takeGroup_142 : decode cX7_takeGroup 142 = .ok (.aload_n 0, 1) := by decide +kernel
theorem dX7_takeGroup_143 : decode cX7_takeGroup 143 = .ok (.invokevirtual 119, 3) := by decide +kernel
theorem dX7_takeGroup_146 : decode cX7_takeGroup 146 = .ok (.goto 152, 3) := by decide +kernel
theorem dX7_takeGroup_149 : decode cX7_takeGroup 149 = .ok (.aload_n 0, 1) := by decide +kernel
theorem dX7_takeGroup_150 : decode cX7_takeGroup 150 = .ok (.getfield 96, 3) := by decide +kernel
theorem dX7_takeGroup_153 : decode cX7_takeGroup 153 = .ok (.iconst 3, 1) := by decide +kernel
theorem dX7_takeGroup_154 : decode cX7_takeGroup 154 = .ok (.if_icmp .ge 60, 3) := by decide +kernel
theorem dX7_takeGroup_157 : decode cX7_takeGroup 157 = .ok (.iload 5, 2) := by decide +kernel
theorem dX7_takeGroup_159 : decode cX7_takeGroup 159 = .ok (.ifCond .eq 10, 3) := by decide +kernel
theorem dX7_takeGroup_162 : decode cX7_takeGroup 162 = .ok (.aload_n 0, 1) := by decide +kernel
theorem dX7_takeGroup_163 : decode cX7_takeGroup 163 = .ok (.invokevirtual 119, 3) := by decide +kernel
theorem dX7_takeGroup_166 : decode cX7_takeGroup 166 = .ok (.goto 132, 3) := by decide +kernel
theorem dX7_takeGroup_169 : decode cX7_takeGroup 169 = .ok (.iload 4, 2) := by decide +kernel
theorem dX7_takeGroup_171 : decode cX7_takeGroup 171 = .ok (.ifCond .eq 127, 3) := by decide +kernel
theorem dX7_takeGroup_174 : decode cX7_takeGroup 174 = .ok (.iload 6, 2) := by decide +kernel
theorem dX7_takeGroup_176 : decode cX7_takeGroup 176 = .ok (.ifCond .eq 122, 3) := by decide +kernel
theorem dX7_takeGroup_179 : decode cX7_takeGroup 179 = .ok (.aload_n 0, 1) := by decide +kernel
theorem dX7_takeGroup_180 : decode cX7_takeGroup 180 = .ok (.dup, 1) := by decide +kernel
theorem dX7_takeGroup_181 : decode cX7_takeGroup 181 = .ok (.getfield 96, 3) := by decide +kernel
theorem dX7_takeGroup_184 : decode cX7_takeGroup 184 = .ok (.iconst 1, 1) := by decide +kernel
theorem dX7_takeGroup_185 : decode cX7_takeGroup 185 = .ok (.iadd, 1) := by decide +kernel
theorem dX7_takeGroup_186 : decode cX7_takeGroup 186 = .ok (.putfield 96, 3) := by decide +kernel
theorem dX7_takeGroup_189 : decode cX7_takeGroup 189 = .ok (.aload_n 0, 1) := by decide +kernel
theorem dX7_takeGroup_190 : decode cX7_takeGroup 190 = .ok (.aload_n 0, 1) := by decide +kernel
theorem dX7_takeGroup_191 : decode cX7_takeGroup 191 = .ok (.getfield 96, 3) := by decide +kernel
theorem dX7_takeGroup_194 : decode cX7_takeGroup 194 = .ok (.iconst 3, 1) := by decide +kernel
theorem dX7_takeGroup_195 : decode cX7_takeGroup 195 = .ok (.if_icmp .ne 7, 3) := by decide +kernel
theorem dX7_takeGroup_198 : decode cX7_takeGroup 198 = .ok (.iconst 4, 1) := by decide +kernel
theorem dX7_takeGroup_199 : decode cX7_takeGroup 199 = .ok (.goto 4, 3) := by decide +kernel
theorem dX7_takeGroup_202 : decode cX7_takeGroup 202 = .ok (.iconst 0, 1) := by decide +kernel
theorem dX7_takeGroup_203 : decode cX7_takeGroup 203 = .ok (.putfield 122, 3) := by decide +kernel
theorem dX7_takeGroup_206 : decode cX7_takeGroup 206 = .ok (.aload_n 0, 1) := by decide +kernel
theorem dX7_takeGroup_207 : decode cX7_takeGroup 207 = .ok (.iconst 0, 1) := by decide +kernel
theorem dX7_takeGroup_208 : decode cX7_takeGroup 208 = .ok (.putfield 125, 3) := by decide +kernel
theorem dX7_takeGroup_211 : decode cX7_takeGroup 211 = .ok (.goto 87, 3) := by decide +kernel
theorem dX7_takeGroup_214 : decode cX7_takeGroup 214 = .ok (.aload_n 0, 1) := by decide +kernel
theorem dX7_takeGroup_215 : decode cX7_takeGroup 215 = .ok (.iload_n 2, 1) := by decide +kernel
theorem dX7_takeGroup_216 : decode cX7_takeGroup 216 = .ok (.invokevirtual 128, 3) := by decide +kernel
theorem dX7_takeGroup_219 : decode cX7_takeGroup 219 = .ok (.iload 5, 2) := by decide +kernel
theorem dX7_takeGroup_221 : decode cX7_takeGroup 221 = .ok (.ifCond .eq 32, 3) := by decide +kernel
theorem dX7_takeGroup_224 : decode cX7_takeGroup 224 = .ok (.aload_n 0, 1) := by decide +kernel
theorem dX7_takeGroup_225 : decode cX7_takeGroup 225 = .ok (.iconst 0, 1) := by decide +kernel
theorem dX7_takeGroup_226 : decode cX7_takeGroup 226 = .ok (.putfield 125, 3) := by decide +kernel
theorem dX7_takeGroup_229 : decode cX7_takeGroup 229 = .ok (.aload_n 0, 1) := by decide +kernel
theorem dX7_takeGroup_230 : decode cX7_takeGroup 230 = .ok (.dup, 1) := by decide +kernel
theorem dX7_takeGroup_231 : decode cX7_takeGroup 231 = .ok (.getfield 122, 3) := by decide +kernel
theorem dX7_takeGroup_234 : decode cX7_takeGroup 234 = .ok (.iconst 1, 1) := by decide +kernel
theorem dX7_takeGroup_235 : decode cX7_takeGroup 235 = .ok (.isub, 1) := by decide +kernel
theorem dX7_takeGroup_236 : decode cX7_takeGroup 236 = .ok (.putfield 122, 3) := by decide +kernel
theorem dX7_takeGroup_239 : decode cX7_takeGroup 239 = .ok (.aload_n 0, 1) := by decide +kernel
theorem dX7_takeGroup_240 : decode cX7_takeGroup 240 = .ok (.getfield 122, 3) := by decide +kernel
theorem dX7_takeGroup_243 : decode cX7_takeGroup 243 = .ok (.ifCond .ne 55, 3) := by decide +kernel
theorem dX7_takeGroup_246 : decode cX7_takeGroup 246 = .ok (.aload_n 0, 1) := by decide +kernel
theorem dX7_takeGroup_247 : decode cX7_takeGroup 247 = .ok (.invokevirtual 119, 3) := by decide +kernel
theorem dX7_takeGroup_250 : decode cX7_takeGroup 250 = .ok (.goto 48, 3) := by decide +kernel
theorem dX7_takeGroup_253 : decode cX7_takeGroup 253 = .ok (.aload_n 0, 1) := by decide +kernel
theorem dX7_takeGroup_254 : decode cX7_takeGroup 254 = .ok (.dup, 1) := by decide +kernel
theorem dX7_takeGroup_255 : decode cX7_takeGroup 255 = .ok (.getfield 125, 3) := by decide +kernel
theorem dX7_takeGroup_258 : decode cX7_takeGroup 258 = .ok (.iconst 1, 1) := by decide +kernel
theorem dX7_takeGroup_259 : decode cX7_takeGroup 259 = .ok (.iadd, 1) := by decide +kernel
theorem dX7_takeGroup_260 : decode cX7_takeGroup 260 = .ok (.putfield 125, 3) := by decide +kernel
theorem dX7_takeGroup_263 : decode cX7_takeGroup 263 = .ok (.aload_n 0, 1) := by decide +kernel
theorem dX7_takeGroup_264 : decode cX7_takeGroup 264 = .ok (.getfield 125, 3) := by decide +kernel
theorem dX7_takeGroup_267 : decode cX7_takeGroup 267 = .ok (.iconst 4, 1) := by decide +kernel
theorem dX7_takeGroup_268 : decode cX7_takeGroup 268 = .ok (.if_icmp .ne 30, 3) := by decide +kernel
theorem dX7_takeGroup_271 : decode cX7_takeGroup 271 = .ok (.aload_n 0, 1) := by decide +kernel
theorem dX7_takeGroup_272 : decode cX7_takeGroup 272 = .ok (.iconst 0, 1) := by decide +kernel
theorem dX7_takeGroup_273 : decode cX7_takeGroup 273 = .ok (.putfield 125, 3) := by decide +kernel
theorem dX7_takeGroup_276 : decode cX7_takeGroup 276 = .ok (.aload_n 0, 1) := by decide +kernel
theorem dX7_takeGroup_277 : decode cX7_takeGroup 277 = .ok (.dup, 1) := by decide +kernel
theorem dX7_takeGroup_278 : decode cX7_takeGroup 278 = .ok (.getfield 122, 3) := by decide +kernel
theorem dX7_takeGroup_281 : decode cX7_takeGroup 281 = .ok (.aload_n 0, 1) := by decide +kernel
theorem dX7_takeGroup_282 : decode cX7_takeGroup 282 = .ok (.getfield 122, 3) := by decide +kernel
theorem dX7_takeGroup_285 : decode cX7_takeGroup 285 = .ok (.iconst 4, 1) := by decide +kernel
theorem dX7_takeGroup_286 : decode cX7_takeGroup 286 = .ok (.if_icmp .ge 7, 3) := by decide +kernel
theorem dX7_takeGroup_289 : decode cX7_takeGroup 289 = .ok (.iconst 1, 1) := by decide +kernel
theorem dX7_takeGroup_290 : decode cX7_takeGroup 290 = .ok (.goto 4, 3) := by decide +kernel
theorem dX7_takeGroup_293 : decode cX7_takeGroup 293 = .ok (.iconst 0, 1) := by decide +kernel
theorem dX7_takeGroup_294 : decode cX7_takeGroup 294 = .ok (.iadd, 1) := by decide +kernel
theorem dX7_takeGroup_295 : decode cX7_takeGroup 295 = .ok (.putfield 122, 3) := by decide +kernel
theorem dX7_takeGroup_298 : decode cX7_takeGroup 298 = .ok (.return_, 1) := by decide +kernel
set_option maxRecDepth 20000 in
theorem ggX7_searchAgain_X7_end : GoodIn wsX7_searchAgain wsX7_end := goodIn_r _ [10, 5, 11, 12, 13, 14, 15, 16, 17, 18, 19, 20, 21, 22, 23, 24, 25, 26, 27, 28, 29, 30, 31, 32, 33, 34, 35, 36, 37, 38, 39, 40, 41, 42, 43, 44, 45, 46, 47, 48, 49, 50] (by decide +kernel) (by decide +kernel)
set_option maxRecDepth 20000 in
theorem gX7_searchAgain_X7_end : GoodIn wsX7_searchAgain (wsV RX7 137 RX7 yX7_end wsX7_end) := goodIn_app (goodIn_of _ (by decide +kernel)) ggX7_searchAgain_X7_end
theorem dX7_searchAgain_0 : decode cX7_searchAgain 0 = .ok (.aload_n 0, 1) := by decide +kernel
theorem dX7_searchAgain_1 : decode cX7_searchAgain 1 = .ok (.iconst 0, 1) := by decide +kernel
theorem dX7_searchAgain_2 : decode cX7_searchAgain 2 = .ok (.putfield 96, 3) := by decide +kernel
theorem dX7_searchAgain_5 : decode cX7_searchAgain 5 = .ok (.aload_n 0, 1) := by decide +kernel
theorem dX7_searchAgain_6 : decode cX7_searchAgain 6 = .ok (.iconst 0, 1) := by decide +kernel
theorem dX7_searchAgain_7 : decode cX7_searchAgain 7 = .ok (.putfield 122, 3) := by decide +kernel
theorem dX7_searchAgain_10 : decode cX7_searchAgain 10 = .ok (.aload_n 0, 1) := by decide +kernel
theorem dX7_searchAgain_11 : decode cX7_searchAgain 11 = .ok (.iconst 0, 1) := by decide +kernel
theorem dX7_searchAgain_12 : decode cX7_searchAgain 12 = .ok (.putfield 93, 3) := by decide +kernel
theorem dX7_searchAgain_15 : decode cX7_searchAgain 15 = .ok (.aload_n 0, 1) := by decide +kernel
theorem dX7_searchAgain_16 : decode cX7_searchAgain 16 = .ok (.dup, 1) := by decide +kernel
theorem dX7_searchAgain_17 : decode cX7_searchAgain 17 = .ok (.getfield 131, 3) := by decide +kernel
theorem dX7_searchAgain_20 : decode cX7_searchAgain 20 = .ok (.iconst 1, 1) := by decide +kernel
theorem dX7_searchAgain_21 : decode cX7_searchAgain 21 = .ok (.iadd, 1) := by decide +kernel
theorem dX7_searchAgain_22 : decode cX7_searchAgain 22 = .ok (.putfield 131, 3) := by decide +kernel
theorem dX7_searchAgain_25 : decode cX7_searchAgain 25 = .ok (.aload_n 0, 1) := by decide +kernel
theorem dX7_searchAgain_26 : decode cX7_searchAgain 26 = .ok (.getfield 134, 3) := by decide +kernel
theorem dX7_searchAgain_29 : decode cX7_searchAgain 29 = .ok (.ifCond .eq 8, 3) := by decide +kernel
theorem dX7_searchAgain_32 : decode cX7_searchAgain 32 = .ok (.aload_n 0, 1) := by decide +kernel
theorem dX7_searchAgain_33 : decode cX7_searchAgain 33 = .ok (.iconst 0, 1) := by decide +kernel
theorem dX7_searchAgain_34 : decode cX7_searchAgain 34 = .ok (.invokevirtual 137, 3) := by decide +kernel
theorem dX7_searchAgain_37 : decode cX7_searchAgain 37 = .ok (.return_, 1) := by decide +kernel
theorem dX7_end_0 : decode cX7_end 0 = .ok (.aload_n 0, 1) := by decide +kernel
theorem dX7_end_1 : decode cX7_end 1 = .ok (.iconst 0, 1) := by decide +kernel
theorem dX7_end_2 : decode cX7_end 2 = .ok (.putfield 134, 3) := by decide +kernel
theorem dX7_end_5 : decode cX7_end 5 = .ok (.aload_n 0, 1) := by decide +kernel
theorem dX7_end_6 : decode cX7_end 6 = .ok (.dup, 1) := by decide +kernel
theorem dX7_end_7 : decode cX7_end 7 = .ok (.getfield 140, 3) := by decide +kernel
theorem dX7_end_10 : decode cX7_end 10 = .ok (.iconst 1, 1) := by decide +kernel
theorem dX7_end_11 : decode cX7_end 11 = .ok (.iadd, 1) := by decide +kernel
theorem dX7_end_12 : decode cX7_end 12 = .ok (.putfield 140, 3) := by decide +kernel
theorem dX7_end_15 : decode cX7_end 15 = .ok (.aload_n 0, 1) := by decide +kernel
theorem dX7_end_16 : decode cX7_end 16 = .ok (.dup, 1) := by decide +kernel
theorem dX7_end_17 : decode cX7_end 17 = .ok (.getfield 143, 3) := by decide +kernel
theorem dX7_end_20 : decode cX7_end 20 = .ok (.iload_n 1, 1) := by decide +kernel
theorem dX7_end_21 : decode cX7_end 21 = .ok (.ifCond .eq 7, 3) := by decide +kernel
theorem dX7_end_24 : decode cX7_end 24 = .ok (.iconst 1, 1) := by decide +kernel
theorem dX7_end_25 : decode cX7_end 25 = .ok (.goto 4, 3) := by decide +kernel
theorem dX7_end_28 : decode cX7_end 28 = .ok (.iconst 0, 1) := by decide +kernel
theorem dX7_end_29 : decode cX7_end 29 = .ok (.iadd, 1) := by decide +kernel
theorem dX7_end_30 : decode cX7_end 30 = .ok (.putfield 143, 3) := by decide +kernel
theorem dX7_end_33 : decode cX7_end 33 = .ok (.aload_n 0, 1) := by decide +kernel
theorem dX7_end_34 : decode cX7_end 34 = .ok (.getfield 146, 3) := by decide +kernel
theorem dX7_end_37 : decode cX7_end 37 = .ok (.bipush 40, 2) := by decide +kernel
theorem dX7_end_39 : decode cX7_end 39 = .ok (.if_icmp .ne 93, 3) := by decide +kernel
theorem dX7_end_42 : decode cX7_end 42 = .ok (.aload_n 0, 1) := by decide +kernel
theorem dX7_end_43 : decode cX7_end 43 = .ok (.dup, 1) := by decide +kernel
theorem dX7_end_44 : decode cX7_end 44 = .ok (.getfield 146, 3) := by decide +kernel
theorem dX7_end_47 : decode cX7_end 47 = .ok (.iconst 1, 1) := by decide +kernel
theorem dX7_end_48 : decode cX7_end 48 = .ok (.isub, 1) := by decide +kernel
theorem dX7_end_49 : decode cX7_end 49 = .ok (.putfield 146, 3) := by decide +kernel
theorem dX7_end_52 : decode cX7_end 52 = .ok (.iconst 0, 1) := by decide +kernel
theorem dX7_end_53 : decode cX7_end 53 = .ok (.istore_n 2, 1) := by decide +kernel
theorem dX7_end_54 : decode cX7_end 54 = .ok (.iload_n 2, 1) := by decide +kernel
theorem dX7_end_55 : decode cX7_end 55 = .ok (.aload_n 0, 1) := by decide +kernel
theorem dX7_end_56 : decode cX7_end 56 = .ok (.getfield 146, 3) := by decide +kernel
theorem dX7_end_59 : decode cX7_end 59 = .ok (.if_icmp .ge 37, 3) := by decide +kernel
theorem dX7_end_62 : decode cX7_end 62 = .ok (.aload_n 0, 1) := by decide +kernel
theorem dX7_end_63 : decode cX7_end 63 = .ok (.getfield 39, 3) := by decide +kernel
theorem dX7_end_66 : decode cX7_end 66 = .ok (.iload_n 2, 1) := by decide +kernel
theorem dX7_end_67 : decode cX7_end 67 = .ok (.aload_n 0, 1) := by decide +kernel
theorem dX7_end_68 : decode cX7_end 68 = .ok (.getfield 39, 3) := by decide +kernel
theorem dX7_end_71 : decode cX7_end 71 = .ok (.iload_n 2, 1) := by decide +kernel
theorem dX7_end_72 : decode cX7_end 72 = .ok (.iconst 1, 1) := by decide +kernel
theorem dX7_end_73 : decode cX7_end 73 = .ok (.iadd, 1) := by decide +kernel
theorem dX7_end_74 : decode cX7_end 74 = .ok (.iaload, 1) := by decide +kernel
theorem dX7_end_75 : decode cX7_end 75 = .ok (.iastore, 1) := by decide +kernel
theorem dX7_end_76 : decode cX7_end 76 = .ok (.aload_n 0, 1) := by decide +kernel
theorem dX7_end_77 : decode cX7_end 77 = .ok (.getfield 42, 3) := by decide +kernel
theorem dX7_end_80 : decode cX7_end 80 = .ok (.iload_n 2, 1) := by decide +kernel
theorem dX7_end_81 : decode cX7_end 81 = .ok (.aload_n 0, 1) := by decide +kernel
theorem dX7_end_82 : decode cX7_end 82 = .ok (.getfield 42, 3) := by decide +kernel
theorem dX7_end_85 : decode cX7_end 85 = .ok (.iload_n 2, 1) := by decide +kernel
theorem dX7_end_86 : decode cX7_end 86 = .ok (.iconst 1, 1) := by decide +kernel
theorem dX7_end_87 : decode cX7_end 87 = .ok (.iadd, 1) := by decide +kernel
theorem dX7_end_88 : decode cX7_end 88 = .ok (.baload, 1) := by decide +kernel
theorem dX7_end_89 : decode cX7_end 89 = .ok (.bastore, 1) := by decide +kernel
theorem dX7_end_90 : decode cX7_end 90 = .ok (.iinc 2 1, 3) := by decide +kernel
theorem dX7_end_93 : decode cX7_end 93 = .ok (.goto (-39), 3) := by decide +kernel
theorem dX7_end_96 : decode cX7_end 96 = .ok (.iconst 0, 1) := by decide +kernel
theorem dX7_end_97 : decode cX7_end 97 = .ok (.istore_n 2, 1) := by decide +kernel
theorem dX7_end_98 : decode cX7_end 98 = .ok (.iload_n 2, 1) := by decide +kernel
theorem dX7_end_99 : decode cX7_end 99 = .ok (.sipush 300, 3) := by decide +kernel
theorem dX7_end_102 : decode cX7_end 102 = .ok (.aload_n 0, 1) := by decide +kernel
theorem dX7_end_103 : decode cX7_end 103 = .ok (.getfield 146, 3) := by decide +kernel
theorem dX7_end_106 : decode cX7_end 106 = .ok (.imul, 1) := by decide +kernel
theorem dX7_end_107 : decode cX7_end 107 = .ok (.if_icmp .ge 25, 3) := by decide +kernel
theorem dX7_end_110 : decode cX7_end 110 = .ok (.aload_n 0, 1) := by decide +kernel
theorem dX7_end_111 : decode cX7_end 111 = .ok (.getfield 46, 3) := by decide +kernel
theorem dX7_end_114 : decode cX7_end 114 = .ok (.iload_n 2, 1) := by decide +kernel
theorem dX7_end_115 : decode cX7_end 115 = .ok (.aload_n 0, 1) := by decide +kernel
theorem dX7_end_116 : decode cX7_end 116 = .ok (.getfield 46, 3) := by decide +kernel
theorem dX7_end_119 : decode cX7_end 119 = .ok (.iload_n 2, 1) := by decide +kernel
theorem dX7_end_120 : decode cX7_end 120 = .ok (.sipush 300, 3) := by decide +kernel
theorem dX7_end_123 : decode cX7_end 123 = .ok (.iadd, 1) := by decide +kernel
theorem dX7_end_124 : decode cX7_end 124 = .ok (.baload, 1) := by decide +kernel
theorem dX7_end_125 : decode cX7_end 125 = .ok (.bastore, 1) := by decide +kernel
theorem dX7_end_126 : decode cX7_end 126 = .ok (.iinc 2 1, 3) := by decide +kernel
theorem dX7_end_129 : decode cX7_end 129 = .ok (.goto (-31), 3) := by decide +kernel
theorem dX7_end_132 : decode cX7_end 132 = .ok (.aload_n 0, 1) := by decide +kernel
theorem dX7_end_133 : decode cX7_end 133 = .ok (.getfield 39, 3) := by decide +kernel
theorem dX7_end_136 : decode cX7_end 136 = .ok (.aload_n 0, 1) := by decide +kernel
theorem dX7_end_137 : decode cX7_end 137 = .ok (.getfield 146, 3) := by decide +kernel
theorem dX7_end_140 : decode cX7_end 140 = .ok (.aload_n 0, 1) := by decide +kernel
theorem dX7_end_141 : decode cX7_end 141 = .ok (.getfield 149, 3) := by decide +kernel
theorem dX7_end_144 : decode cX7_end 144 = .ok (.iastore, 1) := by decide +kernel
theorem dX7_end_145 : decode cX7_end 145 = .ok (.aload_n 0, 1) := by decide +kernel
theorem dX7_end_146 : decode cX7_end 146 = .ok (.getfield 42, 3) := by decide +kernel
theorem dX7_end_149 : decode cX7_end 149 = .ok (.aload_n 0, 1) := by decide +kernel
theorem dX7_end_150 : decode cX7_end 150 = .ok (.getfield 146, 3) := by decide +kernel
theorem dX7_end_153 : decode cX7_end 153 = .ok (.iload_n 1, 1) := by decide +kernel
theorem dX7_end_154 : decode cX7_end 154 = .ok (.bastore, 1) := by decide +kernel
theorem dX7_end_155 : decode cX7_end 155 = .ok (.iconst 0, 1) := by decide +kernel
theorem dX7_end_156 : decode cX7_end 156 = .ok (.istore_n 2, 1) := by decide +kernel
theorem dX7_end_157 : decode cX7_end 157 = .ok (.iload_n 2, 1) := by decide +kernel
theorem dX7_end_158 : decode cX7_end 158 = .ok (.aload_n 0, 1) := by decide +kernel
theorem dX7_end_159 : decode cX7_end 159 = .ok (.getfield 149, 3) := by decide +kernel
theorem dX7_end_162 : decode cX7_end 162 = .ok (.if_icmp .ge 30, 3) := by decide +kernel
theorem dX7_end_165 : decode cX7_end 165 = .ok (.aload_n 0, 1) := by decide +kernel
theorem dX7_end_166 : decode cX7_end 166 = .ok (.getfield 46, 3) := by decide +kernel
theorem dX7_end_169 : decode cX7_end 169 = .ok (.sipush 300, 3) := by decide +kernel
theorem dX7_end_172 : decode cX7_end 172 = .ok (.aload_n 0, 1) := by decide +kernel
theorem dX7_end_173 : decode cX7_end 173 = .ok (.getfield 146, 3) := by decide +kernel
theorem dX7_end_176 : decode cX7_end 176 = .ok (.imul, 1) := by decide +kernel
theorem dX7_end_177 : decode cX7_end 177 = .ok (.iload_n 2, 1) := by decide +kernel
theorem dX7_end_178 : decode cX7_end 178 = .ok (.iadd, 1) := by decide +kernel
theorem dX7_end_179 : decode cX7_end 179 = .ok (.aload_n 0, 1) := by decide +kernel
theorem dX7_end_180 : decode cX7_end 180 = .ok (.getfield 36, 3) := by decide +kernel
theorem dX7_end_183 : decode cX7_end 183 = .ok (.iload_n 2, 1) := by decide +kernel
theorem dX7_end_184 : decode cX7_end 184 = .ok (.baload, 1) := by decide +kernel
theorem dX7_end_185 : decode cX7_end 185 = .ok (.bastore, 1) := by decide +kernel
theorem dX7_end_186 : decode cX7_end 186 = .ok (.iinc 2 1, 3) := by decide +kernel
theorem dX7_end_189 : decode cX7_end 189 = .ok (.goto (-32), 3) := by decide +kernel
theorem dX7_end_192 : decode cX7_end 192 = .ok (.aload_n 0, 1) := by decide +kernel
theorem dX7_end_193 : decode cX7_end 193 = .ok (.dup, 1) := by decide +kernel
theorem dX7_end_194 : decode cX7_end 194 = .ok (.getfield 146, 3) := by decide +kernel
theorem dX7_end_197 : decode cX7_end 197 = .ok (.iconst 1, 1) := by decide +kernel
theorem dX7_end_198 : decode cX7_end 198 = .ok (.iadd, 1) := by decide +kernel
theorem dX7_end_199 : decode cX7_end 199 = .ok (.putfield 146, 3) := by decide +kernel
theorem dX7_end_202 : decode cX7_end 202 = .ok (.return_, 1) := by decide +kernel
set_option maxRecDepth 20000 in
theorem ggX7_receive_X7_end : GoodIn wsX7_receive wsX7_end := goodIn_r _ [12, 3, 13, 14, 15, 16, 17, 18, 6, 7, 19, 20, 21, 22, 23, 24, 25, 26, 27, 28, 29, 30, 31, 32, 33, 34, 35, 36, 37, 38, 39, 40, 41, 42, 43, 44, 45, 46, 47, 48, 49, 50] (by decide +kernel) (by decide +kernel)
set_option maxRecDepth 20000 in
theorem gX7_receive_X7_end : GoodIn wsX7_receive (wsV RX7 137 RX7 yX7_end wsX7_end) := goodIn_app (goodIn_of _ (by decide +kernel)) ggX7_receive_X7_end
theorem dX7_receive_0 : decode cX7_receive 0 = .ok (.aload_n 0, 1) := by decide +kernel
theorem dX7_receive_1 : decode cX7_receive 1 = .ok (.dup, 1) := by decide +kernel
theorem dX7_receive_2 : decode cX7_receive 2 = .ok (.getfield 152, 3) := by decide +kernel
theorem dX7_receive_5 : decode cX7_receive 5 = .ok (.iconst 1, 1) := by decide +kernel
theorem dX7_receive_6 : decode cX7_receive 6 = .ok (.iadd, 1) := by decide +kernel
theorem dX7_receive_7 : decode cX7_receive 7 = .ok (.putfield 152, 3) := by decide +kernel
theorem dX7_receive_10 : decode cX7_receive 10 = .ok (.iconst 0, 1) := by decide +kernel
theorem dX7_receive_11 : decode cX7_receive 11 = .ok (.istore_n 2, 1) := by decide +kernel
theorem dX7_receive_12 : decode cX7_receive 12 = .ok (.iload_n 2, 1) := by decide +kernel
theorem dX7_receive_13 : decode cX7_receive 13 = .ok (.bipush 99, 2) := by decide +kernel
theorem dX7_receive_15 : decode cX7_receive 15 = .ok (.if_icmp .ge 23, 3) := by decide +kernel
theorem dX7_receive_18 : decode cX7_receive 18 = .ok (.aload_n 0, 1) := by decide +kernel
theorem dX7_receive_19 : decode cX7_receive 19 = .ok (.getfield 33, 3) := by decide +kernel
theorem dX7_receive_22 : decode cX7_receive 22 = .ok (.iload_n 2, 1) := by decide +kernel
theorem dX7_receive_23 : decode cX7_receive 23 = .ok (.aload_n 0, 1) := by decide +kernel
theorem dX7_receive_24 : decode cX7_receive 24 = .ok (.getfield 33, 3) := by decide +kernel
theorem dX7_receive_27 : decode cX7_receive 27 = .ok (.iload_n 2, 1) := by decide +kernel
theorem dX7_receive_28 : decode cX7_receive 28 = .ok (.iconst 1, 1) := by decide +kernel
theorem dX7_receive_29 : decode cX7_receive 29 = .ok (.iadd, 1) := by decide +kernel
theorem dX7_receive_30 : decode cX7_receive 30 = .ok (.iaload, 1) := by decide +kernel
theorem dX7_receive_31 : decode cX7_receive 31 = .ok (.iastore, 1) := by decide +kernel
theorem dX7_receive_32 : decode cX7_receive 32 = .ok (.iinc 2 1, 3) := by decide +kernel
theorem dX7_receive_35 : decode cX7_receive 35 = .ok (.goto (-23), 3) := by decide +kernel
theorem dX7_receive_38 : decode cX7_receive 38 = .ok (.aload_n 0, 1) := by decide +kernel
theorem dX7_receive_39 : decode cX7_receive 39 = .ok (.getfield 33, 3) := by decide +kernel
theorem dX7_receive_42 : decode cX7_receive 42 = .ok (.bipush 99, 2) := by decide +kernel
theorem dX7_receive_44 : decode cX7_receive 44 = .ok (.iload_n 1, 1) := by decide +kernel
theorem dX7_receive_45 : decode cX7_receive 45 = .ok (.iconst (-1), 1) := by decide +kernel
theorem dX7_receive_46 : decode cX7_receive 46 = .ok (.if_icmp .ne 9, 3) := by decide +kernel
theorem dX7_receive_49 : decode cX7_receive 49 = .ok (.sipush 512, 3) := by decide +kernel
theorem dX7_receive_52 : decode cX7_receive 52 = .ok (.goto 4, 3) := by decide +kernel
theorem dX7_receive_55 : decode cX7_receive 55 = .ok (.iload_n 1, 1) := by decide +kernel
theorem dX7_receive_56 : decode cX7_receive 56 = .ok (.iastore, 1) := by decide +kernel
theorem dX7_receive_57 : decode cX7_receive 57 = .ok (.aload_n 0, 1) := by decide +kernel
theorem dX7_receive_58 : decode cX7_receive 58 = .ok (.getfield 134, 3) := by decide +kernel
theorem dX7_receive_61 : decode cX7_receive 61 = .ok (.ifCond .eq 33, 3) := by decide +kernel
theorem dX7_receive_64 : decode cX7_receive 64 = .ok (.aload_n 0, 1) := by decide +kernel
theorem dX7_receive_65 : decode cX7_receive 65 = .ok (.getfield 155, 3) := by decide +kernel
theorem dX7_receive_68 : decode cX7_receive 68 = .ok (.ifCond .eq 26, 3) := by decide +kernel
theorem dX7_receive_71 : decode cX7_receive 71 = .ok (.aload_n 0, 1) := by decide +kernel
theorem dX7_receive_72 : decode cX7_receive 72 = .ok (.iload_n 1, 1) := by decide +kernel
theorem dX7_receive_73 : decode cX7_receive 73 = .ok (.sipush 503, 3) := by decide +kernel
theorem dX7_receive_76 : decode cX7_receive 76 = .ok (.if_icmp .ne 14, 3) := by decide +kernel
theorem dX7_receive_79 : decode cX7_receive 79 = .ok (.aload_n 0, 1) := by decide +kernel
theorem dX7_receive_80 : decode cX7_receive 80 = .ok (.getfield 158, 3) := by decide +kernel
theorem dX7_receive_83 : decode cX7_receive 83 = .ok (.ifCond .ne 7, 3) := by decide +kernel
theorem dX7_receive_86 : decode cX7_receive 86 = .ok (.iconst 1, 1) := by decide +kernel
theorem dX7_receive_87 : decode cX7_receive 87 = .ok (.goto 4, 3) := by decide +kernel
theorem dX7_receive_90 : decode cX7_receive 90 = .ok (.iconst 0, 1) := by decide +kernel
theorem dX7_receive_91 : decode cX7_receive 91 = .ok (.invokevirtual 137, 3) := by decide +kernel
theorem dX7_receive_94 : decode cX7_receive 94 = .ok (.iload_n 1, 1) := by decide +kernel
theorem dX7_receive_95 : decode cX7_receive 95 = .ok (.sipush 507, 3) := by decide +kernel
theorem dX7_receive_98 : decode cX7_receive 98 = .ok (.if_icmp .ne 38, 3) := by decide +kernel
theorem dX7_receive_101 : decode cX7_receive 101 = .ok (.aload_n 0, 1) := by decide +kernel
theorem dX7_receive_102 : decode cX7_receive 102 = .ok (.getfield 134, 3) := by decide +kernel
theorem dX7_receive_105 : decode cX7_receive 105 = .ok (.ifCond .eq 8, 3) := by decide +kernel
theorem dX7_receive_108 : decode cX7_receive 108 = .ok (.aload_n 0, 1) := by decide +kernel
theorem dX7_receive_109 : decode cX7_receive 109 = .ok (.iconst 0, 1) := by decide +kernel
theorem dX7_receive_110 : decode cX7_receive 110 = .ok (.invokevirtual 137, 3) := by decide +kernel
theorem dX7_receive_113 : decode cX7_receive 113 = .ok (.aload_n 0, 1) := by decide +kernel
theorem dX7_receive_114 : decode cX7_receive 114 = .ok (.iconst 1, 1) := by decide +kernel
theorem dX7_receive_115 : decode cX7_receive 115 = .ok (.putfield 134, 3) := by decide +kernel
theorem dX7_receive_118 : decode cX7_receive 118 = .ok (.aload_n 0, 1) := by decide +kernel
theorem dX7_receive_119 : decode cX7_receive 119 = .ok (.iconst 0, 1) := by decide +kernel
theorem dX7_receive_120 : decode cX7_receive 120 = .ok (.putfield 158, 3) := by decide +kernel
theorem dX7_receive_123 : decode cX7_receive 123 = .ok (.aload_n 0, 1) := by decide +kernel
theorem dX7_receive_124 : decode cX7_receive 124 = .ok (.iconst 0, 1) := by decide +kernel
theorem dX7_receive_125 : decode cX7_receive 125 = .ok (.putfield 155, 3) := by decide +kernel
theorem dX7_receive_128 : decode cX7_receive 128 = .ok (.aload_n 0, 1) := by decide +kernel
theorem dX7_receive_129 : decode cX7_receive 129 = .ok (.iconst 0, 1) := by decide +kernel
theorem dX7_receive_130 : decode cX7_receive 130 = .ok (.putfield 149, 3) := by decide +kernel
theorem dX7_receive_133 : decode cX7_receive 133 = .ok (.goto 113, 3) := by decide +kernel
theorem dX7_receive_136 : decode cX7_receive 136 = .ok (.aload_n 0, 1) := by decide +kernel
theorem dX7_receive_137 : decode cX7_receive 137 = .ok (.getfield 134, 3) := by decide +kernel
theorem dX7_receive_140 : decode cX7_receive 140 = .ok (.ifCond .eq 16, 3) := by decide +kernel
theorem dX7_receive_143 : decode cX7_receive 143 = .ok (.iload_n 1, 1) := by decide +kernel
theorem dX7_receive_144 : decode cX7_receive 144 = .ok (.iconst (-1), 1) := by decide +kernel
theorem dX7_receive_145 : decode cX7_receive 145 = .ok (.if_icmp .ne 11, 3) := by decide +kernel
theorem dX7_receive_148 : decode cX7_receive 148 = .ok (.aload_n 0, 1) := by decide +kernel
theorem dX7_receive_149 : decode cX7_receive 149 = .ok (.iconst 1, 1) := by decide +kernel
theorem dX7_receive_150 : decode cX7_receive 150 = .ok (.putfield 158, 3) := by decide +kernel
theorem dX7_receive_153 : decode cX7_receive 153 = .ok (.goto 93, 3) := by decide +kernel
theorem dX7_receive_156 : decode cX7_receive 156 = .ok (.aload_n 0, 1) := by decide +kernel
theorem dX7_receive_157 : decode cX7_receive 157 = .ok (.getfield 134, 3) := by decide +kernel
theorem dX7_receive_160 : decode cX7_receive 160 = .ok (.ifCond .eq 52, 3) := by decide +kernel
theorem dX7_receive_163 : decode cX7_receive 163 = .ok (.iload_n 1, 1) := by decide +kernel
theorem dX7_receive_164 : decode cX7_receive 164 = .ok (.sipush 256, 3) := by decide +kernel
theorem dX7_receive_167 : decode cX7_receive 167 = .ok (.if_icmp .ge 45, 3) := by decide +kernel
theorem dX7_receive_170 : decode cX7_receive 170 = .ok (.aload_n 0, 1) := by decide +kernel
theorem dX7_receive_171 : decode cX7_receive 171 = .ok (.getfield 149, 3) := by decide +kernel
theorem dX7_receive_174 : decode cX7_receive 174 = .ok (.sipush 300, 3) := by decide +kernel
theorem dX7_receive_177 : decode cX7_receive 177 = .ok (.if_icmp .ne 11, 3) := by decide +kernel
theorem dX7_receive_180 : decode cX7_receive 180 = .ok (.aload_n 0, 1) := by decide +kernel
theorem dX7_receive_181 : decode cX7_receive 181 = .ok (.iconst 1, 1) := by decide +kernel
theorem dX7_receive_182 : decode cX7_receive 182 = .ok (.putfield 158, 3) := by decide +kernel
theorem dX7_receive_185 : decode cX7_receive 185 = .ok (.goto 61, 3) := by decide +kernel
theorem dX7_receive_188 : decode cX7_receive 188 = .ok (.aload_n 0, 1) := by decide +kernel
theorem dX7_receive_189 : decode cX7_receive 189 = .ok (.getfield 36, 3) := by decide +kernel
theorem dX7_receive_192 : decode cX7_receive 192 = .ok (.aload_n 0, 1) := by decide +kernel
theorem dX7_receive_193 : decode cX7_receive 193 = .ok (.getfield 149, 3) := by decide +kernel
theorem dX7_receive_196 : decode cX7_receive 196 = .ok (.iload_n 1, 1) := by decide +kernel
theorem dX7_receive_197 : decode cX7_receive 197 = .ok (.i2b, 1) := by decide +kernel
theorem dX7_receive_198 : decode cX7_receive 198 = .ok (.bastore, 1) := by decide +kernel
theorem dX7_receive_199 : decode cX7_receive 199 = .ok (.aload_n 0, 1) := by decide +kernel
theorem dX7_receive_200 : decode cX7_receive 200 = .ok (.dup, 1) := by decide +kernel
theorem dX7_receive_201 : decode cX7_receive 201 = .ok (.getfield 149, 3) := by decide +kernel
theorem dX7_receive_204 : decode cX7_receive 204 = .ok (.iconst 1, 1) := by decide +kernel
theorem dX7_receive_205 : decode cX7_receive 205 = .ok (.iadd, 1) := by decide +kernel
theorem dX7_receive_206 : decode cX7_receive 206 = .ok (.putfield 149, 3) := by decide +kernel
theorem dX7_receive_209 : decode cX7_receive 209 = .ok (.goto 37, 3) := by decide +kernel
theorem dX7_receive_212 : decode cX7_receive 212 = .ok (.aload_n 0, 1) := by decide +kernel
theorem dX7_receive_213 : decode cX7_receive 213 = .ok (.getfield 134, 3) := by decide +kernel
theorem dX7_receive_216 : decode cX7_receive 216 = .ok (.ifCond .eq 18, 3) := by decide +kernel
theorem dX7_receive_219 : decode cX7_receive 219 = .ok (.iload_n 1, 1) := by decide +kernel
theorem dX7_receive_220 : decode cX7_receive 220 = .ok (.sipush 509, 3) := by decide +kernel
theorem dX7_receive_223 : decode cX7_receive 223 = .ok (.if_icmp .ne 11, 3) := by decide +kernel
theorem dX7_receive_226 : decode cX7_receive 226 = .ok (.aload_n 0, 1) := by decide +kernel
theorem dX7_receive_227 : decode cX7_receive 227 = .ok (.iconst 1, 1) := by decide +kernel
theorem dX7_receive_228 : decode cX7_receive 228 = .ok (.putfield 155, 3) := by decide +kernel
theorem dX7_receive_231 : decode cX7_receive 231 = .ok (.goto 15, 3) := by decide +kernel
theorem dX7_receive_234 : decode cX7_receive 234 = .ok (.aload_n 0, 1) := by decide +kernel
theorem dX7_receive_235 : decode cX7_receive 235 = .ok (.getfield 134, 3) := by decide +kernel
theorem dX7_receive_238 : decode cX7_receive 238 = .ok (.ifCond .eq 8, 3) := by decide +kernel
theorem dX7_receive_241 : decode cX7_receive 241 = .ok (.aload_n 0, 1) := by decide +kernel
theorem dX7_receive_242 : decode cX7_receive 242 = .ok (.iconst 0, 1) := by decide +kernel
theorem dX7_receive_243 : decode cX7_receive 243 = .ok (.invokevirtual 137, 3) := by decide +kernel
theorem dX7_receive_246 : decode cX7_receive 246 = .ok (.return_, 1) := by decide +kernel
theorem dX7_level_0 : decode cX7_level 0 = .ok (.aload_n 0, 1) := by decide +kernel
theorem dX7_level_1 : decode cX7_level 1 = .ok (.getfield 96, 3) := by decide +kernel
theorem dX7_level_4 : decode cX7_level 4 = .ok (.ireturn, 1) := by decide +kernel
theorem dX7_trust_0 : decode cX7_trust 0 = .ok (.aload_n 0, 1) := by decide +kernel
theorem dX7_trust_1 : decode cX7_trust 1 = .ok (.getfield 122, 3) := by decide +kernel
theorem dX7_trust_4 : decode cX7_trust 4 = .ok (.ireturn, 1) := by decide +kernel
theorem dX7_symbol_0 : decode cX7_symbol 0 = .ok (.iload_n 1, 1) := by decide +kernel
theorem dX7_symbol_1 : decode cX7_symbol 1 = .ok (.ifCond .lt 29, 3) := by decide +kernel
theorem dX7_symbol_4 : decode cX7_symbol 4 = .ok (.iload_n 1, 1) := by decide +kernel
theorem dX7_symbol_5 : decode cX7_symbol 5 = .ok (.bipush 100, 2) := by decide +kernel
theorem dX7_symbol_7 : decode cX7_symbol 7 = .ok (.if_icmp .ge 23, 3) := by decide +kernel
theorem dX7_symbol_10 : decode cX7_symbol 10 = .ok (.iload_n 1, 1) := by decide +kernel
theorem dX7_symbol_11 : decode cX7_symbol 11 = .ok (.aload_n 0, 1) := by decide +kernel
theorem dX7_symbol_12 : decode cX7_symbol 12 = .ok (.getfield 152, 3) := by decide +kernel
theorem dX7_symbol_15 : decode cX7_symbol 15 = .ok (.if_icmp .ge 15, 3) := by decide +kernel
theorem dX7_symbol_18 : decode cX7_symbol 18 = .ok (.aload_n 0, 1) := by decide +kernel
theorem dX7_symbol_19 : decode cX7_symbol 19 = .ok (.getfield 33, 3) := by decide +kernel
theorem dX7_symbol_22 : decode cX7_symbol 22 = .ok (.bipush 99, 2) := by decide +kernel
theorem dX7_symbol_24 : decode cX7_symbol 24 = .ok (.iload_n 1, 1) := by decide +kernel
theorem dX7_symbol_25 : decode cX7_symbol 25 = .ok (.isub, 1) := by decide +kernel
theorem dX7_symbol_26 : decode cX7_symbol 26 = .ok (.iaload, 1) := by decide +kernel
theorem dX7_symbol_27 : decode cX7_symbol 27 = .ok (.goto 4, 3) := by decide +kernel
theorem dX7_symbol_30 : decode cX7_symbol 30 = .ok (.iconst (-1), 1) := by decide +kernel
theorem dX7_symbol_31 : decode cX7_symbol 31 = .ok (.ireturn, 1) := by decide +kernel
theorem dX7_isFrame_0 : decode cX7_isFrame 0 = .ok (.iload_n 1, 1) := by decide +kernel
theorem dX7_isFrame_1 : decode cX7_isFrame 1 = .ok (.ifCond .lt 15, 3) := by decide +kernel
theorem dX7_isFrame_4 : decode cX7_isFrame 4 = .ok (.iload_n 1, 1) := by decide +kernel
theorem dX7_isFrame_5 : decode cX7_isFrame 5 = .ok (.aload_n 0, 1) := by decide +kernel
theorem dX7_isFrame_6 : decode cX7_isFrame 6 = .ok (.getfield 146, 3) := by decide +kernel
theorem dX7_isFrame_9 : decode cX7_isFrame 9 = .ok (.if_icmp .ge 7, 3) := by decide +kernel
theorem dX7_isFrame_12 : decode cX7_isFrame 12 = .ok (.iconst 1, 1) := by decide +kernel
theorem dX7_isFrame_13 : decode cX7_isFrame 13 = .ok (.goto 4, 3) := by decide +kernel
theorem dX7_isFrame_16 : decode cX7_isFrame 16 = .ok (.iconst 0, 1) := by decide +kernel
theorem dX7_isFrame_17 : decode cX7_isFrame 17 = .ok (.ireturn, 1) := by decide +kernel
set_option maxRecDepth 20000 in
theorem ggX7_length_X7_isFrame : GoodIn wsX7_length wsX7_isFrame := goodIn_r _ [6, 7, 8, 9, 10, 11, 12, 13, 14, 15, 16, 17, 18, 19, 20, 21, 22, 23, 24, 25, 26, 27, 28, 29, 30, 31, 32, 33, 34, 35, 36, 37, 38, 39] (by decide +kernel) (by decide +kernel)
set_option maxRecDepth 20000 in
theorem gX7_length_X7_isFrame : GoodIn wsX7_length (wsV RX7 161 RX7 yX7_isFrame wsX7_isFrame) := goodIn_app (goodIn_of _ (by decide +kernel)) ggX7_length_X7_isFrame
theorem dX7_length_0 : decode cX7_length 0 = .ok (.aload_n 0, 1) := by decide +kernel
theorem dX7_length_1 : decode cX7_length 1 = .ok (.iload_n 1, 1) := by decide +kernel
theorem dX7_length_2 : decode cX7_length 2 = .ok (.invokevirtual 161, 3) := by decide +kernel
theorem dX7_length_5 : decode cX7_length 5 = .ok (.ifCond .eq 12, 3) := by decide +kernel
theorem dX7_length_8 : decode cX7_length 8 = .ok (.aload_n 0, 1) := by decide +kernel
theorem dX7_length_9 : decode cX7_length 9 = .ok (.getfield 39, 3) := by decide +kernel
theorem dX7_length_12 : decode cX7_length 12 = .ok (.iload_n 1, 1) := by decide +kernel
theorem dX7_length_13 : decode cX7_length 13 = .ok (.iaload, 1) := by decide +kernel
theorem dX7_length_14 : decode cX7_length 14 = .ok (.goto 4, 3) := by decide +kernel
theorem dX7_length_17 : decode cX7_length 17 = .ok (.iconst (-1), 1) := by decide +kernel
theorem dX7_length_18 : decode cX7_length 18 = .ok (.ireturn, 1) := by decide +kernel
set_option maxRecDepth 20000 in
theorem ggX7_whole_X7_isFrame : GoodIn wsX7_whole wsX7_isFrame := goodIn_r _ [6, 7, 8, 9, 10, 11, 12, 13, 14, 15, 16, 17, 18, 19, 20, 21, 22, 23, 24, 25, 26, 27, 28, 29, 30, 31, 32, 33, 34, 35, 36, 37, 38, 39] (by decide +kernel) (by decide +kernel)
set_option maxRecDepth 20000 in
theorem gX7_whole_X7_isFrame : GoodIn wsX7_whole (wsV RX7 161 RX7 yX7_isFrame wsX7_isFrame) := goodIn_app (goodIn_of _ (by decide +kernel)) ggX7_whole_X7_isFrame
theorem dX7_whole_0 : decode cX7_whole 0 = .ok (.aload_n 0, 1) := by decide +kernel
theorem dX7_whole_1 : decode cX7_whole 1 = .ok (.iload_n 1, 1) := by decide +kernel
theorem dX7_whole_2 : decode cX7_whole 2 = .ok (.invokevirtual 161, 3) := by decide +kernel
theorem dX7_whole_5 : decode cX7_whole 5 = .ok (.ifCond .eq 16, 3) := by decide +kernel
theorem dX7_whole_8 : decode cX7_whole 8 = .ok (.aload_n 0, 1) := by decide +kernel
theorem dX7_whole_9 : decode cX7_whole 9 = .ok (.getfield 42, 3) := by decide +kernel
theorem dX7_whole_12 : decode cX7_whole 12 = .ok (.iload_n 1, 1) := by decide +kernel
theorem dX7_whole_13 : decode cX7_whole 13 = .ok (.baload, 1) := by decide +kernel
theorem dX7_whole_14 : decode cX7_whole 14 = .ok (.ifCond .eq 7, 3) := by decide +kernel
theorem dX7_whole_17 : decode cX7_whole 17 = .ok (.iconst 1, 1) := by decide +kernel
theorem dX7_whole_18 : decode cX7_whole 18 = .ok (.goto 4, 3) := by decide +kernel
theorem dX7_whole_21 : decode cX7_whole 21 = .ok (.iconst 0, 1) := by decide +kernel
theorem dX7_whole_22 : decode cX7_whole 22 = .ok (.ireturn, 1) := by decide +kernel
set_option maxRecDepth 20000 in
theorem ggX7_at_X7_isFrame : GoodIn wsX7_at wsX7_isFrame := goodIn_r _ [7, 8, 9, 10, 11, 12, 13, 14, 15, 16, 17, 18, 19, 20, 21, 22, 23, 24, 25, 26, 27, 28, 29, 30, 31, 32, 33, 34, 35, 36, 37, 38, 39, 40] (by decide +kernel) (by decide +kernel)
set_option maxRecDepth 20000 in
theorem gX7_at_X7_isFrame : GoodIn wsX7_at (wsV RX7 161 RX7 yX7_isFrame wsX7_isFrame) := goodIn_app (goodIn_of _ (by decide +kernel)) ggX7_at_X7_isFrame
theorem dX7_at_0 : decode cX7_at 0 = .ok (.aload_n 0, 1) := by decide +kernel
theorem dX7_at_1 : decode cX7_at 1 = .ok (.iload_n 1, 1) := by decide +kernel
theorem dX7_at_2 : decode cX7_at 2 = .ok (.invokevirtual 161, 3) := by decide +kernel
theorem dX7_at_5 : decode cX7_at 5 = .ok (.ifCond .eq 36, 3) := by decide +kernel
theorem dX7_at_8 : decode cX7_at 8 = .ok (.iload_n 2, 1) := by decide +kernel
theorem dX7_at_9 : decode cX7_at 9 = .ok (.ifCond .lt 32, 3) := by decide +kernel
theorem dX7_at_12 : decode cX7_at 12 = .ok (.iload_n 2, 1) := by decide +kernel
theorem dX7_at_13 : decode cX7_at 13 = .ok (.aload_n 0, 1) := by decide +kernel
theorem dX7_at_14 : decode cX7_at 14 = .ok (.getfield 39, 3) := by decide +kernel
theorem dX7_at_17 : decode cX7_at 17 = .ok (.iload_n 1, 1) := by decide +kernel
theorem dX7_at_18 : decode cX7_at 18 = .ok (.iaload, 1) := by decide +kernel
theorem dX7_at_19 : decode cX7_at 19 = .ok (.if_icmp .ge 22, 3) := by decide +kernel
theorem dX7_at_22 : decode cX7_at 22 = .ok (.aload_n 0, 1) := by decide +kernel
theorem dX7_at_23 : decode cX7_at 23 = .ok (.getfield 46, 3) := by decide +kernel
theorem dX7_at_26 : decode cX7_at 26 = .ok (.sipush 300, 3) := by decide +kernel
theorem dX7_at_29 : decode cX7_at 29 = .ok (.iload_n 1, 1) := by decide +kernel
theorem dX7_at_30 : decode cX7_at 30 = .ok (.imul, 1) := by decide +kernel
theorem dX7_at_31 : decode cX7_at 31 = .ok (.iload_n 2, 1) := by decide +kernel
theorem dX7_at_32 : decode cX7_at 32 = .ok (.iadd, 1) := by decide +kernel
theorem dX7_at_33 : decode cX7_at 33 = .ok (.baload, 1) := by decide +kernel
theorem dX7_at_34 : decode cX7_at 34 = .ok (.sipush 255, 3) := by decide +kernel
theorem dX7_at_37 : decode cX7_at 37 = .ok (.iand, 1) := by decide +kernel
theorem dX7_at_38 : decode cX7_at 38 = .ok (.goto 4, 3) := by decide +kernel
theorem dX7_at_41 : decode cX7_at 41 = .ok (.iconst (-1), 1) := by decide +kernel
theorem dX7_at_42 : decode cX7_at 42 = .ok (.ireturn, 1) := by decide +kernel
theorem dX7_count_0 : decode cX7_count 0 = .ok (.iload_n 1, 1) := by decide +kernel
theorem dX7_count_1 : decode cX7_count 1 = .ok (.tableswitch 87 0 7 #[47, 52, 57, 62, 67, 72, 77, 82], 47) := by decide +kernel
theorem dX7_count_48 : decode cX7_count 48 = .ok (.aload_n 0, 1) := by decide +kernel
theorem dX7_count_49 : decode cX7_count 49 = .ok (.getfield 76, 3) := by decide +kernel
theorem dX7_count_52 : decode cX7_count 52 = .ok (.ireturn, 1) := by decide +kernel
theorem dX7_count_53 : decode cX7_count 53 = .ok (.aload_n 0, 1) := by decide +kernel
theorem dX7_count_54 : decode cX7_count 54 = .ok (.getfield 113, 3) := by decide +kernel
theorem dX7_count_57 : decode cX7_count 57 = .ok (.ireturn, 1) := by decide +kernel
theorem dX7_count_58 : decode cX7_count 58 = .ok (.aload_n 0, 1) := by decide +kernel
theorem dX7_count_59 : decode cX7_count 59 = .ok (.getfield 116, 3) := by decide +kernel
theorem dX7_count_62 : decode cX7_count 62 = .ok (.ireturn, 1) := by decide +kernel
theorem dX7_count_63 : decode cX7_count 63 = .ok (.aload_n 0, 1) := by decide +kernel
theorem dX7_count_64 : decode cX7_count 64 = .ok (.getfield 131, 3) := by decide +kernel
theorem dX7_count_67 : decode cX7_count 67 = .ok (.ireturn, 1) := by decide +kernel
theorem dX7_count_68 : decode cX7_count 68 = .ok (.aload_n 0, 1) := by decide +kernel
theorem dX7_count_69 : decode cX7_count 69 = .ok (.getfield 146, 3) := by decide +kernel
theorem dX7_count_72 : decode cX7_count 72 = .ok (.ireturn, 1) := by decide +kernel
theorem dX7_count_73 : decode cX7_count 73 = .ok (.aload_n 0, 1) := by decide +kernel
theorem dX7_count_74 : decode cX7_count 74 = .ok (.getfield 140, 3) := by decide +kernel
theorem dX7_count_77 : decode cX7_count 77 = .ok (.ireturn, 1) := by decide +kernel
theorem dX7_count_78 : decode cX7_count 78 = .ok (.aload_n 0, 1) := by decide +kernel
theorem dX7_count_79 : decode cX7_count 79 = .ok (.getfield 143, 3) := by decide +kernel
theorem dX7_count_82 : decode cX7_count 82 = .ok (.ireturn, 1) := by decide +kernel
theorem dX7_count_83 : decode cX7_count 83 = .ok (.aload_n 0, 1) := by decide +kernel
theorem dX7_count_84 : decode cX7_count 84 = .ok (.getfield 152, 3) := by decide +kernel
theorem dX7_count_87 : decode cX7_count 87 = .ok (.ireturn, 1) := by decide +kernel
theorem dX7_count_88 : decode cX7_count 88 = .ok (.iconst (-1), 1) := by decide +kernel
theorem dX7_count_89 : decode cX7_count 89 = .ok (.ireturn, 1) := by decide +kernel
theorem dJ6_bitCount_0f7a4_0 : decode cJ6_bitCount_0f7a4 0 = .ok (.iload_n 0, 1) := by decide +kernel
theorem dJ6_bitCount_0f7a4_1 : decode cJ6_bitCount_0f7a4 1 = .ok (.iload_n 0, 1) := by decide +kernel
theorem dJ6_bitCount_0f7a4_2 : decode cJ6_bitCount_0f7a4 2 = .ok (.iconst 1, 1) := by decide +kernel
theorem dJ6_bitCount_0f7a4_3 : decode cJ6_bitCount_0f7a4 3 = .ok (.iushr, 1) := by decide +kernel
theorem dJ6_bitCount_0f7a4_4 : decode cJ6_bitCount_0f7a4 4 = .ok (.ldc_w 265, 3) := by decide +kernel
theorem dJ6_bitCount_0f7a4_7 : decode cJ6_bitCount_0f7a4 7 = .ok (.iand, 1) := by decide +kernel
theorem dJ6_bitCount_0f7a4_8 : decode cJ6_bitCount_0f7a4 8 = .ok (.isub, 1) := by decide +kernel
theorem dJ6_bitCount_0f7a4_9 : decode cJ6_bitCount_0f7a4 9 = .ok (.istore_n 0, 1) := by decide +kernel
theorem dJ6_bitCount_0f7a4_10 : decode cJ6_bitCount_0f7a4 10 = .ok (.iload_n 0, 1) := by decide +kernel
theorem dJ6_bitCount_0f7a4_11 : decode cJ6_bitCount_0f7a4 11 = .ok (.ldc_w 266, 3) := by decide +kernel
theorem dJ6_bitCount_0f7a4_14 : decode cJ6_bitCount_0f7a4 14 = .ok (.iand, 1) := by decide +kernel
theorem dJ6_bitCount_0f7a4_15 : decode cJ6_bitCount_0f7a4 15 = .ok (.iload_n 0, 1) := by decide +kernel
theorem dJ6_bitCount_0f7a4_16 : decode cJ6_bitCount_0f7a4 16 = .ok (.iconst 2, 1) := by decide +kernel
theorem dJ6_bitCount_0f7a4_17 : decode cJ6_bitCount_0f7a4 17 = .ok (.iushr, 1) := by decide +kernel
theorem dJ6_bitCount_0f7a4_18 : decode cJ6_bitCount_0f7a4 18 = .ok (.ldc_w 266, 3) := by decide +kernel
theorem dJ6_bitCount_0f7a4_21 : decode cJ6_bitCount_0f7a4 21 = .ok (.iand, 1) := by decide +kernel
theorem dJ6_bitCount_0f7a4_22 : decode cJ6_bitCount_0f7a4 22 = .ok (.iadd, 1) := by decide +kernel
theorem dJ6_bitCount_0f7a4_23 : decode cJ6_bitCount_0f7a4 23 = .ok (.istore_n 0, 1) := by decide +kernel
theorem dJ6_bitCount_0f7a4_24 : decode cJ6_bitCount_0f7a4 24 = .ok (.iload_n 0, 1) := by decide +kernel
theorem dJ6_bitCount_0f7a4_25 : decode cJ6_bitCount_0f7a4 25 = .ok (.iload_n 0, 1) := by decide +kernel
theorem dJ6_bitCount_0f7a4_26 : decode cJ6_bitCount_0f7a4 26 = .ok (.iconst 4, 1) := by decide +kernel
theorem dJ6_bitCount_0f7a4_27 : decode cJ6_bitCount_0f7a4 27 = .ok (.iushr, 1) := by decide +kernel
theorem dJ6_bitCount_0f7a4_28 : decode cJ6_bitCount_0f7a4 28 = .ok (.iadd, 1) := by decide +kernel
theorem dJ6_bitCount_0f7a4_29 : decode cJ6_bitCount_0f7a4 29 = .ok (.ldc_w 267, 3) := by decide +kernel
theorem dJ6_bitCount_0f7a4_32 : decode cJ6_bitCount_0f7a4 32 = .ok (.iand, 1) := by decide +kernel
theorem dJ6_bitCount_0f7a4_33 : decode cJ6_bitCount_0f7a4 33 = .ok (.istore_n 0, 1) := by decide +kernel
theorem dJ6_bitCount_0f7a4_34 : decode cJ6_bitCount_0f7a4 34 = .ok (.iload_n 0, 1) := by decide +kernel
theorem dJ6_bitCount_0f7a4_35 : decode cJ6_bitCount_0f7a4 35 = .ok (.iload_n 0, 1) := by decide +kernel
theorem dJ6_bitCount_0f7a4_36 : decode cJ6_bitCount_0f7a4 36 = .ok (.bipush 8, 2) := by decide +kernel
theorem dJ6_bitCount_0f7a4_38 : decode cJ6_bitCount_0f7a4 38 = .ok (.iushr, 1) := by decide +kernel
theorem dJ6_bitCount_0f7a4_39 : decode cJ6_bitCount_0f7a4 39 = .ok (.iadd, 1) := by decide +kernel
theorem dJ6_bitCount_0f7a4_40 : decode cJ6_bitCount_0f7a4 40 = .ok (.istore_n 0, 1) := by decide +kernel
theorem dJ6_bitCount_0f7a4_41 : decode cJ6_bitCount_0f7a4 41 = .ok (.iload_n 0, 1) := by decide +kernel
theorem dJ6_bitCount_0f7a4_42 : decode cJ6_bitCount_0f7a4 42 = .ok (.iload_n 0, 1) := by decide +kernel
theorem dJ6_bitCount_0f7a4_43 : decode cJ6_bitCount_0f7a4 43 = .ok (.bipush 16, 2) := by decide +kernel
theorem dJ6_bitCount_0f7a4_45 : decode cJ6_bitCount_0f7a4 45 = .ok (.iushr, 1) := by decide +kernel
theorem dJ6_bitCount_0f7a4_46 : decode cJ6_bitCount_0f7a4 46 = .ok (.iadd, 1) := by decide +kernel
theorem dJ6_bitCount_0f7a4_47 : decode cJ6_bitCount_0f7a4 47 = .ok (.istore_n 0, 1) := by decide +kernel
theorem dJ6_bitCount_0f7a4_48 : decode cJ6_bitCount_0f7a4 48 = .ok (.iload_n 0, 1) := by decide +kernel
theorem dJ6_bitCount_0f7a4_49 : decode cJ6_bitCount_0f7a4 49 = .ok (.bipush 63, 2) := by decide +kernel
theorem dJ6_bitCount_0f7a4_51 : decode cJ6_bitCount_0f7a4 51 = .ok (.iand, 1) := by decide +kernel
theorem dJ6_bitCount_0f7a4_52 : decode cJ6_bitCount_0f7a4 52 = .ok (.ireturn, 1) := by decide +kernel
theorem dJ9_floorMod_7cf53_0 : decode cJ9_floorMod_7cf53 0 = .ok (.iload_n 0, 1) := by decide +kernel
theorem dJ9_floorMod_7cf53_1 : decode cJ9_floorMod_7cf53 1 = .ok (.iload_n 1, 1) := by decide +kernel
theorem dJ9_floorMod_7cf53_2 : decode cJ9_floorMod_7cf53 2 = .ok (.irem, 1) := by decide +kernel
theorem dJ9_floorMod_7cf53_3 : decode cJ9_floorMod_7cf53 3 = .ok (.istore_n 2, 1) := by decide +kernel
theorem dJ9_floorMod_7cf53_4 : decode cJ9_floorMod_7cf53 4 = .ok (.iload_n 0, 1) := by decide +kernel
theorem dJ9_floorMod_7cf53_5 : decode cJ9_floorMod_7cf53 5 = .ok (.iload_n 1, 1) := by decide +kernel
theorem dJ9_floorMod_7cf53_6 : decode cJ9_floorMod_7cf53 6 = .ok (.ixor, 1) := by decide +kernel
theorem dJ9_floorMod_7cf53_7 : decode cJ9_floorMod_7cf53 7 = .ok (.ifCond .ge 11, 3) := by decide +kernel
theorem dJ9_floorMod_7cf53_10 : decode cJ9_floorMod_7cf53 10 = .ok (.iload_n 2, 1) := by decide +kernel
theorem dJ9_floorMod_7cf53_11 : decode cJ9_floorMod_7cf53 11 = .ok (.ifCond .eq 7, 3) := by decide +kernel
theorem dJ9_floorMod_7cf53_14 : decode cJ9_floorMod_7cf53 14 = .ok (.iload_n 2, 1) := by decide +kernel
theorem dJ9_floorMod_7cf53_15 : decode cJ9_floorMod_7cf53 15 = .ok (.iload_n 1, 1) := by decide +kernel
theorem dJ9_floorMod_7cf53_16 : decode cJ9_floorMod_7cf53 16 = .ok (.iadd, 1) := by decide +kernel
theorem dJ9_floorMod_7cf53_17 : decode cJ9_floorMod_7cf53 17 = .ok (.ireturn, 1) := by decide +kernel
theorem dJ9_floorMod_7cf53_18 : decode cJ9_floorMod_7cf53 18 = .ok (.iload_n 2, 1) := by decide +kernel
theorem dJ9_floorMod_7cf53_19 : decode cJ9_floorMod_7cf53 19 = .ok (.ireturn, 1) := by decide +kernel
theorem dJ9_min_7cf53_0 : decode cJ9_min_7cf53 0 = .ok (.iload_n 0, 1) := by decide +kernel
theorem dJ9_min_7cf53_1 : decode cJ9_min_7cf53 1 = .ok (.iload_n 1, 1) := by decide +kernel
theorem dJ9_min_7cf53_2 : decode cJ9_min_7cf53 2 = .ok (.if_icmp .gt 7, 3) := by decide +kernel
theorem dJ9_min_7cf53_5 : decode cJ9_min_7cf53 5 = .ok (.iload_n 0, 1) := by decide +kernel
theorem dJ9_min_7cf53_6 : decode cJ9_min_7cf53 6 = .ok (.goto 4, 3) := by decide +kernel
theorem dJ9_min_7cf53_9 : decode cJ9_min_7cf53 9 = .ok (.iload_n 1, 1) := by decide +kernel
theorem dJ9_min_7cf53_10 : decode cJ9_min_7cf53 10 = .ok (.ireturn, 1) := by decide +kernel
end
section
/-! MY FRAME: the environment (nest words, the six static tables), contracts with one functional answer, calls by one row -/
def nestW : List Cond := [.methodLinkNest "CodedGroups" 9 ⟨"CodedGroups$Line", "<init>", "()V"⟩ "CodedGroups", .methodLinkNest "CodedGroups" 18 ⟨"CodedGroups$Sender", "<init>", "()V"⟩ "CodedGroups", .methodLinkNest "CodedGroups" 25 ⟨"CodedGroups$Receiver", "<init>", "()V"⟩ "CodedGroups", .methodLinkNest "CodedGroups$Receiver" 11 ⟨"CodedGroups$SymbolLog", "<init>", "()V"⟩ "CodedGroups", .methodLinkNest "CodedGroups$Receiver" 20 ⟨"CodedGroups$FrameShelf", "<init>", "()V"⟩ "CodedGroups",
  .fieldLinkNest "CodedGroups" 68 "CodedGroups$Line" "held" "I" "CodedGroups", .fieldLinkNest "CodedGroups" 72 "CodedGroups$Sender" "lean" "I" "CodedGroups", .fieldLinkNest "CodedGroups" 122 "CodedGroups$Sender" "sent" "I" "CodedGroups", .fieldLinkNest "CodedGroups" 143 "CodedGroups$SymbolLog" "received" "I" "CodedGroups", .fieldLinkNest "CodedGroups" 134 "CodedGroups$FrameShelf" "kept" "I" "CodedGroups", .fieldLinkNest "CodedGroups" 137 "CodedGroups$FrameShelf" "ended" "I" "CodedGroups", .fieldLinkNest "CodedGroups" 140 "CodedGroups$FrameShelf" "endedWhole" "I" "CodedGroups", .fieldLinkNest "CodedGroups" 95 "CodedGroups$Receiver" "log" "LCodedGroups$SymbolLog;" "CodedGroups", .fieldLinkNest "CodedGroups" 104 "CodedGroups$Receiver" "shelf" "LCodedGroups$FrameShelf;" "CodedGroups", .fieldLinkNest "CodedGroups" 75 "CodedGroups$Receiver" "lean" "I" "CodedGroups", .fieldLinkNest "CodedGroups" 89 "CodedGroups$Receiver" "rank" "I" "CodedGroups", .fieldLinkNest "CodedGroups" 92 "CodedGroups$Receiver" "faith" "I" "CodedGroups", .fieldLinkNest "CodedGroups" 125 "CodedGroups$Receiver" "groups" "I" "CodedGroups", .fieldLinkNest "CodedGroups" 128 "CodedGroups$Receiver" "badGroups" "I" "CodedGroups", .fieldLinkNest "CodedGroups" 131 "CodedGroups$Receiver" "searches" "I" "CodedGroups"]
set_option maxRecDepth 20000 in
theorem nestW_in : ∀ w ∈ nestW, w ∈ lw_tbl := by decide +kernel
def nw_kind : Cond → Bool
  | .methodLinkNest .. => true
  | .fieldLinkNest .. => true
  | _ => false
theorem nestW_kind : ∀ w ∈ nestW, nw_kind w = true := by decide +kernel
theorem nw_tab {w : Cond} (h : nw_kind w = true) : w.onTables = true := by
  cases w <;> first | rfl | (simp [nw_kind] at h)
theorem nw_warm {w : Cond} (h : nw_kind w = true) {s U : State} (hW : s.WarmedH U.vm) (hZ : va_Nw w s) : va_Nw w U := by
  cases w <;> first | (simp [nw_kind] at h; done) | exact va_Nw.warmF hW hZ | exact va_Nw.warmM hW hZ
def k_SM : List Int32 := [39, 29, 45, 49, 53, 41, 25, 56, 57, 37, 21, 52, 13, 44, 28, 23, 27, 35, 19, 50, 11, 42, 26, 58, 51, 38, 22, 54, 14, 46, 30, 43]
def k_SP : List Int32 := [24, 34, 18, 49, 10, 41, 25, 7, 6, 37, 21, 52, 13, 44, 28, 40, 36, 35, 19, 50, 11, 42, 26, 5, 12, 38, 22, 9, 14, 17, 33, 20]
def k_FM : List Int32 := [11, 9, 5, 12, 13, 10, 6, 14]
def k_FP : List Int32 := [4, 9, 5, 3, 2, 10, 6, 1]
def k_GM : List Int32 := [11, 6, 10, 12, 13, 5, 9, 7]
def k_GP : List Int32 := [4, 9, 5, 3, 2, 10, 6, 8]
def tbls : List (String × List Int32) := [("SIX_MINUS", k_SM), ("SIX_PLUS", k_SP), ("FOUR_MINUS", k_FM), ("FOUR_PLUS", k_FP), ("SIGN_FOUR_MINUS", k_GM), ("SIGN_FOUR_PLUS", k_GP)]
def tb_one (n : String) (r : List Int32) (A : Nat → Prop) (U : State) (H : Heap) : Prop := ∃ t : Nat, va_Z "CodedGroups$Code" n "[I" (.ref t) A U H ∧ va_T .int t r.length (fun j => .int (r.getD j 0)) A U H
/-- the environment: nest words and static tables, outside A -/
def ev (A : Nat → Prop) (U : State) (H : Heap) : Prop := (∀ w ∈ nestW, va_Nw w U) ∧ ∀ q ∈ tbls, tb_one q.1 q.2 A U H
theorem ev.calling {A : Nat → Prop} {U : State} {H : Heap} {g : JFrame} {mk : MethodId} {a : Array Value} (h : ev A U H) : ev A (U.calling g mk a) H := by
  refine ⟨fun w hw => va_Nw.same (nw_tab (nestW_kind w hw)) rfl (h.1 w hw), fun q hq => ?_⟩
  obtain ⟨t, h1, h2⟩ := h.2 q hq
  exact ⟨t, va_Z.moved (u := U) (U := U.calling g mk a) (Vm.Alike.refl U.vm) h1, va_T.moved (u := U) (U := U.calling g mk a) (Vm.Alike.refl U.vm) h2⟩
theorem ev.warm {A : Nat → Prop} {s U : State} {H : Heap} (h : ev A s H) (hW : s.WarmedH U.vm) : ev A U H := by
  refine ⟨fun w hw => nw_warm (nestW_kind w hw) hW (h.1 w hw), fun q hq => ?_⟩
  obtain ⟨t, h1, h2⟩ := h.2 q hq
  exact ⟨t, va_Z.moved hW.alike h1, va_T.moved hW.alike h2⟩
theorem ev.kept {A : Nat → Prop} {U : State} {H H1 : Heap} (h : ev A U H) (hq : ∀ a : Nat, a < H.size → ¬ A a → H1[a]? = H[a]?) : ev A U H1 := by
  refine ⟨h.1, fun q hq0 => ?_⟩
  obtain ⟨t, h1, h2⟩ := h.2 q hq0
  exact ⟨t, h1.kept hq, h2.kept hq⟩
theorem ev.narrow {A B : Nat → Prop} {U : State} {H : Heap} (h : ev A U H) (hAB : ∀ q, B q → A q) : ev B U H := by
  refine ⟨h.1, fun q hq0 => ?_⟩
  obtain ⟨t, h1, h2⟩ := h.2 q hq0
  exact ⟨t, h1.narrow hAB, h2.narrow hAB⟩
theorem ev.tab {A : Nat → Prop} {s : State} {H : Heap} (hE : ev A s H) (i : Nat) {n : String} {r : List Int32} (h : tbls[i]? = some (n, r)) : ∃ t : Nat, va_Z "CodedGroups$Code" n "[I" (.ref t) A s H ∧ va_T .int t r.length (fun j => .int (r.getD j 0)) A s H := hE.2 _ (List.mem_of_getElem? h)
theorem ev.nest {A : Nat → Prop} {s : State} {H : Heap} {args : Array Value} (hE : ev A s H) (i : Nat) {w : Cond} (h : nestW[i]? = some w) : w.before args s = true := va_Nw.use (nw_tab (nestW_kind _ (List.mem_of_getElem? h))) (hE.1 _ (List.mem_of_getElem? h))
theorem ev.nestW {A : Nat → Prop} {s : State} {H : Heap} (hE : ev A s H) (i : Nat) {w : Cond} (h : nestW[i]? = some w) : va_Nw w s := hE.1 _ (List.mem_of_getElem? h)
theorem fm_of {α β : Type} {f : α → Option β} : ∀ {l : List α} {w : List β}, l.map f = w.map some → l.filterMap f = w
  | [], [], _ => rfl
  | [], _ :: _, h => by simp at h
  | _ :: _, [], h => by simp at h
  | a :: l, b :: w, h => by
    simp only [List.map_cons, List.cons.injEq] at h
    rw [List.filterMap_cons_some h.1, fm_of h.2]
def kP (D : va_G) (ty : List (ClassId × FieldType)) (av : List Value) (wc : va_W) (sz : Nat) : Array Value → State → Prop := va_Pc av (fun U => U.heap.size = sz ∧ ev (va_A wc sz) U U.heap ∧ va_P D vwCl wc U.heap ∧ va_K D vwCl ty U ∧ va_D (fun _ => True) wc)
def kB (D : va_G) (ty : List (ClassId × FieldType)) (A : Nat → Prop) (w1 : va_W) (_ : Unit) (t : State) : Prop := va_P D vwCl w1 t.heap ∧ va_K D vwCl ty t ∧ va_D A w1
def kQi (D : va_G) (ty : List (ClassId × FieldType)) (A : Nat → Prop) (r : Int32) (w1 : va_W) : Array Value → State → Outcome → State → Prop := va_Qi (fun (r' : Int32) (_ : Unit) => r' = r) (kB D ty A w1) A
def kQv (D : va_G) (ty : List (ClassId × FieldType)) (A : Nat → Prop) (w1 : va_W) : Array Value → State → Outcome → State → Prop := va_Qv (fun (_ : Unit) => True) (kB D ty A w1) A
/-- a contract with one answer: from the cells wc to the cells w1, answering r -/
def CtI (l : Launch) (y : MethodName) (ws : List Cond) (rm : Room) (D : va_G) (ty : List (ClassId × FieldType)) (av : List Value) (r : Int32) (wc w1 : va_W) : Prop := ∀ sz : Nat, Met l y ws rm (kP D ty av wc sz) (kQi D ty (va_A wc sz) r w1) 0 0 (va_A wc sz)
def CtV (l : Launch) (y : MethodName) (ws : List Cond) (rm : Room) (D : va_G) (ty : List (ClassId × FieldType)) (av : List Value) (wc w1 : va_W) : Prop := ∀ sz : Nat, Met l y ws rm (kP D ty av wc sz) (kQv D ty (va_A wc sz) w1) 0 0 (va_A wc sz)
theorem kP_blind {D : va_G} {ty : List (ClassId × FieldType)} {av : List Value} {wc : va_W} {sz : Nat} : FrameBlind (kP D ty av wc sz) := fun a U g mk q => by
  obtain ⟨q0, q1, qE, qP, qK, qD⟩ := q
  exact ⟨q0, q1, qE.calling, qP, va_K.moved (u := U) (U := U.calling g mk a) (Vm.Alike.refl U.vm) qK, qD⟩
theorem kpre {D : va_G} {ty : List (ClassId × FieldType)} {s : State} {H : Heap} {A : Nat → Prop} {wsx wc : va_W} {locs : List Loc} (av : List Value) (hE : ev A s s.heap) (hK : va_K D vwCl ty s) (hP : va_P D vwCl wsx H) (hD : va_D A wsx) (hS : va_S A s.heap H locs) (hA : ∀ q, s.heap.size ≤ q → A q) (isC : List Nat) (hC : isC.map (fun i => wsx[i]?) = wc.map some) (hn : va_nd isC = true) :
    ∀ U : State, U.heap = H → s.WarmedH U.vm → kP D ty av wc H.size av.toArray U := by
  intro U hU hW
  have hF := va_free (wc := wc) hD hS hA isC hC
  refine ⟨rfl, by rw [hU], ?_, by rw [hU]; exact hP.sub isC (fm_of hC), va_K.moved hW.alike hK, (hD.sub isC hn hC).weaken (fun _ _ _ _ => trivial)⟩
  rw [hU]
  exact ((hE.kept hS.2.1).narrow hF).warm hW
theorem CtI.of {l : Launch} {y : MethodName} {ws ws' : List Cond} {rm : Room} {D : va_G} {ty : List (ClassId × FieldType)} {av : List Value} {r : Int32} {wc w1 : va_W} {cc : ByteArray} {maxL : Nat} {ret : Option FieldType} (hy : plainName y.cls = true) (hw : ws = Cond.code y cc maxL ret :: ws') (hlen : (lg_sl av).length ≤ maxL)
    (body : ∀ (p : Program) (e : Env) (s : State) (m : MethodId) (below : List Frame) (meth : Method) (c : Code) (A : Nat → Prop) (ls : Array Slot), p.tables.exec = Jvm.exec → c.code = cc → meth.sig.returnType = ret → c.maxLocals = maxL → s.vm.findClass y.cls = some m.cls → (∀ w ∈ ws, w.before av.toArray s = true) → meth.locks = false → ev A s s.heap → va_P D vwCl wc s.heap → va_K D vwCl ty s → va_D A wc → (∀ q, s.heap.size ≤ q → A q) → va_S A s.heap s.heap [] → lv_has ls maxL (lv_args 0 av) →
      W p l e rm s m av.toArray below meth c s.heap [] 0 0 (MQ below (kQi D ty A r w1) av.toArray s 0 0 A) (F0 m 0 ls [])) : CtI l y ws rm D ty av r wc w1 := by
  intro sz
  refine Met.ofW (cc := cc) (maxL := maxL) (ret := ret) hy hw ?_
  intro p e s m args below meth c s₁ B hml hv
  obtain ⟨rfl, hsz, hE, hP, hK, hD0⟩ := hv
  subst hsz
  rw [lg_entry_eq]
  exact body p e s m below meth c _ _ B.exec B.bytes B.returns hml (findClass_of_methodNamed B.named) (atoms_spec (ws := ws) B.pre) B.notSynchronized hE hP hK (hD0.self (sz := s.heap.size)) (fun q h => Or.inr h) va_S.rf (lv_entry av hlen)
theorem CtV.of {l : Launch} {y : MethodName} {ws ws' : List Cond} {rm : Room} {D : va_G} {ty : List (ClassId × FieldType)} {av : List Value} {wc w1 : va_W} {cc : ByteArray} {maxL : Nat} {ret : Option FieldType} (hy : plainName y.cls = true) (hw : ws = Cond.code y cc maxL ret :: ws') (hlen : (lg_sl av).length ≤ maxL)
    (body : ∀ (p : Program) (e : Env) (s : State) (m : MethodId) (below : List Frame) (meth : Method) (c : Code) (A : Nat → Prop) (ls : Array Slot), p.tables.exec = Jvm.exec → c.code = cc → meth.sig.returnType = ret → c.maxLocals = maxL → s.vm.findClass y.cls = some m.cls → (∀ w ∈ ws, w.before av.toArray s = true) → meth.locks = false → ev A s s.heap → va_P D vwCl wc s.heap → va_K D vwCl ty s → va_D A wc → (∀ q, s.heap.size ≤ q → A q) → va_S A s.heap s.heap [] → lv_has ls maxL (lv_args 0 av) →
      W p l e rm s m av.toArray below meth c s.heap [] 0 0 (MQ below (kQv D ty A w1) av.toArray s 0 0 A) (F0 m 0 ls [])) : CtV l y ws rm D ty av wc w1 := by
  intro sz
  refine Met.ofW (cc := cc) (maxL := maxL) (ret := ret) hy hw ?_
  intro p e s m args below meth c s₁ B hml hv
  obtain ⟨rfl, hsz, hE, hP, hK, hD0⟩ := hv
  subst hsz
  rw [lg_entry_eq]
  exact body p e s m below meth c _ _ B.exec B.bytes B.returns hml (findClass_of_methodNamed B.named) (atoms_spec (ws := ws) B.pre) B.notSynchronized hE hP hK (hD0.self (sz := s.heap.size)) (fun q h => Or.inr h) va_S.rf (lv_entry av hlen)
section KR
variable {p : Program} {l : Launch} {e : Env} {R : Room} {s : State} {m : MethodId} {args : Array Value} {below : List Frame} {meth : Method} {c : Code} {H : Heap} {locs : List Loc} {cells slots : Nat} {Q : State → Prop} {D : va_G} {ty : List (ClassId × FieldType)} {A : Nat → Prop} {cc : ByteArray} {pc : Nat} {ls : Array Slot}
theorem kreti {v r : Int32} {wa w1 : va_W} (hx : p.tables.exec = Jvm.exec) (hb : c.code = cc) (hr : meth.sig.returnType = some .int) (hlocks : meth.locks = false) (hS : va_S A s.heap H locs) (hP : va_P D vwCl wa H) (hK : va_K D vwCl ty s) (hD : va_D A wa) (hdg : decode cc pc = .ok (.ireturn, 1)) (hv : v = r) (hw : wa = w1) :
    W p l e R s m args below meth c H locs cells slots (MQ below (kQi D ty A r w1) args s cells slots A) (F0 m pc ls [.int v]) := by
  subst hv
  subst hw
  exact W.iret hx hb hr (fun t ht hW => ⟨⟨v, (), rfl, rfl, by rw [ht]; exact hP, va_K.moved hW.alike hK, hD⟩, hS.F ht⟩) hS.2.2 hdg
theorem kretz {v r : Int32} {wa w1 : va_W} {rt : FieldType} (hx : p.tables.exec = Jvm.exec) (hb : c.code = cc) (hr : meth.sig.returnType = some rt) (hlocks : meth.locks = false) (hS : va_S A s.heap H locs) (hP : va_P D vwCl wa H) (hK : va_K D vwCl ty s) (hD : va_D A wa) (hdg : decode cc pc = .ok (.ireturn, 1)) (hn : narrow rt (.int v) = .int v) (hv : v = r) (hw : wa = w1) :
    W p l e R s m args below meth c H locs cells slots (MQ below (kQi D ty A r w1) args s cells slots A) (F0 m pc ls [.int v]) := by
  subst hv
  subst hw
  exact W.zret hx hb hr hn (fun t ht hW => ⟨⟨v, (), rfl, rfl, by rw [ht]; exact hP, va_K.moved hW.alike hK, hD⟩, hS.F ht⟩) hS.2.2 hdg
theorem kretv {wa w1 : va_W} (hx : p.tables.exec = Jvm.exec) (hb : c.code = cc) (hr : meth.sig.returnType = none) (hlocks : meth.locks = false) (hS : va_S A s.heap H locs) (hP : va_P D vwCl wa H) (hK : va_K D vwCl ty s) (hD : va_D A wa) (hdg : decode cc pc = .ok (.return_, 1)) (hw : wa = w1) :
    W p l e R s m args below meth c H locs cells slots (MQ below (kQv D ty A w1) args s cells slots A) (F0 m pc ls []) := by
  subst hw
  exact W.vret hx hb hr (fun t ht hW => ⟨⟨(), rfl, trivial, by rw [ht]; exact hP, va_K.moved hW.alike hK, hD⟩, hS.F ht⟩) hS.2.2 hdg
variable {wsx wc w1 wr ws' : va_W} {a : Array Value} {st0 rest : List Value}
/-- behind a call that answers a number -/
theorem kcalli {r : Int32} (hr : va_Run p l e R s m args below meth c H locs cells slots 0 0 (F0 m pc ls st0) rest (kQi D ty (va_A wc H.size) r w1 a) (va_A wc H.size)) (hP : va_P D vwCl wsx H) (hD : va_D A wsx) (hS : va_S A s.heap H locs) (hA : ∀ q, s.heap.size ≤ q → A q) (isC isR isP : List Nat) (hC : isC.map (fun i => wsx[i]?) = wc.map some) (hR : isR.map (fun i => wsx[i]?) = wr.map some) (hnR : va_nd isR = true) (hdis : ∀ i ∈ isR, i ∉ isC) (hp1 : isP.map (fun i => (wr ++ w1)[i]?) = ws'.map some) (hnP : va_nd isP = true)
    (kk : ∀ (H : Heap) (locs : List Loc), va_P D vwCl ws' H → va_D A ws' → va_S A s.heap H locs → W p l e R s m args below meth c H locs cells slots Q (F0 m (pc + 3) ls (.int r :: rest))) : W p l e R s m args below meth c H locs cells slots Q (F0 m pc ls st0) := by
  have hF := va_free (wc := wc) hD hS hA isC hC
  refine va_calli hr hS (fun q _ h => hF q h) hF (fun r' u t H1 locs1 ht hvm hw hB hz hk hS1 => ?_)
  obtain ⟨hP1, hK1, hD1⟩ := hB
  subst hw
  rw [ht] at hP1
  obtain ⟨hPj, hDj⟩ := va_join hP hD isC isR hC hR hnR hdis hk hF hP1 hD1
  exact kk H1 locs1 (hPj.sub isP (fm_of hp1)) (hDj.sub isP hnP hp1) hS1
theorem kcallv (hr : va_Run p l e R s m args below meth c H locs cells slots 0 0 (F0 m pc ls st0) rest (kQv D ty (va_A wc H.size) w1 a) (va_A wc H.size)) (hP : va_P D vwCl wsx H) (hD : va_D A wsx) (hS : va_S A s.heap H locs) (hA : ∀ q, s.heap.size ≤ q → A q) (isC isR isP : List Nat) (hC : isC.map (fun i => wsx[i]?) = wc.map some) (hR : isR.map (fun i => wsx[i]?) = wr.map some) (hnR : va_nd isR = true) (hdis : ∀ i ∈ isR, i ∉ isC) (hp1 : isP.map (fun i => (wr ++ w1)[i]?) = ws'.map some) (hnP : va_nd isP = true)
    (kk : ∀ (H : Heap) (locs : List Loc), va_P D vwCl ws' H → va_D A ws' → va_S A s.heap H locs → W p l e R s m args below meth c H locs cells slots Q (F0 m (pc + 3) ls rest)) : W p l e R s m args below meth c H locs cells slots Q (F0 m pc ls st0) := by
  have hF := va_free (wc := wc) hD hS hA isC hC
  refine va_callv hr hS (fun q _ h => hF q h) hF (fun u t H1 locs1 ht hvm hw hB hz hk hS1 => ?_)
  obtain ⟨hP1, hK1, hD1⟩ := hB
  rw [ht] at hP1
  obtain ⟨hPj, hDj⟩ := va_join hP hD isC isR hC hR hnR hdis hk hF hP1 hD1
  exact kk H1 locs1 (hPj.sub isP (fm_of hp1)) (hDj.sub isP hnP hp1) hS1
/-- behind a call that touches no cell -/
theorem kcall0 {r : Int32} (hr : va_Run p l e R s m args below meth c H locs cells slots 0 0 (F0 m pc ls st0) rest (kQi D ty (va_A [] H.size) r [] a) (va_A [] H.size)) (hP : va_P D vwCl wsx H) (hS : va_S A s.heap H locs) (hA : ∀ q, s.heap.size ≤ q → A q)
    (kk : ∀ (H : Heap) (locs : List Loc), va_P D vwCl wsx H → va_S A s.heap H locs → W p l e R s m args below meth c H locs cells slots Q (F0 m (pc + 3) ls (.int r :: rest))) : W p l e R s m args below meth c H locs cells slots Q (F0 m pc ls st0) := by
  have hF : ∀ q, va_A [] H.size q → A q := fun q h => by
    rcases h with ⟨k, e0, h⟩ | h
    · simp at h
    · exact hA q (Nat.le_trans hS.1 h)
  refine va_calli hr hS (fun q _ h => hF q h) hF (fun r' u t H1 locs1 ht hvm hw hB hz hk hS1 => ?_)
  subst hw
  refine kk H1 locs1 (hP.kept (fun k q hq => ?_)) hS1
  have hlt : q.1 < H.size := (hP k q hq).lt
  exact hk q.1 hlt (fun h => by
    rcases h with ⟨k, e0, h⟩ | h
    · simp at h
    · exact absurd hlt (Nat.not_lt.mpr h))
variable {Ts wsm : List Cond} {nL maxL index n : Nat} {own C : String} {y : MethodName} {bytes : ByteArray} {ret : Option FieldType} {rm : Room} {b : Nat} {As : List Value}
theorem krunV {r : Int32} (S : CallFix p m c cc nL s args Ts own) (hM : CtI l y wsm rm D ty (.ref b :: As) r wc w1) (cw : CallW R s args own C index y bytes maxL ret wsm rm 0 0 n) (hE : ev A s s.heap) (hK : va_K D vwCl ty s) (hP : va_P D vwCl wsx H) (hD : va_D A wsx) (hS : va_S A s.heap H locs) (hA : ∀ q, s.heap.size ≤ q → A q) (isC : List Nat) (hC : isC.map (fun i => wsx[i]?) = wc.map some) (hnC : va_nd isC = true) {q0 ci N : Nat} {T : u_T} {fs : List Value} (hc : vwCl[ci]? = some (C, T, N)) (he : wsx[q0]? = some (b, .inr (ci, fs)))
    (hn : As.length = n) (hsize : ls.size = nL) (hstack : st0 = As.reverse ++ .ref b :: rest) (hW : (rest.map fun v => v.category).sum ≤ 8) (hdg : decode cc pc = .ok (.invokevirtual index, 3)) (hf : cells ≤ R.cells ∧ slots ≤ R.slots) :
    va_Run p l e R s m args below meth c H locs cells slots 0 0 (F0 m pc ls st0) rest (kQi D ty (va_A wc H.size) r w1 (Value.ref b :: As).toArray) (va_A wc H.size) :=
  va_runV S (hM H.size) cw ⟨kP_blind, va_recv hK hP hc he, kpre (.ref b :: As) hE hK hP hD hS hA isC hC hnC⟩ rfl hn hsize hstack (lv_room hW) hdg hf
theorem krunVv (S : CallFix p m c cc nL s args Ts own) (hM : CtV l y wsm rm D ty (.ref b :: As) wc w1) (cw : CallW R s args own C index y bytes maxL ret wsm rm 0 0 n) (hE : ev A s s.heap) (hK : va_K D vwCl ty s) (hP : va_P D vwCl wsx H) (hD : va_D A wsx) (hS : va_S A s.heap H locs) (hA : ∀ q, s.heap.size ≤ q → A q) (isC : List Nat) (hC : isC.map (fun i => wsx[i]?) = wc.map some) (hnC : va_nd isC = true) {q0 ci N : Nat} {T : u_T} {fs : List Value} (hc : vwCl[ci]? = some (C, T, N)) (he : wsx[q0]? = some (b, .inr (ci, fs)))
    (hn : As.length = n) (hsize : ls.size = nL) (hstack : st0 = As.reverse ++ .ref b :: rest) (hW : (rest.map fun v => v.category).sum ≤ 8) (hdg : decode cc pc = .ok (.invokevirtual index, 3)) (hf : cells ≤ R.cells ∧ slots ≤ R.slots) :
    va_Run p l e R s m args below meth c H locs cells slots 0 0 (F0 m pc ls st0) rest (kQv D ty (va_A wc H.size) w1 (Value.ref b :: As).toArray) (va_A wc H.size) :=
  va_runV S (hM H.size) cw ⟨kP_blind, va_recv hK hP hc he, kpre (.ref b :: As) hE hK hP hD hS hA isC hC hnC⟩ rfl hn hsize hstack (lv_room hW) hdg hf
theorem krunS {r : Int32} (S : CallFix p m c cc nL s args Ts own) (hM : CtI l y wsm rm D ty As r wc w1) (cw : CallB R s args own index y bytes maxL ret wsm rm 0 0 n ∧ (Cond.static y).before args s = true) (hE : ev A s s.heap) (hK : va_K D vwCl ty s) (hP : va_P D vwCl wsx H) (hD : va_D A wsx) (hS : va_S A s.heap H locs) (hA : ∀ q, s.heap.size ≤ q → A q) (isC : List Nat) (hC : isC.map (fun i => wsx[i]?) = wc.map some) (hnC : va_nd isC = true)
    (hn : As.length = n) (hsize : ls.size = nL) (hstack : st0 = As.reverse ++ rest) (hW : (rest.map fun v => v.category).sum ≤ 8) (hdg : decode cc pc = .ok (.invokestatic index, 3)) (hf : cells ≤ R.cells ∧ slots ≤ R.slots) :
    va_Run p l e R s m args below meth c H locs cells slots 0 0 (F0 m pc ls st0) rest (kQi D ty (va_A wc H.size) r w1 As.toArray) (va_A wc H.size) :=
  va_runS S (hM H.size) cw ⟨kP_blind, kpre As hE hK hP hD hS hA isC hC hnC⟩ rfl hn hsize hstack (lv_room hW) hdg hf
theorem kcalliU {σ : Type} (u0 : σ) (rf : σ → Int32) (w1f wsf : σ → va_W) (hr : va_Run p l e R s m args below meth c H locs cells slots 0 0 (F0 m pc ls st0) rest (kQi D ty (va_A wc H.size) (rf u0) (w1f u0) a) (va_A wc H.size)) (hP : va_P D vwCl wsx H) (hD : va_D A wsx) (hS : va_S A s.heap H locs) (hA : ∀ q, s.heap.size ≤ q → A q) (isC isR isP : List Nat) (hC : isC.map (fun i => wsx[i]?) = wc.map some) (hR : isR.map (fun i => wsx[i]?) = wr.map some) (hnR : va_nd isR = true) (hdis : ∀ i ∈ isR, i ∉ isC) (hp1 : ∀ u, isP.map (fun i => (wr ++ w1f u)[i]?) = (wsf u).map some) (hnP : va_nd isP = true)
    (kk : ∀ (u : σ), u0 = u → ∀ (H : Heap) (locs : List Loc), va_P D vwCl (wsf u) H → va_D A (wsf u) → va_S A s.heap H locs → W p l e R s m args below meth c H locs cells slots Q (F0 m (pc + 3) ls (.int (rf u) :: rest))) : W p l e R s m args below meth c H locs cells slots Q (F0 m pc ls st0) :=
  kcalli hr hP hD hS hA isC isR isP hC hR hnR hdis (hp1 u0) hnP (fun H locs h1 h2 h3 => kk u0 rfl H locs h1 h2 h3)
theorem kcallvU {σ : Type} (u0 : σ) (w1f wsf : σ → va_W) (hr : va_Run p l e R s m args below meth c H locs cells slots 0 0 (F0 m pc ls st0) rest (kQv D ty (va_A wc H.size) (w1f u0) a) (va_A wc H.size)) (hP : va_P D vwCl wsx H) (hD : va_D A wsx) (hS : va_S A s.heap H locs) (hA : ∀ q, s.heap.size ≤ q → A q) (isC isR isP : List Nat) (hC : isC.map (fun i => wsx[i]?) = wc.map some) (hR : isR.map (fun i => wsx[i]?) = wr.map some) (hnR : va_nd isR = true) (hdis : ∀ i ∈ isR, i ∉ isC) (hp1 : ∀ u, isP.map (fun i => (wr ++ w1f u)[i]?) = (wsf u).map some) (hnP : va_nd isP = true)
    (kk : ∀ (u : σ), u0 = u → ∀ (H : Heap) (locs : List Loc), va_P D vwCl (wsf u) H → va_D A (wsf u) → va_S A s.heap H locs → W p l e R s m args below meth c H locs cells slots Q (F0 m (pc + 3) ls rest)) : W p l e R s m args below meth c H locs cells slots Q (F0 m pc ls st0) :=
  kcallv hr hP hD hS hA isC isR isP hC hR hnR hdis (hp1 u0) hnP (fun H locs h1 h2 h3 => kk u0 rfl H locs h1 h2 h3)
end KR
theorem nar_b {v : Int32} (h : v = 0 ∨ v = 1) : narrow .boolean (.int v) = .int v := by rcases h with rfl | rfl <;> rfl
theorem fit_b {v : Int32} (h : v = 0 ∨ v = 1) : fits .boolean (.int v) = true := by rcases h with rfl | rfl <;> rfl
theorem i_nlt0 {x : Int32} (h : ¬ x < 0) : 0 ≤ x.toInt := by
  rw [Int32.lt_iff_toInt_lt, Int32.toInt_zero] at h
  omega
theorem i_nlt {x y : Int32} (h : ¬ x < y) : y.toInt ≤ x.toInt := by
  rw [Int32.lt_iff_toInt_lt] at h
  omega
theorem i_lt {x y : Int32} (h : x < y) : x.toInt < y.toInt := Int32.lt_iff_toInt_lt.mp h
theorem i_le {x y : Int32} (h : x ≤ y) : x.toInt ≤ y.toInt := Int32.le_iff_toInt_le.mp h
theorem i_nle {x y : Int32} (h : ¬ x ≤ y) : y.toInt < x.toInt := by
  rw [Int32.le_iff_toInt_le] at h
  omega
end
section
-- last
theorem zz_last : True := trivial
end
