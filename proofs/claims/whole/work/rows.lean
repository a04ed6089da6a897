section
-- ===== PART A: goes FIRST, ahead of the names: the tables' words, and 'selects' of the private methods out of them =====
/-- a private method of a class that the tables say can be made, by its rows of tables_1 -/
def lw_okq (q : MethodName × Nat) : Prop := (q.1.cls ≠ "java/lang/invoke/MethodHandle" ∧ q.1.cls ≠ "java/lang/invoke/VarHandle") ∧ Cond.instantiable q.1.cls q.2 ∈ tables_1 ∧ Cond.privateMethod q.1 ∈ tables_1 ∧ Cond.instanceMethod q.1 ∈ tables_1
theorem lw_p0 : lw_okq (⟨"PointerSweep", "carry", "(III)V"⟩, 3) := ⟨⟨by decide +kernel, by decide +kernel⟩, List.mem_of_getElem? (i := 11) (by decide +kernel), List.mem_of_getElem? (i := 277) (by decide +kernel), List.mem_of_getElem? (i := 278) (by decide +kernel)⟩
theorem lw_p1 : lw_okq (⟨"PointerSweep$State", "cleanPage", "(I)I"⟩, 10) := ⟨⟨by decide +kernel, by decide +kernel⟩, List.mem_of_getElem? (i := 19) (by decide +kernel), List.mem_of_getElem? (i := 303) (by decide +kernel), List.mem_of_getElem? (i := 304) (by decide +kernel)⟩
theorem lw_p2 : lw_okq (⟨"PointerSweep$State", "clean", "([JII)I"⟩, 10) := ⟨⟨by decide +kernel, by decide +kernel⟩, List.mem_of_getElem? (i := 19) (by decide +kernel), List.mem_of_getElem? (i := 307) (by decide +kernel), List.mem_of_getElem? (i := 308) (by decide +kernel)⟩
theorem lw_p3 : lw_okq (⟨"PointerSweep", "toldOf", "(JII)I"⟩, 3) := ⟨⟨by decide +kernel, by decide +kernel⟩, List.mem_of_getElem? (i := 11) (by decide +kernel), List.mem_of_getElem? (i := 331) (by decide +kernel), List.mem_of_getElem? (i := 332) (by decide +kernel)⟩
theorem lw_p4 : lw_okq (⟨"PointerSweepModel", "begin", "()V"⟩, 5) := ⟨⟨by decide +kernel, by decide +kernel⟩, List.mem_of_getElem? (i := 373) (by decide +kernel), List.mem_of_getElem? (i := 412) (by decide +kernel), List.mem_of_getElem? (i := 413) (by decide +kernel)⟩
theorem lw_p5 : lw_okq (⟨"PointerSweepModel", "untag", "(IZ)V"⟩, 5) := ⟨⟨by decide +kernel, by decide +kernel⟩, List.mem_of_getElem? (i := 373) (by decide +kernel), List.mem_of_getElem? (i := 416) (by decide +kernel), List.mem_of_getElem? (i := 417) (by decide +kernel)⟩
theorem lw_p6 : lw_okq (⟨"PointerSweepModel", "set", "(IIIIII)V"⟩, 5) := ⟨⟨by decide +kernel, by decide +kernel⟩, List.mem_of_getElem? (i := 373) (by decide +kernel), List.mem_of_getElem? (i := 420) (by decide +kernel), List.mem_of_getElem? (i := 421) (by decide +kernel)⟩
theorem lw_p7 : lw_okq (⟨"PointerSweepModel", "keeps", "(I)I"⟩, 5) := ⟨⟨by decide +kernel, by decide +kernel⟩, List.mem_of_getElem? (i := 373) (by decide +kernel), List.mem_of_getElem? (i := 427) (by decide +kernel), List.mem_of_getElem? (i := 428) (by decide +kernel)⟩
theorem lw_p8 : lw_okq (⟨"PointerSweepModel", "rangeSize", "(I)I"⟩, 5) := ⟨⟨by decide +kernel, by decide +kernel⟩, List.mem_of_getElem? (i := 373) (by decide +kernel), List.mem_of_getElem? (i := 436) (by decide +kernel), List.mem_of_getElem? (i := 437) (by decide +kernel)⟩
theorem lw_p9 : lw_okq (⟨"PointerSweepModel", "become", "(II)V"⟩, 5) := ⟨⟨by decide +kernel, by decide +kernel⟩, List.mem_of_getElem? (i := 373) (by decide +kernel), List.mem_of_getElem? (i := 448) (by decide +kernel), List.mem_of_getElem? (i := 449) (by decide +kernel)⟩
theorem lw_p10 : lw_okq (⟨"PointerSweepModel", "against", "(IIII)I"⟩, 5) := ⟨⟨by decide +kernel, by decide +kernel⟩, List.mem_of_getElem? (i := 373) (by decide +kernel), List.mem_of_getElem? (i := 467) (by decide +kernel), List.mem_of_getElem? (i := 468) (by decide +kernel)⟩
theorem lw_p11 : lw_okq (⟨"PointerSweepModel", "cellOf", "(II)I"⟩, 5) := ⟨⟨by decide +kernel, by decide +kernel⟩, List.mem_of_getElem? (i := 373) (by decide +kernel), List.mem_of_getElem? (i := 471) (by decide +kernel), List.mem_of_getElem? (i := 472) (by decide +kernel)⟩
theorem lw_p12 : lw_okq (⟨"PointerSweepModel", "lookUp", "(II)V"⟩, 5) := ⟨⟨by decide +kernel, by decide +kernel⟩, List.mem_of_getElem? (i := 373) (by decide +kernel), List.mem_of_getElem? (i := 475) (by decide +kernel), List.mem_of_getElem? (i := 476) (by decide +kernel)⟩
theorem lw_p13 : lw_okq (⟨"PointerSweepModel", "isStale", "(I)Z"⟩, 5) := ⟨⟨by decide +kernel, by decide +kernel⟩, List.mem_of_getElem? (i := 373) (by decide +kernel), List.mem_of_getElem? (i := 479) (by decide +kernel), List.mem_of_getElem? (i := 480) (by decide +kernel)⟩
theorem lw_p14 : lw_okq (⟨"PointerSweepModel", "laid", "(I)V"⟩, 5) := ⟨⟨by decide +kernel, by decide +kernel⟩, List.mem_of_getElem? (i := 373) (by decide +kernel), List.mem_of_getElem? (i := 487) (by decide +kernel), List.mem_of_getElem? (i := 488) (by decide +kernel)⟩
theorem lw_p15 : lw_okq (⟨"PointerSweepModel", "clean", "(II)I"⟩, 5) := ⟨⟨by decide +kernel, by decide +kernel⟩, List.mem_of_getElem? (i := 373) (by decide +kernel), List.mem_of_getElem? (i := 504) (by decide +kernel), List.mem_of_getElem? (i := 505) (by decide +kernel)⟩
def lw_privs_1 : List (MethodName × Nat) := [(⟨"PointerSweep", "carry", "(III)V"⟩, 3), (⟨"PointerSweep$State", "cleanPage", "(I)I"⟩, 10), (⟨"PointerSweep$State", "clean", "([JII)I"⟩, 10), (⟨"PointerSweep", "toldOf", "(JII)I"⟩, 3), (⟨"PointerSweepModel", "begin", "()V"⟩, 5), (⟨"PointerSweepModel", "untag", "(IZ)V"⟩, 5), (⟨"PointerSweepModel", "set", "(IIIIII)V"⟩, 5), (⟨"PointerSweepModel", "keeps", "(I)I"⟩, 5), (⟨"PointerSweepModel", "rangeSize", "(I)I"⟩, 5), (⟨"PointerSweepModel", "become", "(II)V"⟩, 5), (⟨"PointerSweepModel", "against", "(IIII)I"⟩, 5), (⟨"PointerSweepModel", "cellOf", "(II)I"⟩, 5), (⟨"PointerSweepModel", "lookUp", "(II)V"⟩, 5), (⟨"PointerSweepModel", "isStale", "(I)Z"⟩, 5), (⟨"PointerSweepModel", "laid", "(I)V"⟩, 5), (⟨"PointerSweepModel", "clean", "(II)I"⟩, 5)]
theorem lw_r1 : ∀ q ∈ lw_privs_1, lw_okq q := List.forall_mem_cons.mpr ⟨lw_p0, List.forall_mem_cons.mpr ⟨lw_p1, List.forall_mem_cons.mpr ⟨lw_p2, List.forall_mem_cons.mpr ⟨lw_p3, List.forall_mem_cons.mpr ⟨lw_p4, List.forall_mem_cons.mpr ⟨lw_p5, List.forall_mem_cons.mpr ⟨lw_p6, List.forall_mem_cons.mpr ⟨lw_p7, List.forall_mem_cons.mpr ⟨lw_p8, List.forall_mem_cons.mpr ⟨lw_p9, List.forall_mem_cons.mpr ⟨lw_p10, List.forall_mem_cons.mpr ⟨lw_p11, List.forall_mem_cons.mpr ⟨lw_p12, List.forall_mem_cons.mpr ⟨lw_p13, List.forall_mem_cons.mpr ⟨lw_p14, List.forall_mem_cons.mpr ⟨lw_p15, fun _ h => absurd h List.not_mem_nil⟩⟩⟩⟩⟩⟩⟩⟩⟩⟩⟩⟩⟩⟩⟩⟩
theorem lw_p16 : lw_okq (⟨"PointerSweepModel", "areSeen", "()Z"⟩, 5) := ⟨⟨by decide +kernel, by decide +kernel⟩, List.mem_of_getElem? (i := 373) (by decide +kernel), List.mem_of_getElem? (i := 512) (by decide +kernel), List.mem_of_getElem? (i := 513) (by decide +kernel)⟩
def lw_privs_2 : List (MethodName × Nat) := [(⟨"PointerSweepModel", "areSeen", "()Z"⟩, 5)]
theorem lw_r2 : ∀ q ∈ lw_privs_2, lw_okq q := List.forall_mem_cons.mpr ⟨lw_p16, fun _ h => absurd h List.not_mem_nil⟩
def lw_privs : List (MethodName × Nat) := lw_privs_1 ++ (lw_privs_2)
def lw_tbl : List Cond := k2_sels lw_privs ++ tables_1
theorem lw_privs_ok : ∀ q ∈ lw_privs, lw_okq q := by
  show ∀ q ∈ lw_privs_1 ++ (lw_privs_2), lw_okq q
  exact List.forall_mem_append.mpr ⟨lw_r1, lw_r2⟩
/-! ===== BEGIN words of one list among another's, by their places ===== -/
theorem goodIn_r {big : List Cond} (ws : List Cond) (ps : List Nat) (hp : ws = ps.filterMap (fun i => big[i]?)) (h : ws.all goodWord = true) : GoodIn big ws := by
  intro w hw
  have h1 := List.all_eq_true.mp h w hw
  rw [hp] at hw
  obtain ⟨i, -, hi⟩ := List.mem_filterMap.mp hw
  have hm : w ∈ big := by first | exact List.mem_of_getElem? hi | exact List.getElem?_mem hi
  exact ⟨hm, good_of_word h1⟩
theorem goodIn_app {big a b : List Cond} (ha : GoodIn big a) (hb : GoodIn big b) : GoodIn big (a ++ b) := fun w h => (List.mem_append.mp h).elim (ha w) (hb w)
theorem goodIn_ca {big a b : List Cond} {c : Cond} (ha : GoodIn big (c :: a)) (hb : GoodIn big b) : GoodIn big (c :: (a ++ b)) := fun w h => (List.mem_cons.mp h).elim (fun e => ha w (List.mem_cons.mpr (Or.inl e))) (fun h => (List.mem_append.mp h).elim (fun h => ha w (List.mem_cons.mpr (Or.inr h))) (hb w))
theorem goodIn_sub {big ws : List Cond} (hm : ∀ w ∈ ws, w ∈ big) (h : ws.all goodWord = true) : GoodIn big ws := fun w hw => ⟨hm w hw, good_of_word (List.all_eq_true.mp h w hw)⟩
/-! ===== END ===== -/

/-! ===== BEGIN printed: names, fields, word lists, decode rows ===== -/
def RX0 : String := "PointerSweep$CellMap"
def TX0 : u_T := fun k => match k with
  | _ => ("PointerSweep$CellMap", "rows", "[J", true)
def tyX0 : Nat → FieldType := fun k => match k with
  | _ => .array .long
abbrev wsX00 : List Cond := u_ws RX0 TX0 1
theorem nmX0 : ∀ a, a < 1 → ∀ b, b < 1 → a ≠ b → (TX0 a).2.1 ≠ (TX0 b).2.1 := by decide +kernel
theorem tyX0_ok : ∀ k, k < 1 → parseFieldDescriptor (TX0 k).2.2.1 = some (tyX0 k) := by decide +kernel
abbrev cX0_init : ByteArray := prog_2_method_1_code
def yX0_init : MethodName := ⟨RX0, "<init>", "()V"⟩
abbrev cX0_has : ByteArray := prog_2_method_2_code
def yX0_has : MethodName := ⟨RX0, "has", "(I)Z"⟩
abbrev cX0_add : ByteArray := prog_2_method_3_code
def yX0_add : MethodName := ⟨RX0, "add", "(I)V"⟩
abbrev cX0_drop : ByteArray := prog_2_method_4_code
def yX0_drop : MethodName := ⟨RX0, "drop", "(I)V"⟩
abbrev cX0_dropAllOf : ByteArray := prog_2_method_5_code
def yX0_dropAllOf : MethodName := ⟨RX0, "dropAllOf", "(LPointerSweep$CellMap;)V"⟩
abbrev cX0_become : ByteArray := prog_2_method_6_code
def yX0_become : MethodName := ⟨RX0, "become", "(LPointerSweep$CellMap;)V"⟩
abbrev cX0_size : ByteArray := prog_2_method_7_code
def yX0_size : MethodName := ⟨RX0, "size", "()I"⟩
abbrev cX0_sizeWithin : ByteArray := prog_2_method_8_code
def yX0_sizeWithin : MethodName := ⟨RX0, "sizeWithin", "(II)I"⟩
abbrev cX0_bitsBelow : ByteArray := prog_2_method_9_code
def yX0_bitsBelow : MethodName := ⟨RX0, "bitsBelow", "(I)J"⟩
def RX1 : String := "PointerSweep$History"
def TX1 : u_T := fun k => match k with
  | 0 => ("PointerSweep$History", "kept", "[LPointerSweep$State;", true)
  | 1 => ("PointerSweep$History", "next", "I", false)
  | _ => ("PointerSweep$History", "size", "I", false)
def tyX1 : Nat → FieldType := fun k => match k with
  | 0 => .array (.object "PointerSweep$State")
  | 1 => .int
  | _ => .int
abbrev wsX10 : List Cond := u_ws RX1 TX1 3
theorem nmX1 : ∀ a, a < 3 → ∀ b, b < 3 → a ≠ b → (TX1 a).2.1 ≠ (TX1 b).2.1 := by decide +kernel
theorem tyX1_ok : ∀ k, k < 3 → parseFieldDescriptor (TX1 k).2.2.1 = some (tyX1 k) := by decide +kernel
abbrev cX1_init : ByteArray := prog_3_method_1_code
def yX1_init : MethodName := ⟨RX1, "<init>", "()V"⟩
abbrev cX1_keep : ByteArray := prog_3_method_2_code
def yX1_keep : MethodName := ⟨RX1, "keep", "(LPointerSweep$State;)V"⟩
abbrev cX1_takeBack : ByteArray := prog_3_method_3_code
def yX1_takeBack : MethodName := ⟨RX1, "takeBack", "(LPointerSweep$State;)V"⟩
def RX2 : String := "PointerSweep$State"
def TX2 : u_T := fun k => match k with
  | 0 => ("PointerSweep$State", "cells", "[J", true)
  | 1 => ("PointerSweep$State", "registers", "[J", true)
  | 2 => ("PointerSweep$State", "tallies", "[I", true)
  | 3 => ("PointerSweep$State", "given", "LPointerSweep$CellMap;", true)
  | 4 => ("PointerSweep$State", "quarantined", "LPointerSweep$CellMap;", true)
  | 5 => ("PointerSweep$State", "doomed", "LPointerSweep$CellMap;", true)
  | 6 => ("PointerSweep$State", "firsts", "LPointerSweep$CellMap;", true)
  | 7 => ("PointerSweep$State", "sweeping", "Z", false)
  | 8 => ("PointerSweep$State", "seenPages", "I", false)
  | _ => ("PointerSweep$State", "dirtyPages", "I", false)
def tyX2 : Nat → FieldType := fun k => match k with
  | 0 => .array .long
  | 1 => .array .long
  | 2 => .array .int
  | 3 => .object "PointerSweep$CellMap"
  | 4 => .object "PointerSweep$CellMap"
  | 5 => .object "PointerSweep$CellMap"
  | 6 => .object "PointerSweep$CellMap"
  | 7 => .boolean
  | 8 => .int
  | _ => .int
abbrev wsX20 : List Cond := u_ws RX2 TX2 10
theorem nmX2 : ∀ a, a < 10 → ∀ b, b < 10 → a ≠ b → (TX2 a).2.1 ≠ (TX2 b).2.1 := by decide +kernel
theorem tyX2_ok : ∀ k, k < 10 → parseFieldDescriptor (TX2 k).2.2.1 = some (tyX2 k) := by decide +kernel
abbrev cX2_init : ByteArray := prog_4_method_1_code
def yX2_init : MethodName := ⟨RX2, "<init>", "()V"⟩
abbrev cX2_become : ByteArray := prog_4_method_2_code
def yX2_become : MethodName := ⟨RX2, "become", "(LPointerSweep$State;)V"⟩
abbrev cX2_useOf : ByteArray := prog_4_method_3_code
def yX2_useOf : MethodName := ⟨RX2, "useOf", "(I)I"⟩
abbrev cX2_firstFreeRow : ByteArray := prog_4_method_4_code
def yX2_firstFreeRow : MethodName := ⟨RX2, "firstFreeRow", "(I)I"⟩
abbrev cX2_giveOut : ByteArray := prog_4_method_5_code
def yX2_giveOut : MethodName := ⟨RX2, "giveOut", "(II)V"⟩
abbrev cX2_giveBack : ByteArray := prog_4_method_6_code
def yX2_giveBack : MethodName := ⟨RX2, "giveBack", "(II)V"⟩
abbrev cX2_isRange : ByteArray := prog_4_method_7_code
def yX2_isRange : MethodName := ⟨RX2, "isRange", "(II)Z"⟩
abbrev cX2_rangeFrom : ByteArray := prog_4_method_8_code
def yX2_rangeFrom : MethodName := ⟨RX2, "rangeFrom", "(I)I"⟩
abbrev cX2_rangeTo : ByteArray := prog_4_method_9_code
def yX2_rangeTo : MethodName := ⟨RX2, "rangeTo", "(I)I"⟩
abbrev cX2_pointersIn : ByteArray := prog_4_method_10_code
def yX2_pointersIn : MethodName := ⟨RX2, "pointersIn", "(II)I"⟩
abbrev cX2_isSeen : ByteArray := prog_4_method_11_code
def yX2_isSeen : MethodName := ⟨RX2, "isSeen", "(I)Z"⟩
abbrev cX2_isDirty : ByteArray := prog_4_method_12_code
def yX2_isDirty : MethodName := ⟨RX2, "isDirty", "(I)Z"⟩
abbrev cX2_isStale : ByteArray := prog_4_method_13_code
def yX2_isStale : MethodName := ⟨RX2, "isStale", "(J)Z"⟩
abbrev cX2_lookUp : ByteArray := prog_4_method_14_code
def yX2_lookUp : MethodName := ⟨RX2, "lookUp", "(I)J"⟩
abbrev cX2_layDown : ByteArray := prog_4_method_15_code
def yX2_layDown : MethodName := ⟨RX2, "layDown", "(IJ)V"⟩
abbrev cX2_beginSweep : ByteArray := prog_4_method_16_code
def yX2_beginSweep : MethodName := ⟨RX2, "beginSweep", "()I"⟩
abbrev cX2_lookAtNextPages : ByteArray := prog_4_method_17_code
def yX2_lookAtNextPages : MethodName := ⟨RX2, "lookAtNextPages", "(I)I"⟩
abbrev cX2_finishSweep : ByteArray := prog_4_method_18_code
def yX2_finishSweep : MethodName := ⟨RX2, "finishSweep", "()I"⟩
abbrev cX2_cleanPage : ByteArray := prog_4_method_19_code
def yX2_cleanPage : MethodName := ⟨RX2, "cleanPage", "(I)I"⟩
abbrev cX2_clean : ByteArray := prog_4_method_20_code
def yX2_clean : MethodName := ⟨RX2, "clean", "([JII)I"⟩
def RX3 : String := "PointerSweep$Word"
def TX3 : u_T := fun k => match k with
  | _ => ("", "", "", false)
def tyX3 : Nat → FieldType := fun k => match k with
  | _ => .int
abbrev wsX30 : List Cond := u_ws RX3 TX3 0
theorem nmX3 : ∀ a, a < 0 → ∀ b, b < 0 → a ≠ b → (TX3 a).2.1 ≠ (TX3 b).2.1 := by decide +kernel
theorem tyX3_ok : ∀ k, k < 0 → parseFieldDescriptor (TX3 k).2.2.1 = some (tyX3 k) := by decide +kernel
abbrev cX3_ofNumber : ByteArray := prog_5_method_2_code
def yX3_ofNumber : MethodName := ⟨RX3, "ofNumber", "(I)J"⟩
abbrev cX3_ofPointer : ByteArray := prog_5_method_3_code
def yX3_ofPointer : MethodName := ⟨RX3, "ofPointer", "(IIII)J"⟩
abbrev cX3_isPointer : ByteArray := prog_5_method_4_code
def yX3_isPointer : MethodName := ⟨RX3, "isPointer", "(J)Z"⟩
abbrev cX3_at : ByteArray := prog_5_method_5_code
def yX3_at : MethodName := ⟨RX3, "at", "(J)I"⟩
abbrev cX3_from : ByteArray := prog_5_method_6_code
def yX3_from : MethodName := ⟨RX3, "from", "(J)I"⟩
abbrev cX3_to : ByteArray := prog_5_method_7_code
def yX3_to : MethodName := ⟨RX3, "to", "(J)I"⟩
abbrev cX3_rights : ByteArray := prog_5_method_8_code
def yX3_rights : MethodName := ⟨RX3, "rights", "(J)I"⟩
abbrev cX3_covers : ByteArray := prog_5_method_9_code
def yX3_covers : MethodName := ⟨RX3, "covers", "(JII)Z"⟩
def RX4 : String := "PointerSweep"
def TX4 : u_T := fun k => match k with
  | 0 => ("PointerSweep", "now", "LPointerSweep$State;", true)
  | 1 => ("PointerSweep", "history", "LPointerSweep$History;", true)
  | _ => ("PointerSweep", "carried", "[J", true)
def tyX4 : Nat → FieldType := fun k => match k with
  | 0 => .object "PointerSweep$State"
  | 1 => .object "PointerSweep$History"
  | _ => .array .long
abbrev wsX40 : List Cond := u_ws RX4 TX4 3
theorem nmX4 : ∀ a, a < 3 → ∀ b, b < 3 → a ≠ b → (TX4 a).2.1 ≠ (TX4 b).2.1 := by decide +kernel
theorem tyX4_ok : ∀ k, k < 3 → parseFieldDescriptor (TX4 k).2.2.1 = some (tyX4 k) := by decide +kernel
abbrev cX4_init : ByteArray := prog_1_method_1_code
def yX4_init : MethodName := ⟨RX4, "<init>", "()V"⟩
abbrev cX4_give : ByteArray := prog_1_method_2_code
def yX4_give : MethodName := ⟨RX4, "give", "(II)I"⟩
abbrev cX4_back : ByteArray := prog_1_method_3_code
def yX4_back : MethodName := ⟨RX4, "back", "(I)I"⟩
abbrev cX4_number : ByteArray := prog_1_method_4_code
def yX4_number : MethodName := ⟨RX4, "number", "(II)I"⟩
abbrev cX4_copy : ByteArray := prog_1_method_5_code
def yX4_copy : MethodName := ⟨RX4, "copy", "(II)I"⟩
abbrev cX4_move : ByteArray := prog_1_method_6_code
def yX4_move : MethodName := ⟨RX4, "move", "(II)I"⟩
abbrev cX4_narrow : ByteArray := prog_1_method_7_code
def yX4_narrow : MethodName := ⟨RX4, "narrow", "(IIII)I"⟩
abbrev cX4_look : ByteArray := prog_1_method_8_code
def yX4_look : MethodName := ⟨RX4, "look", "(III)I"⟩
abbrev cX4_lay : ByteArray := prog_1_method_9_code
def yX4_lay : MethodName := ⟨RX4, "lay", "(III)I"⟩
abbrev cX4_block : ByteArray := prog_1_method_10_code
def yX4_block : MethodName := ⟨RX4, "block", "(IIIII)I"⟩
abbrev cX4_sweep : ByteArray := prog_1_method_11_code
def yX4_sweep : MethodName := ⟨RX4, "sweep", "()I"⟩
abbrev cX4_step : ByteArray := prog_1_method_12_code
def yX4_step : MethodName := ⟨RX4, "step", "(I)I"⟩
abbrev cX4_end : ByteArray := prog_1_method_13_code
def yX4_end : MethodName := ⟨RX4, "end", "()I"⟩
abbrev cX4_told : ByteArray := prog_1_method_14_code
def yX4_told : MethodName := ⟨RX4, "told", "(III)I"⟩
abbrev cX4_page : ByteArray := prog_1_method_15_code
def yX4_page : MethodName := ⟨RX4, "page", "(II)I"⟩
abbrev cX4_range : ByteArray := prog_1_method_16_code
def yX4_range : MethodName := ⟨RX4, "range", "(II)I"⟩
abbrev cX4_undo : ByteArray := prog_1_method_17_code
def yX4_undo : MethodName := ⟨RX4, "undo", "()I"⟩
abbrev cX4_count : ByteArray := prog_1_method_18_code
def yX4_count : MethodName := ⟨RX4, "count", "(I)I"⟩
abbrev cX4_carry : ByteArray := prog_1_method_19_code
def yX4_carry : MethodName := ⟨RX4, "carry", "(III)V"⟩
abbrev cX4_toldOf : ByteArray := prog_1_method_20_code
def yX4_toldOf : MethodName := ⟨RX4, "toldOf", "(JII)I"⟩
abbrev cX4_faultOf : ByteArray := prog_1_method_21_code
def yX4_faultOf : MethodName := ⟨RX4, "faultOf", "(JIII)I"⟩
abbrev cX4_isRegister : ByteArray := prog_1_method_22_code
def yX4_isRegister : MethodName := ⟨RX4, "isRegister", "(I)Z"⟩
abbrev cX4_isCell : ByteArray := prog_1_method_23_code
def yX4_isCell : MethodName := ⟨RX4, "isCell", "(I)Z"⟩
abbrev cX4_oneIf : ByteArray := prog_1_method_24_code
def yX4_oneIf : MethodName := ⟨RX4, "oneIf", "(Z)I"⟩
def RX5 : String := "PointerSweepModel"
def TX5 : u_T := fun k => match k with
  | 0 => ("PointerSweepModel", "st", "[I", true)
  | 1 => ("PointerSweepModel", "back", "[I", true)
  | 2 => ("PointerSweepModel", "kept", "I", false)
  | 3 => ("PointerSweepModel", "was", "[I", true)
  | _ => ("PointerSweepModel", "middle", "[I", true)
def tyX5 : Nat → FieldType := fun k => match k with
  | 0 => .array .int
  | 1 => .array .int
  | 2 => .int
  | 3 => .array .int
  | _ => .array .int
abbrev wsX50 : List Cond := u_ws RX5 TX5 5
theorem nmX5 : ∀ a, a < 5 → ∀ b, b < 5 → a ≠ b → (TX5 a).2.1 ≠ (TX5 b).2.1 := by decide +kernel
theorem tyX5_ok : ∀ k, k < 5 → parseFieldDescriptor (TX5 k).2.2.1 = some (tyX5 k) := by decide +kernel
abbrev cX5_init : ByteArray := prog_7_method_1_code
def yX5_init : MethodName := ⟨RX5, "<init>", "()V"⟩
abbrev cX5_in : ByteArray := prog_7_method_2_code
def yX5_in : MethodName := ⟨RX5, "in", "(JJJ)Z"⟩
abbrev cX5_isRegister : ByteArray := prog_7_method_3_code
def yX5_isRegister : MethodName := ⟨RX5, "isRegister", "(I)Z"⟩
abbrev cX5_reg : ByteArray := prog_7_method_4_code
def yX5_reg : MethodName := ⟨RX5, "reg", "(I)I"⟩
abbrev cX5_begin : ByteArray := prog_7_method_5_code
def yX5_begin : MethodName := ⟨RX5, "begin", "()V"⟩
abbrev cX5_keeps : ByteArray := prog_7_method_6_code
def yX5_keeps : MethodName := ⟨RX5, "keeps", "(I)I"⟩
abbrev cX5_undo : ByteArray := prog_7_method_7_code
def yX5_undo : MethodName := ⟨RX5, "undo", "()I"⟩
abbrev cX5_set : ByteArray := prog_7_method_8_code
def yX5_set : MethodName := ⟨RX5, "set", "(IIIIII)V"⟩
abbrev cX5_untag : ByteArray := prog_7_method_9_code
def yX5_untag : MethodName := ⟨RX5, "untag", "(IZ)V"⟩
abbrev cX5_become : ByteArray := prog_7_method_10_code
def yX5_become : MethodName := ⟨RX5, "become", "(II)V"⟩
abbrev cX5_isStale : ByteArray := prog_7_method_11_code
def yX5_isStale : MethodName := ⟨RX5, "isStale", "(I)Z"⟩
abbrev cX5_against : ByteArray := prog_7_method_12_code
def yX5_against : MethodName := ⟨RX5, "against", "(IIII)I"⟩
abbrev cX5_cellOf : ByteArray := prog_7_method_13_code
def yX5_cellOf : MethodName := ⟨RX5, "cellOf", "(II)I"⟩
abbrev cX5_give : ByteArray := prog_7_method_14_code
def yX5_give : MethodName := ⟨RX5, "give", "(II)I"⟩
abbrev cX5_rangeSize : ByteArray := prog_7_method_15_code
def yX5_rangeSize : MethodName := ⟨RX5, "rangeSize", "(I)I"⟩
abbrev cX5_back : ByteArray := prog_7_method_16_code
def yX5_back : MethodName := ⟨RX5, "back", "(I)I"⟩
abbrev cX5_number : ByteArray := prog_7_method_17_code
def yX5_number : MethodName := ⟨RX5, "number", "(II)I"⟩
abbrev cX5_copy : ByteArray := prog_7_method_18_code
def yX5_copy : MethodName := ⟨RX5, "copy", "(II)I"⟩
abbrev cX5_move : ByteArray := prog_7_method_19_code
def yX5_move : MethodName := ⟨RX5, "move", "(II)I"⟩
abbrev cX5_narrow : ByteArray := prog_7_method_20_code
def yX5_narrow : MethodName := ⟨RX5, "narrow", "(IIII)I"⟩
abbrev cX5_lookUp : ByteArray := prog_7_method_21_code
def yX5_lookUp : MethodName := ⟨RX5, "lookUp", "(II)V"⟩
abbrev cX5_look : ByteArray := prog_7_method_22_code
def yX5_look : MethodName := ⟨RX5, "look", "(III)I"⟩
abbrev cX5_laid : ByteArray := prog_7_method_23_code
def yX5_laid : MethodName := ⟨RX5, "laid", "(I)V"⟩
abbrev cX5_lay : ByteArray := prog_7_method_24_code
def yX5_lay : MethodName := ⟨RX5, "lay", "(III)I"⟩
abbrev cX5_block : ByteArray := prog_7_method_25_code
def yX5_block : MethodName := ⟨RX5, "block", "(IIIII)I"⟩
abbrev cX5_sweep : ByteArray := prog_7_method_26_code
def yX5_sweep : MethodName := ⟨RX5, "sweep", "()I"⟩
abbrev cX5_clean : ByteArray := prog_7_method_27_code
def yX5_clean : MethodName := ⟨RX5, "clean", "(II)I"⟩
abbrev cX5_step : ByteArray := prog_7_method_28_code
def yX5_step : MethodName := ⟨RX5, "step", "(I)I"⟩
abbrev cX5_areSeen : ByteArray := prog_7_method_29_code
def yX5_areSeen : MethodName := ⟨RX5, "areSeen", "()Z"⟩
abbrev cX5_end : ByteArray := prog_7_method_30_code
def yX5_end : MethodName := ⟨RX5, "end", "()I"⟩
abbrev cX5_told : ByteArray := prog_7_method_31_code
def yX5_told : MethodName := ⟨RX5, "told", "(III)I"⟩
abbrev cX5_page : ByteArray := prog_7_method_32_code
def yX5_page : MethodName := ⟨RX5, "page", "(II)I"⟩
abbrev cX5_range : ByteArray := prog_7_method_33_code
def yX5_range : MethodName := ⟨RX5, "range", "(II)I"⟩
abbrev cX5_count : ByteArray := prog_7_method_34_code
def yX5_count : MethodName := ⟨RX5, "count", "(I)I"⟩
def RJ13 : String := "java/lang/Long"
def TJ13 : u_T := fun k => match k with
  | _ => ("", "", "", false)
def tyJ13 : Nat → FieldType := fun k => match k with
  | _ => .int
abbrev wsJ130 : List Cond := u_ws RJ13 TJ13 0
theorem nmJ13 : ∀ a, a < 0 → ∀ b, b < 0 → a ≠ b → (TJ13 a).2.1 ≠ (TJ13 b).2.1 := by decide +kernel
theorem tyJ13_ok : ∀ k, k < 0 → parseFieldDescriptor (TJ13 k).2.2.1 = some (tyJ13 k) := by decide +kernel
abbrev cJ13_bitCount_95d88 : ByteArray := prog_8_method_50_code
def yJ13_bitCount_95d88 : MethodName := ⟨RJ13, "bitCount", "(J)I"⟩
def RJ9 : String := "java/lang/Math"
def TJ9 : u_T := fun k => match k with
  | _ => ("", "", "", false)
def tyJ9 : Nat → FieldType := fun k => match k with
  | _ => .int
abbrev wsJ90 : List Cond := u_ws RJ9 TJ9 0
theorem nmJ9 : ∀ a, a < 0 → ∀ b, b < 0 → a ≠ b → (TJ9 a).2.1 ≠ (TJ9 b).2.1 := by decide +kernel
theorem tyJ9_ok : ∀ k, k < 0 → parseFieldDescriptor (TJ9 k).2.2.1 = some (tyJ9 k) := by decide +kernel
abbrev cJ9_min_7cf53 : ByteArray := prog_9_method_69_code
def yJ9_min_7cf53 : MethodName := ⟨RJ9, "min", "(II)I"⟩
def RJ10 : String := "java/lang/System"
def TJ10 : u_T := fun k => match k with
  | _ => ("", "", "", false)
def tyJ10 : Nat → FieldType := fun k => match k with
  | _ => .int
abbrev wsJ100 : List Cond := u_ws RJ10 TJ10 0
theorem nmJ10 : ∀ a, a < 0 → ∀ b, b < 0 → a ≠ b → (TJ10 a).2.1 ≠ (TJ10 b).2.1 := by decide +kernel
theorem tyJ10_ok : ∀ k, k < 0 → parseFieldDescriptor (TJ10 k).2.2.1 = some (tyJ10 k) := by decide +kernel
def RL : String := "PointerSweepLaw"
abbrev cL_law : ByteArray := code
def yL_law : MethodName := ⟨RL, "law", "([I)Z"⟩
def wsX0_init : List Cond := .code yX0_init cX0_init 1 none :: ([.methodLink RX0 3 objectInit, .instanceMethod objectInit, .code objectInit ⟨#[0xb1]⟩ 1 none, .arrayClass .long, .fieldLink RX0 11 "PointerSweep$CellMap" "rows" "[J"] ++ wsX00)
def wsX4_isCell : List Cond := .code yX4_isCell cX4_isCell 1 (some .boolean) :: ([])
def wsX0_has : List Cond := .code yX0_has cX0_has 2 (some .boolean) :: ([.fieldLink RX0 11 "PointerSweep$CellMap" "rows" "[J", .static yX4_isCell, .initialized RX4, .code yX4_isCell cX4_isCell 1 (some .boolean)] ++ wsX00)
def wsX0_add : List Cond := .code yX0_add cX0_add 2 none :: ([.fieldLink RX0 11 "PointerSweep$CellMap" "rows" "[J", .static yX4_isCell, .initialized RX4, .code yX4_isCell cX4_isCell 1 (some .boolean)] ++ wsX00)
def wsX0_drop : List Cond := .code yX0_drop cX0_drop 2 none :: ([.fieldLink RX0 11 "PointerSweep$CellMap" "rows" "[J", .constantLong RX0 19 (-1), .static yX4_isCell, .initialized RX4, .code yX4_isCell cX4_isCell 1 (some .boolean)] ++ wsX00)
def wsX0_dropAllOf : List Cond := .code yX0_dropAllOf cX0_dropAllOf 3 none :: ([.fieldLink RX0 11 "PointerSweep$CellMap" "rows" "[J", .constantLong RX0 19 (-1)] ++ wsX00)
def wsX0_become : List Cond := .code yX0_become cX0_become 2 none :: ([.fieldLink RX0 11 "PointerSweep$CellMap" "rows" "[J", .methodLink RX0 21 arraycopyName, .native arraycopyName, .static arraycopyName, .initialized "java/lang/System"] ++ wsX00)
def wsX0_bitsBelow : List Cond := .code yX0_bitsBelow cX0_bitsBelow 1 (some .long) :: ([.constantLong RX0 19 (-1)])
def wsJ13_bitCount_95d88 : List Cond := .code yJ13_bitCount_95d88 cJ13_bitCount_95d88 2 (some .int) :: ([.constantLong RJ13 314 (6148914691236517205), .constantLong RJ13 316 (3689348814741910323), .constantLong RJ13 318 (1085102592571150095)])
def wsX0_sizeWithin : List Cond := .code yX0_sizeWithin cX0_sizeWithin 6 (some .int) :: ([.fieldLink RX0 11 "PointerSweep$CellMap" "rows" "[J", .constantLong RX0 19 (-1), .methodLink RX0 31 yX0_bitsBelow, .static yX0_bitsBelow, .initialized RX0, .code yX0_bitsBelow cX0_bitsBelow 1 (some .long), .methodLink RX0 35 yJ13_bitCount_95d88, .static yJ13_bitCount_95d88, .initialized RJ13, .code yJ13_bitCount_95d88 cJ13_bitCount_95d88 2 (some .int), .constantLong RJ13 314 (6148914691236517205), .constantLong RJ13 316 (3689348814741910323), .constantLong RJ13 318 (1085102592571150095)] ++ wsX00)
def wsX0_size : List Cond := .code yX0_size cX0_size 1 (some .int) :: ([.methodLink RX0 27 yX0_sizeWithin, .instanceMethod yX0_sizeWithin, .selects RX0 yX0_sizeWithin yX0_sizeWithin, .initialized RX0, .code yX0_sizeWithin cX0_sizeWithin 6 (some .int), .fieldLink RX0 11 "PointerSweep$CellMap" "rows" "[J", .constantLong RX0 19 (-1), .methodLink RX0 31 yX0_bitsBelow, .static yX0_bitsBelow, .code yX0_bitsBelow cX0_bitsBelow 1 (some .long), .methodLink RX0 35 yJ13_bitCount_95d88, .static yJ13_bitCount_95d88, .initialized RJ13, .code yJ13_bitCount_95d88 cJ13_bitCount_95d88 2 (some .int), .constantLong RJ13 314 (6148914691236517205), .constantLong RJ13 316 (3689348814741910323), .constantLong RJ13 318 (1085102592571150095)] ++ wsX00)
def wsX2_init : List Cond := .code yX2_init cX2_init 1 none :: ([.methodLink RX2 3 objectInit, .instanceMethod objectInit, .code objectInit ⟨#[0xb1]⟩ 1 none, .arrayClass .long, .fieldLink RX2 9 "PointerSweep$State" "cells" "[J", .fieldLink RX2 15 "PointerSweep$State" "registers" "[J", .arrayClass .int, .fieldLink RX2 18 "PointerSweep$State" "tallies" "[I", .classLink RX2 22 RX0, .instantiable RX0 1, .initialized RX0, .fieldLink RX2 25 "PointerSweep$State" "given" "LPointerSweep$CellMap;", .fieldLink RX2 29 "PointerSweep$State" "quarantined" "LPointerSweep$CellMap;", .fieldLink RX2 32 "PointerSweep$State" "doomed" "LPointerSweep$CellMap;", .fieldLink RX2 35 "PointerSweep$State" "firsts" "LPointerSweep$CellMap;", .fieldLink RX2 38 "PointerSweep$State" "sweeping" "Z", .fieldLink RX2 42 "PointerSweep$State" "seenPages" "I", .fieldLink RX2 46 "PointerSweep$State" "dirtyPages" "I", .instanceMethod yX0_init, .code yX0_init cX0_init 1 none, .methodLink RX0 3 objectInit, .fieldLink RX0 11 "PointerSweep$CellMap" "rows" "[J"] ++ wsX20 ++ wsX00)
def wsX1_init_r1 : List Cond := [Cond.methodLink RX1 3 objectInit, Cond.instanceMethod objectInit, Cond.code objectInit ⟨#[0xb1]⟩ 1 none, Cond.classLink RX1 9 RX2, Cond.fieldLink RX1 11 "PointerSweep$History" "kept" "[LPointerSweep$State;", Cond.fieldLink RX1 17 "PointerSweep$History" "next" "I", Cond.fieldLink RX1 21 "PointerSweep$History" "size" "I", Cond.instantiable RX2 10, Cond.initialized RX2, Cond.instanceMethod yX2_init, Cond.code yX2_init cX2_init 1 none, Cond.methodLink RX2 3 objectInit, Cond.arrayClass .long, Cond.fieldLink RX2 9 "PointerSweep$State" "cells" "[J", Cond.fieldLink RX2 15 "PointerSweep$State" "registers" "[J", Cond.arrayClass .int, Cond.fieldLink RX2 18 "PointerSweep$State" "tallies" "[I", Cond.classLink RX2 22 RX0, Cond.instantiable RX0 1, Cond.initialized RX0, Cond.fieldLink RX2 25 "PointerSweep$State" "given" "LPointerSweep$CellMap;", Cond.fieldLink RX2 29 "PointerSweep$State" "quarantined" "LPointerSweep$CellMap;", Cond.fieldLink RX2 32 "PointerSweep$State" "doomed" "LPointerSweep$CellMap;", Cond.fieldLink RX2 35 "PointerSweep$State" "firsts" "LPointerSweep$CellMap;"]
def wsX1_init_r2 : List Cond := [Cond.fieldLink RX2 38 "PointerSweep$State" "sweeping" "Z", Cond.fieldLink RX2 42 "PointerSweep$State" "seenPages" "I", Cond.fieldLink RX2 46 "PointerSweep$State" "dirtyPages" "I", Cond.instanceMethod yX0_init, Cond.code yX0_init cX0_init 1 none, Cond.methodLink RX0 3 objectInit, Cond.fieldLink RX0 11 "PointerSweep$CellMap" "rows" "[J"]
def wsX1_init : List Cond := .code yX1_init cX1_init 2 none :: ((wsX1_init_r1 ++ wsX1_init_r2) ++ wsX10 ++ wsX20 ++ wsX00)
def wsX2_become : List Cond := .code yX2_become cX2_become 2 none :: ([.fieldLink RX2 9 "PointerSweep$State" "cells" "[J", .methodLink RX2 49 arraycopyName, .native arraycopyName, .static arraycopyName, .initialized "java/lang/System", .fieldLink RX2 15 "PointerSweep$State" "registers" "[J", .fieldLink RX2 18 "PointerSweep$State" "tallies" "[I", .fieldLink RX2 25 "PointerSweep$State" "given" "LPointerSweep$CellMap;", .fieldLink RX2 29 "PointerSweep$State" "quarantined" "LPointerSweep$CellMap;", .fieldLink RX2 32 "PointerSweep$State" "doomed" "LPointerSweep$CellMap;", .fieldLink RX2 35 "PointerSweep$State" "firsts" "LPointerSweep$CellMap;", .fieldLink RX2 38 "PointerSweep$State" "sweeping" "Z", .fieldLink RX2 42 "PointerSweep$State" "seenPages" "I", .fieldLink RX2 46 "PointerSweep$State" "dirtyPages" "I", .methodLink RX2 55 yX0_become, .instanceMethod yX0_become, .selects RX0 yX0_become yX0_become, .initialized RX0, .code yX0_become cX0_become 2 none, .fieldLink RX0 11 "PointerSweep$CellMap" "rows" "[J", .methodLink RX0 21 arraycopyName] ++ wsX20 ++ wsX00)
def wsX1_keep_r1 : List Cond := [Cond.fieldLink RX1 11 "PointerSweep$History" "kept" "[LPointerSweep$State;", Cond.fieldLink RX1 17 "PointerSweep$History" "next" "I", Cond.fieldLink RX1 21 "PointerSweep$History" "size" "I", Cond.methodLink RX1 29 Lib.Math.min.name, Cond.static Lib.Math.min.name, Cond.initialized "java/lang/Math", Cond.code Lib.Math.min.name Lib.Math.min.code 2 (some .int), Cond.methodLink RX1 25 yX2_become, Cond.instanceMethod yX2_become, Cond.selects RX2 yX2_become yX2_become, Cond.initialized RX2, Cond.code yX2_become cX2_become 2 none, Cond.fieldLink RX2 9 "PointerSweep$State" "cells" "[J", Cond.methodLink RX2 49 arraycopyName, Cond.native arraycopyName, Cond.static arraycopyName, Cond.initialized "java/lang/System", Cond.fieldLink RX2 15 "PointerSweep$State" "registers" "[J", Cond.fieldLink RX2 18 "PointerSweep$State" "tallies" "[I", Cond.fieldLink RX2 25 "PointerSweep$State" "given" "LPointerSweep$CellMap;", Cond.fieldLink RX2 29 "PointerSweep$State" "quarantined" "LPointerSweep$CellMap;", Cond.fieldLink RX2 32 "PointerSweep$State" "doomed" "LPointerSweep$CellMap;", Cond.fieldLink RX2 35 "PointerSweep$State" "firsts" "LPointerSweep$CellMap;", Cond.fieldLink RX2 38 "PointerSweep$State" "sweeping" "Z"]
def wsX1_keep_r2 : List Cond := [Cond.fieldLink RX2 42 "PointerSweep$State" "seenPages" "I", Cond.fieldLink RX2 46 "PointerSweep$State" "dirtyPages" "I", Cond.methodLink RX2 55 yX0_become, Cond.instanceMethod yX0_become, Cond.selects RX0 yX0_become yX0_become, Cond.initialized RX0, Cond.code yX0_become cX0_become 2 none, Cond.fieldLink RX0 11 "PointerSweep$CellMap" "rows" "[J", Cond.methodLink RX0 21 arraycopyName]
def wsX1_keep : List Cond := .code yX1_keep cX1_keep 2 none :: ((wsX1_keep_r1 ++ wsX1_keep_r2) ++ wsX10 ++ wsX20 ++ wsX00)
def wsX1_takeBack_r1 : List Cond := [Cond.fieldLink RX1 21 "PointerSweep$History" "size" "I", Cond.fieldLink RX1 17 "PointerSweep$History" "next" "I", Cond.fieldLink RX1 11 "PointerSweep$History" "kept" "[LPointerSweep$State;", Cond.methodLink RX1 25 yX2_become, Cond.instanceMethod yX2_become, Cond.selects RX2 yX2_become yX2_become, Cond.initialized RX2, Cond.code yX2_become cX2_become 2 none, Cond.fieldLink RX2 9 "PointerSweep$State" "cells" "[J", Cond.methodLink RX2 49 arraycopyName, Cond.native arraycopyName, Cond.static arraycopyName, Cond.initialized "java/lang/System", Cond.fieldLink RX2 15 "PointerSweep$State" "registers" "[J", Cond.fieldLink RX2 18 "PointerSweep$State" "tallies" "[I", Cond.fieldLink RX2 25 "PointerSweep$State" "given" "LPointerSweep$CellMap;", Cond.fieldLink RX2 29 "PointerSweep$State" "quarantined" "LPointerSweep$CellMap;", Cond.fieldLink RX2 32 "PointerSweep$State" "doomed" "LPointerSweep$CellMap;", Cond.fieldLink RX2 35 "PointerSweep$State" "firsts" "LPointerSweep$CellMap;", Cond.fieldLink RX2 38 "PointerSweep$State" "sweeping" "Z", Cond.fieldLink RX2 42 "PointerSweep$State" "seenPages" "I", Cond.fieldLink RX2 46 "PointerSweep$State" "dirtyPages" "I", Cond.methodLink RX2 55 yX0_become, Cond.instanceMethod yX0_become]
def wsX1_takeBack_r2 : List Cond := [Cond.selects RX0 yX0_become yX0_become, Cond.initialized RX0, Cond.code yX0_become cX0_become 2 none, Cond.fieldLink RX0 11 "PointerSweep$CellMap" "rows" "[J", Cond.methodLink RX0 21 arraycopyName]
def wsX1_takeBack : List Cond := .code yX1_takeBack cX1_takeBack 2 none :: ((wsX1_takeBack_r1 ++ wsX1_takeBack_r2) ++ wsX10 ++ wsX20 ++ wsX00)
def wsX2_useOf : List Cond := .code yX2_useOf cX2_useOf 2 (some .int) :: ([.fieldLink RX2 25 "PointerSweep$State" "given" "LPointerSweep$CellMap;", .fieldLink RX2 29 "PointerSweep$State" "quarantined" "LPointerSweep$CellMap;", .methodLink RX2 59 yX0_has, .instanceMethod yX0_has, .selects RX0 yX0_has yX0_has, .initialized RX0, .code yX0_has cX0_has 2 (some .boolean), .fieldLink RX0 11 "PointerSweep$CellMap" "rows" "[J", .static yX4_isCell, .initialized RX4, .code yX4_isCell cX4_isCell 1 (some .boolean)] ++ wsX20 ++ wsX00)
def wsX2_firstFreeRow : List Cond := .code yX2_firstFreeRow cX2_firstFreeRow 4 (some .int) :: ([.methodLink RX2 63 yX2_useOf, .instanceMethod yX2_useOf, .selects RX2 yX2_useOf yX2_useOf, .initialized RX2, .code yX2_useOf cX2_useOf 2 (some .int), .fieldLink RX2 25 "PointerSweep$State" "given" "LPointerSweep$CellMap;", .fieldLink RX2 29 "PointerSweep$State" "quarantined" "LPointerSweep$CellMap;", .methodLink RX2 59 yX0_has, .instanceMethod yX0_has, .selects RX0 yX0_has yX0_has, .initialized RX0, .code yX0_has cX0_has 2 (some .boolean), .fieldLink RX0 11 "PointerSweep$CellMap" "rows" "[J", .static yX4_isCell, .initialized RX4, .code yX4_isCell cX4_isCell 1 (some .boolean)] ++ wsX20 ++ wsX00)
def wsX3_ofNumber : List Cond := .code yX3_ofNumber cX3_ofNumber 1 (some .long) :: ([.constantLong RX3 11 (4294967295)])
def wsX2_giveOut : List Cond := .code yX2_giveOut cX2_giveOut 4 none :: ([.fieldLink RX2 35 "PointerSweep$State" "firsts" "LPointerSweep$CellMap;", .fieldLink RX2 25 "PointerSweep$State" "given" "LPointerSweep$CellMap;", .fieldLink RX2 9 "PointerSweep$State" "cells" "[J", .methodLink RX2 67 yX0_add, .instanceMethod yX0_add, .selects RX0 yX0_add yX0_add, .initialized RX0, .code yX0_add cX0_add 2 none, .fieldLink RX0 11 "PointerSweep$CellMap" "rows" "[J", .static yX4_isCell, .initialized RX4, .code yX4_isCell cX4_isCell 1 (some .boolean), .methodLink RX2 71 yX3_ofNumber, .static yX3_ofNumber, .initialized RX3, .code yX3_ofNumber cX3_ofNumber 1 (some .long), .constantLong RX3 11 (4294967295)] ++ wsX20 ++ wsX00)
def wsX2_giveBack : List Cond := .code yX2_giveBack cX2_giveBack 4 none :: ([.fieldLink RX2 35 "PointerSweep$State" "firsts" "LPointerSweep$CellMap;", .fieldLink RX2 25 "PointerSweep$State" "given" "LPointerSweep$CellMap;", .fieldLink RX2 29 "PointerSweep$State" "quarantined" "LPointerSweep$CellMap;", .methodLink RX2 77 yX0_drop, .instanceMethod yX0_drop, .selects RX0 yX0_drop yX0_drop, .initialized RX0, .code yX0_drop cX0_drop 2 none, .fieldLink RX0 11 "PointerSweep$CellMap" "rows" "[J", .constantLong RX0 19 (-1), .static yX4_isCell, .initialized RX4, .code yX4_isCell cX4_isCell 1 (some .boolean), .methodLink RX2 67 yX0_add, .instanceMethod yX0_add, .selects RX0 yX0_add yX0_add, .code yX0_add cX0_add 2 none] ++ wsX20 ++ wsX00)
def wsX2_rangeTo : List Cond := .code yX2_rangeTo cX2_rangeTo 3 (some .int) :: ([.fieldLink RX2 25 "PointerSweep$State" "given" "LPointerSweep$CellMap;", .fieldLink RX2 35 "PointerSweep$State" "firsts" "LPointerSweep$CellMap;", .methodLink RX2 59 yX0_has, .instanceMethod yX0_has, .selects RX0 yX0_has yX0_has, .initialized RX0, .code yX0_has cX0_has 2 (some .boolean), .fieldLink RX0 11 "PointerSweep$CellMap" "rows" "[J", .static yX4_isCell, .initialized RX4, .code yX4_isCell cX4_isCell 1 (some .boolean)] ++ wsX20 ++ wsX00)
def wsX2_isRange : List Cond := .code yX2_isRange cX2_isRange 3 (some .boolean) :: ([.fieldLink RX2 25 "PointerSweep$State" "given" "LPointerSweep$CellMap;", .fieldLink RX2 35 "PointerSweep$State" "firsts" "LPointerSweep$CellMap;", .methodLink RX2 59 yX0_has, .instanceMethod yX0_has, .selects RX0 yX0_has yX0_has, .initialized RX0, .code yX0_has cX0_has 2 (some .boolean), .fieldLink RX0 11 "PointerSweep$CellMap" "rows" "[J", .static yX4_isCell, .initialized RX4, .code yX4_isCell cX4_isCell 1 (some .boolean), .methodLink RX2 80 yX2_rangeTo, .instanceMethod yX2_rangeTo, .selects RX2 yX2_rangeTo yX2_rangeTo, .initialized RX2, .code yX2_rangeTo cX2_rangeTo 3 (some .int)] ++ wsX20 ++ wsX00)
def wsX2_rangeFrom : List Cond := .code yX2_rangeFrom cX2_rangeFrom 3 (some .int) :: ([.fieldLink RX2 35 "PointerSweep$State" "firsts" "LPointerSweep$CellMap;", .methodLink RX2 59 yX0_has, .instanceMethod yX0_has, .selects RX0 yX0_has yX0_has, .initialized RX0, .code yX0_has cX0_has 2 (some .boolean), .fieldLink RX0 11 "PointerSweep$CellMap" "rows" "[J", .static yX4_isCell, .initialized RX4, .code yX4_isCell cX4_isCell 1 (some .boolean)] ++ wsX20 ++ wsX00)
def wsX3_isPointer : List Cond := .code yX3_isPointer cX3_isPointer 2 (some .boolean) :: ([])
def wsX4_oneIf : List Cond := .code yX4_oneIf cX4_oneIf 1 (some .int) :: ([])
def wsX2_pointersIn : List Cond := .code yX2_pointersIn cX2_pointersIn 5 (some .int) :: ([.fieldLink RX2 9 "PointerSweep$State" "cells" "[J", .methodLink RX2 83 yX3_isPointer, .static yX3_isPointer, .initialized RX3, .code yX3_isPointer cX3_isPointer 2 (some .boolean), .static yX4_oneIf, .initialized RX4, .code yX4_oneIf cX4_oneIf 1 (some .int)] ++ wsX20)
def wsX2_isSeen : List Cond := .code yX2_isSeen cX2_isSeen 2 (some .boolean) :: ([.fieldLink RX2 42 "PointerSweep$State" "seenPages" "I"] ++ wsX20)
def wsX2_isDirty : List Cond := .code yX2_isDirty cX2_isDirty 2 (some .boolean) :: ([.fieldLink RX2 46 "PointerSweep$State" "dirtyPages" "I"] ++ wsX20)
def wsX3_from : List Cond := .code yX3_from cX3_from 2 (some .int) :: ([])
def wsX3_to : List Cond := .code yX3_to cX3_to 2 (some .int) :: ([])
def wsX2_isStale_r1 : List Cond := [Cond.fieldLink RX2 32 "PointerSweep$State" "doomed" "LPointerSweep$CellMap;", Cond.methodLink RX2 83 yX3_isPointer, Cond.static yX3_isPointer, Cond.initialized RX3, Cond.code yX3_isPointer cX3_isPointer 2 (some .boolean), Cond.methodLink RX2 91 yX3_from, Cond.static yX3_from, Cond.code yX3_from cX3_from 2 (some .int), Cond.methodLink RX2 95 yX3_to, Cond.static yX3_to, Cond.code yX3_to cX3_to 2 (some .int), Cond.methodLink RX2 98 yX0_sizeWithin, Cond.instanceMethod yX0_sizeWithin, Cond.selects RX0 yX0_sizeWithin yX0_sizeWithin, Cond.initialized RX0, Cond.code yX0_sizeWithin cX0_sizeWithin 6 (some .int), Cond.fieldLink RX0 11 "PointerSweep$CellMap" "rows" "[J", Cond.constantLong RX0 19 (-1), Cond.methodLink RX0 31 yX0_bitsBelow, Cond.static yX0_bitsBelow, Cond.code yX0_bitsBelow cX0_bitsBelow 1 (some .long), Cond.methodLink RX0 35 yJ13_bitCount_95d88, Cond.static yJ13_bitCount_95d88, Cond.initialized RJ13]
def wsX2_isStale_r2 : List Cond := [Cond.code yJ13_bitCount_95d88 cJ13_bitCount_95d88 2 (some .int), Cond.constantLong RJ13 314 (6148914691236517205), Cond.constantLong RJ13 316 (3689348814741910323), Cond.constantLong RJ13 318 (1085102592571150095)]
def wsX2_isStale : List Cond := .code yX2_isStale cX2_isStale 3 (some .boolean) :: ((wsX2_isStale_r1 ++ wsX2_isStale_r2) ++ wsX20 ++ wsX00)
def wsX3_at : List Cond := .code yX3_at cX3_at 2 (some .int) :: ([])
def wsX2_lookUp_r1 : List Cond := [Cond.fieldLink RX2 9 "PointerSweep$State" "cells" "[J", Cond.fieldLink RX2 18 "PointerSweep$State" "tallies" "[I", Cond.methodLink RX2 102 yX2_isStale, Cond.instanceMethod yX2_isStale, Cond.selects RX2 yX2_isStale yX2_isStale, Cond.initialized RX2, Cond.code yX2_isStale cX2_isStale 3 (some .boolean), Cond.fieldLink RX2 32 "PointerSweep$State" "doomed" "LPointerSweep$CellMap;", Cond.methodLink RX2 83 yX3_isPointer, Cond.static yX3_isPointer, Cond.initialized RX3, Cond.code yX3_isPointer cX3_isPointer 2 (some .boolean), Cond.methodLink RX2 91 yX3_from, Cond.static yX3_from, Cond.code yX3_from cX3_from 2 (some .int), Cond.methodLink RX2 95 yX3_to, Cond.static yX3_to, Cond.code yX3_to cX3_to 2 (some .int), Cond.methodLink RX2 98 yX0_sizeWithin, Cond.instanceMethod yX0_sizeWithin, Cond.selects RX0 yX0_sizeWithin yX0_sizeWithin, Cond.initialized RX0, Cond.code yX0_sizeWithin cX0_sizeWithin 6 (some .int), Cond.fieldLink RX0 11 "PointerSweep$CellMap" "rows" "[J"]
def wsX2_lookUp_r2 : List Cond := [Cond.constantLong RX0 19 (-1), Cond.methodLink RX0 31 yX0_bitsBelow, Cond.static yX0_bitsBelow, Cond.code yX0_bitsBelow cX0_bitsBelow 1 (some .long), Cond.methodLink RX0 35 yJ13_bitCount_95d88, Cond.static yJ13_bitCount_95d88, Cond.initialized RJ13, Cond.code yJ13_bitCount_95d88 cJ13_bitCount_95d88 2 (some .int), Cond.constantLong RJ13 314 (6148914691236517205), Cond.constantLong RJ13 316 (3689348814741910323), Cond.constantLong RJ13 318 (1085102592571150095), Cond.methodLink RX2 105 yX3_at, Cond.static yX3_at, Cond.code yX3_at cX3_at 2 (some .int), Cond.methodLink RX2 71 yX3_ofNumber, Cond.static yX3_ofNumber, Cond.code yX3_ofNumber cX3_ofNumber 1 (some .long), Cond.constantLong RX3 11 (4294967295)]
def wsX2_lookUp : List Cond := .code yX2_lookUp cX2_lookUp 4 (some .long) :: ((wsX2_lookUp_r1 ++ wsX2_lookUp_r2) ++ wsX20 ++ wsX00)
def wsX2_layDown : List Cond := .code yX2_layDown cX2_layDown 5 none :: ([.fieldLink RX2 9 "PointerSweep$State" "cells" "[J", .fieldLink RX2 46 "PointerSweep$State" "dirtyPages" "I", .methodLink RX2 83 yX3_isPointer, .static yX3_isPointer, .initialized RX3, .code yX3_isPointer cX3_isPointer 2 (some .boolean), .methodLink RX2 108 yX2_isSeen, .instanceMethod yX2_isSeen, .selects RX2 yX2_isSeen yX2_isSeen, .initialized RX2, .code yX2_isSeen cX2_isSeen 2 (some .boolean), .fieldLink RX2 42 "PointerSweep$State" "seenPages" "I"] ++ wsX20)
def wsX2_beginSweep_r1 : List Cond := [Cond.fieldLink RX2 38 "PointerSweep$State" "sweeping" "Z", Cond.fieldLink RX2 32 "PointerSweep$State" "doomed" "LPointerSweep$CellMap;", Cond.fieldLink RX2 29 "PointerSweep$State" "quarantined" "LPointerSweep$CellMap;", Cond.methodLink RX2 55 yX0_become, Cond.instanceMethod yX0_become, Cond.selects RX0 yX0_become yX0_become, Cond.initialized RX0, Cond.code yX0_become cX0_become 2 none, Cond.fieldLink RX0 11 "PointerSweep$CellMap" "rows" "[J", Cond.methodLink RX0 21 arraycopyName, Cond.native arraycopyName, Cond.static arraycopyName, Cond.initialized "java/lang/System", Cond.methodLink RX2 111 yX0_size, Cond.instanceMethod yX0_size, Cond.selects RX0 yX0_size yX0_size, Cond.code yX0_size cX0_size 1 (some .int), Cond.methodLink RX0 27 yX0_sizeWithin, Cond.instanceMethod yX0_sizeWithin, Cond.selects RX0 yX0_sizeWithin yX0_sizeWithin, Cond.code yX0_sizeWithin cX0_sizeWithin 6 (some .int), Cond.constantLong RX0 19 (-1), Cond.methodLink RX0 31 yX0_bitsBelow, Cond.static yX0_bitsBelow]
def wsX2_beginSweep_r2 : List Cond := [Cond.code yX0_bitsBelow cX0_bitsBelow 1 (some .long), Cond.methodLink RX0 35 yJ13_bitCount_95d88, Cond.static yJ13_bitCount_95d88, Cond.initialized RJ13, Cond.code yJ13_bitCount_95d88 cJ13_bitCount_95d88 2 (some .int), Cond.constantLong RJ13 314 (6148914691236517205), Cond.constantLong RJ13 316 (3689348814741910323), Cond.constantLong RJ13 318 (1085102592571150095)]
def wsX2_beginSweep : List Cond := .code yX2_beginSweep cX2_beginSweep 1 (some .int) :: ((wsX2_beginSweep_r1 ++ wsX2_beginSweep_r2) ++ wsX20 ++ wsX00)
def wsX2_clean_r1 : List Cond := [Cond.methodLink RX2 102 yX2_isStale, Cond.instanceMethod yX2_isStale, Cond.selects RX2 yX2_isStale yX2_isStale, Cond.initialized RX2, Cond.code yX2_isStale cX2_isStale 3 (some .boolean), Cond.fieldLink RX2 32 "PointerSweep$State" "doomed" "LPointerSweep$CellMap;", Cond.methodLink RX2 83 yX3_isPointer, Cond.static yX3_isPointer, Cond.initialized RX3, Cond.code yX3_isPointer cX3_isPointer 2 (some .boolean), Cond.methodLink RX2 91 yX3_from, Cond.static yX3_from, Cond.code yX3_from cX3_from 2 (some .int), Cond.methodLink RX2 95 yX3_to, Cond.static yX3_to, Cond.code yX3_to cX3_to 2 (some .int), Cond.methodLink RX2 98 yX0_sizeWithin, Cond.instanceMethod yX0_sizeWithin, Cond.selects RX0 yX0_sizeWithin yX0_sizeWithin, Cond.initialized RX0, Cond.code yX0_sizeWithin cX0_sizeWithin 6 (some .int), Cond.fieldLink RX0 11 "PointerSweep$CellMap" "rows" "[J", Cond.constantLong RX0 19 (-1), Cond.methodLink RX0 31 yX0_bitsBelow]
def wsX2_clean_r2 : List Cond := [Cond.static yX0_bitsBelow, Cond.code yX0_bitsBelow cX0_bitsBelow 1 (some .long), Cond.methodLink RX0 35 yJ13_bitCount_95d88, Cond.static yJ13_bitCount_95d88, Cond.initialized RJ13, Cond.code yJ13_bitCount_95d88 cJ13_bitCount_95d88 2 (some .int), Cond.constantLong RJ13 314 (6148914691236517205), Cond.constantLong RJ13 316 (3689348814741910323), Cond.constantLong RJ13 318 (1085102592571150095), Cond.methodLink RX2 105 yX3_at, Cond.static yX3_at, Cond.code yX3_at cX3_at 2 (some .int), Cond.methodLink RX2 71 yX3_ofNumber, Cond.static yX3_ofNumber, Cond.code yX3_ofNumber cX3_ofNumber 1 (some .long), Cond.constantLong RX3 11 (4294967295)]
def wsX2_clean : List Cond := .code yX2_clean cX2_clean 6 (some .int) :: ((wsX2_clean_r1 ++ wsX2_clean_r2) ++ wsX20 ++ wsX00)
def wsX2_cleanPage_r1 : List Cond := [Cond.fieldLink RX2 9 "PointerSweep$State" "cells" "[J", Cond.methodLink RX2 126 yX2_clean, Cond.instanceMethod yX2_clean, Cond.selects RX2 yX2_clean yX2_clean, Cond.initialized RX2, Cond.code yX2_clean cX2_clean 6 (some .int), Cond.methodLink RX2 102 yX2_isStale, Cond.instanceMethod yX2_isStale, Cond.selects RX2 yX2_isStale yX2_isStale, Cond.code yX2_isStale cX2_isStale 3 (some .boolean), Cond.fieldLink RX2 32 "PointerSweep$State" "doomed" "LPointerSweep$CellMap;", Cond.methodLink RX2 83 yX3_isPointer, Cond.static yX3_isPointer, Cond.initialized RX3, Cond.code yX3_isPointer cX3_isPointer 2 (some .boolean), Cond.methodLink RX2 91 yX3_from, Cond.static yX3_from, Cond.code yX3_from cX3_from 2 (some .int), Cond.methodLink RX2 95 yX3_to, Cond.static yX3_to, Cond.code yX3_to cX3_to 2 (some .int), Cond.methodLink RX2 98 yX0_sizeWithin, Cond.instanceMethod yX0_sizeWithin, Cond.selects RX0 yX0_sizeWithin yX0_sizeWithin]
def wsX2_cleanPage_r2 : List Cond := [Cond.initialized RX0, Cond.code yX0_sizeWithin cX0_sizeWithin 6 (some .int), Cond.fieldLink RX0 11 "PointerSweep$CellMap" "rows" "[J", Cond.constantLong RX0 19 (-1), Cond.methodLink RX0 31 yX0_bitsBelow, Cond.static yX0_bitsBelow, Cond.code yX0_bitsBelow cX0_bitsBelow 1 (some .long), Cond.methodLink RX0 35 yJ13_bitCount_95d88, Cond.static yJ13_bitCount_95d88, Cond.initialized RJ13, Cond.code yJ13_bitCount_95d88 cJ13_bitCount_95d88 2 (some .int), Cond.constantLong RJ13 314 (6148914691236517205), Cond.constantLong RJ13 316 (3689348814741910323), Cond.constantLong RJ13 318 (1085102592571150095), Cond.methodLink RX2 105 yX3_at, Cond.static yX3_at, Cond.code yX3_at cX3_at 2 (some .int), Cond.methodLink RX2 71 yX3_ofNumber, Cond.static yX3_ofNumber, Cond.code yX3_ofNumber cX3_ofNumber 1 (some .long), Cond.constantLong RX3 11 (4294967295)]
def wsX2_cleanPage : List Cond := .code yX2_cleanPage cX2_cleanPage 3 (some .int) :: ((wsX2_cleanPage_r1 ++ wsX2_cleanPage_r2) ++ wsX20 ++ wsX00)
def wsX2_lookAtNextPages_r1 : List Cond := [Cond.fieldLink RX2 42 "PointerSweep$State" "seenPages" "I", Cond.methodLink RX2 115 Lib.Math.min.name, Cond.static Lib.Math.min.name, Cond.initialized "java/lang/Math", Cond.code Lib.Math.min.name Lib.Math.min.code 2 (some .int), Cond.fieldLink RX2 18 "PointerSweep$State" "tallies" "[I", Cond.methodLink RX2 120 yX2_cleanPage, Cond.instanceMethod yX2_cleanPage, Cond.selects RX2 yX2_cleanPage yX2_cleanPage, Cond.initialized RX2, Cond.code yX2_cleanPage cX2_cleanPage 3 (some .int), Cond.fieldLink RX2 9 "PointerSweep$State" "cells" "[J", Cond.methodLink RX2 126 yX2_clean, Cond.instanceMethod yX2_clean, Cond.selects RX2 yX2_clean yX2_clean, Cond.code yX2_clean cX2_clean 6 (some .int), Cond.methodLink RX2 102 yX2_isStale, Cond.instanceMethod yX2_isStale, Cond.selects RX2 yX2_isStale yX2_isStale, Cond.code yX2_isStale cX2_isStale 3 (some .boolean), Cond.fieldLink RX2 32 "PointerSweep$State" "doomed" "LPointerSweep$CellMap;", Cond.methodLink RX2 83 yX3_isPointer, Cond.static yX3_isPointer, Cond.initialized RX3]
def wsX2_lookAtNextPages_r2 : List Cond := [Cond.code yX3_isPointer cX3_isPointer 2 (some .boolean), Cond.methodLink RX2 91 yX3_from, Cond.static yX3_from, Cond.code yX3_from cX3_from 2 (some .int), Cond.methodLink RX2 95 yX3_to, Cond.static yX3_to, Cond.code yX3_to cX3_to 2 (some .int), Cond.methodLink RX2 98 yX0_sizeWithin, Cond.instanceMethod yX0_sizeWithin, Cond.selects RX0 yX0_sizeWithin yX0_sizeWithin, Cond.initialized RX0, Cond.code yX0_sizeWithin cX0_sizeWithin 6 (some .int), Cond.fieldLink RX0 11 "PointerSweep$CellMap" "rows" "[J", Cond.constantLong RX0 19 (-1), Cond.methodLink RX0 31 yX0_bitsBelow, Cond.static yX0_bitsBelow, Cond.code yX0_bitsBelow cX0_bitsBelow 1 (some .long), Cond.methodLink RX0 35 yJ13_bitCount_95d88, Cond.static yJ13_bitCount_95d88, Cond.initialized RJ13, Cond.code yJ13_bitCount_95d88 cJ13_bitCount_95d88 2 (some .int), Cond.constantLong RJ13 314 (6148914691236517205), Cond.constantLong RJ13 316 (3689348814741910323), Cond.constantLong RJ13 318 (1085102592571150095)]
def wsX2_lookAtNextPages_r3 : List Cond := [Cond.methodLink RX2 105 yX3_at, Cond.static yX3_at, Cond.code yX3_at cX3_at 2 (some .int), Cond.methodLink RX2 71 yX3_ofNumber, Cond.static yX3_ofNumber, Cond.code yX3_ofNumber cX3_ofNumber 1 (some .long), Cond.constantLong RX3 11 (4294967295)]
def wsX2_lookAtNextPages : List Cond := .code yX2_lookAtNextPages cX2_lookAtNextPages 5 (some .int) :: ((wsX2_lookAtNextPages_r1 ++ (wsX2_lookAtNextPages_r2 ++ wsX2_lookAtNextPages_r3)) ++ wsX20 ++ wsX00)
def wsX2_finishSweep_r1 : List Cond := [Cond.fieldLink RX2 18 "PointerSweep$State" "tallies" "[I", Cond.fieldLink RX2 15 "PointerSweep$State" "registers" "[J", Cond.fieldLink RX2 32 "PointerSweep$State" "doomed" "LPointerSweep$CellMap;", Cond.fieldLink RX2 29 "PointerSweep$State" "quarantined" "LPointerSweep$CellMap;", Cond.fieldLink RX2 38 "PointerSweep$State" "sweeping" "Z", Cond.fieldLink RX2 42 "PointerSweep$State" "seenPages" "I", Cond.fieldLink RX2 46 "PointerSweep$State" "dirtyPages" "I", Cond.methodLink RX2 123 yX2_isDirty, Cond.instanceMethod yX2_isDirty, Cond.selects RX2 yX2_isDirty yX2_isDirty, Cond.initialized RX2, Cond.code yX2_isDirty cX2_isDirty 2 (some .boolean), Cond.methodLink RX2 120 yX2_cleanPage, Cond.instanceMethod yX2_cleanPage, Cond.selects RX2 yX2_cleanPage yX2_cleanPage, Cond.code yX2_cleanPage cX2_cleanPage 3 (some .int), Cond.fieldLink RX2 9 "PointerSweep$State" "cells" "[J", Cond.methodLink RX2 126 yX2_clean, Cond.instanceMethod yX2_clean, Cond.selects RX2 yX2_clean yX2_clean, Cond.code yX2_clean cX2_clean 6 (some .int), Cond.methodLink RX2 102 yX2_isStale, Cond.instanceMethod yX2_isStale, Cond.selects RX2 yX2_isStale yX2_isStale]
def wsX2_finishSweep_r2 : List Cond := [Cond.code yX2_isStale cX2_isStale 3 (some .boolean), Cond.methodLink RX2 83 yX3_isPointer, Cond.static yX3_isPointer, Cond.initialized RX3, Cond.code yX3_isPointer cX3_isPointer 2 (some .boolean), Cond.methodLink RX2 91 yX3_from, Cond.static yX3_from, Cond.code yX3_from cX3_from 2 (some .int), Cond.methodLink RX2 95 yX3_to, Cond.static yX3_to, Cond.code yX3_to cX3_to 2 (some .int), Cond.methodLink RX2 98 yX0_sizeWithin, Cond.instanceMethod yX0_sizeWithin, Cond.selects RX0 yX0_sizeWithin yX0_sizeWithin, Cond.initialized RX0, Cond.code yX0_sizeWithin cX0_sizeWithin 6 (some .int), Cond.fieldLink RX0 11 "PointerSweep$CellMap" "rows" "[J", Cond.constantLong RX0 19 (-1), Cond.methodLink RX0 31 yX0_bitsBelow, Cond.static yX0_bitsBelow, Cond.code yX0_bitsBelow cX0_bitsBelow 1 (some .long), Cond.methodLink RX0 35 yJ13_bitCount_95d88, Cond.static yJ13_bitCount_95d88, Cond.initialized RJ13]
def wsX2_finishSweep_r3 : List Cond := [Cond.code yJ13_bitCount_95d88 cJ13_bitCount_95d88 2 (some .int), Cond.constantLong RJ13 314 (6148914691236517205), Cond.constantLong RJ13 316 (3689348814741910323), Cond.constantLong RJ13 318 (1085102592571150095), Cond.methodLink RX2 105 yX3_at, Cond.static yX3_at, Cond.code yX3_at cX3_at 2 (some .int), Cond.methodLink RX2 71 yX3_ofNumber, Cond.static yX3_ofNumber, Cond.code yX3_ofNumber cX3_ofNumber 1 (some .long), Cond.constantLong RX3 11 (4294967295), Cond.methodLink RX2 111 yX0_size, Cond.instanceMethod yX0_size, Cond.selects RX0 yX0_size yX0_size, Cond.code yX0_size cX0_size 1 (some .int), Cond.methodLink RX0 27 yX0_sizeWithin, Cond.methodLink RX2 130 yX0_dropAllOf, Cond.instanceMethod yX0_dropAllOf, Cond.selects RX0 yX0_dropAllOf yX0_dropAllOf, Cond.code yX0_dropAllOf cX0_dropAllOf 3 none]
def wsX2_finishSweep : List Cond := .code yX2_finishSweep cX2_finishSweep 2 (some .int) :: ((wsX2_finishSweep_r1 ++ (wsX2_finishSweep_r2 ++ wsX2_finishSweep_r3)) ++ wsX20 ++ wsX00)
def wsX3_ofPointer : List Cond := .code yX3_ofPointer cX3_ofPointer 4 (some .long) :: ([.constantLong RX3 17 (4503599627370496), .methodLink RX3 13 yX3_ofNumber, .static yX3_ofNumber, .initialized RX3, .code yX3_ofNumber cX3_ofNumber 1 (some .long), .constantLong RX3 11 (4294967295)])
def wsX3_rights : List Cond := .code yX3_rights cX3_rights 2 (some .int) :: ([])
def wsX3_covers : List Cond := .code yX3_covers cX3_covers 6 (some .boolean) :: ([.methodLink RX3 19 yX3_at, .static yX3_at, .initialized RX3, .code yX3_at cX3_at 2 (some .int), .methodLink RX3 23 yX3_from, .static yX3_from, .code yX3_from cX3_from 2 (some .int), .methodLink RX3 26 yX3_to, .static yX3_to, .code yX3_to cX3_to 2 (some .int)])
def wsX4_init_r1 : List Cond := [Cond.methodLink RX4 3 objectInit, Cond.instanceMethod objectInit, Cond.code objectInit ⟨#[0xb1]⟩ 1 none, Cond.classLink RX4 9 RX2, Cond.instantiable RX2 10, Cond.initialized RX2, Cond.fieldLink RX4 12 "PointerSweep" "now" "LPointerSweep$State;", Cond.classLink RX4 16 RX1, Cond.instantiable RX1 3, Cond.initialized RX1, Cond.fieldLink RX4 19 "PointerSweep" "history" "LPointerSweep$History;", Cond.arrayClass .long, Cond.fieldLink RX4 23 "PointerSweep" "carried" "[J", Cond.instanceMethod yX2_init, Cond.code yX2_init cX2_init 1 none, Cond.methodLink RX2 3 objectInit, Cond.fieldLink RX2 9 "PointerSweep$State" "cells" "[J", Cond.fieldLink RX2 15 "PointerSweep$State" "registers" "[J", Cond.arrayClass .int, Cond.fieldLink RX2 18 "PointerSweep$State" "tallies" "[I", Cond.classLink RX2 22 RX0, Cond.instantiable RX0 1, Cond.initialized RX0, Cond.fieldLink RX2 25 "PointerSweep$State" "given" "LPointerSweep$CellMap;"]
def wsX4_init_r2 : List Cond := [Cond.fieldLink RX2 29 "PointerSweep$State" "quarantined" "LPointerSweep$CellMap;", Cond.fieldLink RX2 32 "PointerSweep$State" "doomed" "LPointerSweep$CellMap;", Cond.fieldLink RX2 35 "PointerSweep$State" "firsts" "LPointerSweep$CellMap;", Cond.fieldLink RX2 38 "PointerSweep$State" "sweeping" "Z", Cond.fieldLink RX2 42 "PointerSweep$State" "seenPages" "I", Cond.fieldLink RX2 46 "PointerSweep$State" "dirtyPages" "I", Cond.instanceMethod yX0_init, Cond.code yX0_init cX0_init 1 none, Cond.methodLink RX0 3 objectInit, Cond.fieldLink RX0 11 "PointerSweep$CellMap" "rows" "[J", Cond.methodLink RX4 18 yX1_init, Cond.instanceMethod yX1_init, Cond.code yX1_init cX1_init 2 none, Cond.methodLink RX1 3 objectInit, Cond.classLink RX1 9 RX2, Cond.fieldLink RX1 11 "PointerSweep$History" "kept" "[LPointerSweep$State;", Cond.fieldLink RX1 17 "PointerSweep$History" "next" "I", Cond.fieldLink RX1 21 "PointerSweep$History" "size" "I"]
def wsX4_init : List Cond := .code yX4_init cX4_init 1 none :: ((wsX4_init_r1 ++ wsX4_init_r2) ++ wsX20 ++ wsX40 ++ wsX10 ++ wsX00)
def wsX4_isRegister : List Cond := .code yX4_isRegister cX4_isRegister 1 (some .boolean) :: ([])
def wsX4_give_r1 : List Cond := [Cond.fieldLink RX4 12 "PointerSweep" "now" "LPointerSweep$State;", Cond.fieldLink RX4 19 "PointerSweep" "history" "LPointerSweep$History;", Cond.fieldLink RX4 43 "PointerSweep$State" "registers" "[J", Cond.methodLink RX4 27 yX4_isRegister, Cond.static yX4_isRegister, Cond.initialized RX4, Cond.code yX4_isRegister cX4_isRegister 1 (some .boolean), Cond.methodLink RX4 31 yX2_firstFreeRow, Cond.instanceMethod yX2_firstFreeRow, Cond.selects RX2 yX2_firstFreeRow yX2_firstFreeRow, Cond.initialized RX2, Cond.code yX2_firstFreeRow cX2_firstFreeRow 4 (some .int), Cond.methodLink RX2 63 yX2_useOf, Cond.instanceMethod yX2_useOf, Cond.selects RX2 yX2_useOf yX2_useOf, Cond.code yX2_useOf cX2_useOf 2 (some .int), Cond.fieldLink RX2 25 "PointerSweep$State" "given" "LPointerSweep$CellMap;", Cond.fieldLink RX2 29 "PointerSweep$State" "quarantined" "LPointerSweep$CellMap;", Cond.methodLink RX2 59 yX0_has, Cond.instanceMethod yX0_has, Cond.selects RX0 yX0_has yX0_has, Cond.initialized RX0, Cond.code yX0_has cX0_has 2 (some .boolean), Cond.fieldLink RX0 11 "PointerSweep$CellMap" "rows" "[J"]
def wsX4_give_r2 : List Cond := [Cond.static yX4_isCell, Cond.code yX4_isCell cX4_isCell 1 (some .boolean), Cond.methodLink RX4 35 yX1_keep, Cond.instanceMethod yX1_keep, Cond.selects RX1 yX1_keep yX1_keep, Cond.initialized RX1, Cond.code yX1_keep cX1_keep 2 none, Cond.fieldLink RX1 11 "PointerSweep$History" "kept" "[LPointerSweep$State;", Cond.fieldLink RX1 17 "PointerSweep$History" "next" "I", Cond.fieldLink RX1 21 "PointerSweep$History" "size" "I", Cond.methodLink RX1 29 Lib.Math.min.name, Cond.static Lib.Math.min.name, Cond.initialized "java/lang/Math", Cond.code Lib.Math.min.name Lib.Math.min.code 2 (some .int), Cond.methodLink RX1 25 yX2_become, Cond.instanceMethod yX2_become, Cond.selects RX2 yX2_become yX2_become, Cond.code yX2_become cX2_become 2 none, Cond.fieldLink RX2 9 "PointerSweep$State" "cells" "[J", Cond.methodLink RX2 49 arraycopyName, Cond.native arraycopyName, Cond.static arraycopyName, Cond.initialized "java/lang/System", Cond.fieldLink RX2 15 "PointerSweep$State" "registers" "[J"]
def wsX4_give_r3 : List Cond := [Cond.fieldLink RX2 18 "PointerSweep$State" "tallies" "[I", Cond.fieldLink RX2 32 "PointerSweep$State" "doomed" "LPointerSweep$CellMap;", Cond.fieldLink RX2 35 "PointerSweep$State" "firsts" "LPointerSweep$CellMap;", Cond.fieldLink RX2 38 "PointerSweep$State" "sweeping" "Z", Cond.fieldLink RX2 42 "PointerSweep$State" "seenPages" "I", Cond.fieldLink RX2 46 "PointerSweep$State" "dirtyPages" "I", Cond.methodLink RX2 55 yX0_become, Cond.instanceMethod yX0_become, Cond.selects RX0 yX0_become yX0_become, Cond.code yX0_become cX0_become 2 none, Cond.methodLink RX0 21 arraycopyName, Cond.methodLink RX4 39 yX2_giveOut, Cond.instanceMethod yX2_giveOut, Cond.selects RX2 yX2_giveOut yX2_giveOut, Cond.code yX2_giveOut cX2_giveOut 4 none, Cond.methodLink RX2 67 yX0_add, Cond.instanceMethod yX0_add, Cond.selects RX0 yX0_add yX0_add, Cond.code yX0_add cX0_add 2 none, Cond.methodLink RX2 71 yX3_ofNumber, Cond.static yX3_ofNumber, Cond.initialized RX3, Cond.code yX3_ofNumber cX3_ofNumber 1 (some .long), Cond.constantLong RX3 11 (4294967295)]
def wsX4_give_r4 : List Cond := [Cond.methodLink RX4 46 yX3_ofPointer, Cond.static yX3_ofPointer, Cond.code yX3_ofPointer cX3_ofPointer 4 (some .long), Cond.constantLong RX3 17 (4503599627370496), Cond.methodLink RX3 13 yX3_ofNumber]
def wsX4_give : List Cond := .code yX4_give cX4_give 4 (some .int) :: ((wsX4_give_r1 ++ (wsX4_give_r2 ++ (wsX4_give_r3 ++ wsX4_give_r4))) ++ wsX40 ++ wsX20 ++ wsX00 ++ wsX10)
def wsX4_back_r1 : List Cond := [Cond.fieldLink RX4 12 "PointerSweep" "now" "LPointerSweep$State;", Cond.fieldLink RX4 43 "PointerSweep$State" "registers" "[J", Cond.fieldLink RX4 19 "PointerSweep" "history" "LPointerSweep$History;", Cond.methodLink RX4 27 yX4_isRegister, Cond.static yX4_isRegister, Cond.initialized RX4, Cond.code yX4_isRegister cX4_isRegister 1 (some .boolean), Cond.methodLink RX4 52 yX3_isPointer, Cond.static yX3_isPointer, Cond.initialized RX3, Cond.code yX3_isPointer cX3_isPointer 2 (some .boolean), Cond.methodLink RX4 56 yX3_from, Cond.static yX3_from, Cond.code yX3_from cX3_from 2 (some .int), Cond.methodLink RX4 60 yX3_to, Cond.static yX3_to, Cond.code yX3_to cX3_to 2 (some .int), Cond.methodLink RX4 63 yX2_isRange, Cond.instanceMethod yX2_isRange, Cond.selects RX2 yX2_isRange yX2_isRange, Cond.initialized RX2, Cond.code yX2_isRange cX2_isRange 3 (some .boolean), Cond.fieldLink RX2 25 "PointerSweep$State" "given" "LPointerSweep$CellMap;", Cond.fieldLink RX2 35 "PointerSweep$State" "firsts" "LPointerSweep$CellMap;"]
def wsX4_back_r2 : List Cond := [Cond.methodLink RX2 59 yX0_has, Cond.instanceMethod yX0_has, Cond.selects RX0 yX0_has yX0_has, Cond.initialized RX0, Cond.code yX0_has cX0_has 2 (some .boolean), Cond.fieldLink RX0 11 "PointerSweep$CellMap" "rows" "[J", Cond.static yX4_isCell, Cond.code yX4_isCell cX4_isCell 1 (some .boolean), Cond.methodLink RX2 80 yX2_rangeTo, Cond.instanceMethod yX2_rangeTo, Cond.selects RX2 yX2_rangeTo yX2_rangeTo, Cond.code yX2_rangeTo cX2_rangeTo 3 (some .int), Cond.methodLink RX4 35 yX1_keep, Cond.instanceMethod yX1_keep, Cond.selects RX1 yX1_keep yX1_keep, Cond.initialized RX1, Cond.code yX1_keep cX1_keep 2 none, Cond.fieldLink RX1 11 "PointerSweep$History" "kept" "[LPointerSweep$State;", Cond.fieldLink RX1 17 "PointerSweep$History" "next" "I", Cond.fieldLink RX1 21 "PointerSweep$History" "size" "I", Cond.methodLink RX1 29 Lib.Math.min.name, Cond.static Lib.Math.min.name, Cond.initialized "java/lang/Math", Cond.code Lib.Math.min.name Lib.Math.min.code 2 (some .int)]
def wsX4_back_r3 : List Cond := [Cond.methodLink RX1 25 yX2_become, Cond.instanceMethod yX2_become, Cond.selects RX2 yX2_become yX2_become, Cond.code yX2_become cX2_become 2 none, Cond.fieldLink RX2 9 "PointerSweep$State" "cells" "[J", Cond.methodLink RX2 49 arraycopyName, Cond.native arraycopyName, Cond.static arraycopyName, Cond.initialized "java/lang/System", Cond.fieldLink RX2 15 "PointerSweep$State" "registers" "[J", Cond.fieldLink RX2 18 "PointerSweep$State" "tallies" "[I", Cond.fieldLink RX2 29 "PointerSweep$State" "quarantined" "LPointerSweep$CellMap;", Cond.fieldLink RX2 32 "PointerSweep$State" "doomed" "LPointerSweep$CellMap;", Cond.fieldLink RX2 38 "PointerSweep$State" "sweeping" "Z", Cond.fieldLink RX2 42 "PointerSweep$State" "seenPages" "I", Cond.fieldLink RX2 46 "PointerSweep$State" "dirtyPages" "I", Cond.methodLink RX2 55 yX0_become, Cond.instanceMethod yX0_become, Cond.selects RX0 yX0_become yX0_become, Cond.code yX0_become cX0_become 2 none, Cond.methodLink RX0 21 arraycopyName, Cond.methodLink RX4 67 yX2_giveBack, Cond.instanceMethod yX2_giveBack, Cond.selects RX2 yX2_giveBack yX2_giveBack]
def wsX4_back_r4 : List Cond := [Cond.code yX2_giveBack cX2_giveBack 4 none, Cond.methodLink RX2 77 yX0_drop, Cond.instanceMethod yX0_drop, Cond.selects RX0 yX0_drop yX0_drop, Cond.code yX0_drop cX0_drop 2 none, Cond.constantLong RX0 19 (-1), Cond.methodLink RX2 67 yX0_add, Cond.instanceMethod yX0_add, Cond.selects RX0 yX0_add yX0_add, Cond.code yX0_add cX0_add 2 none]
def wsX4_back : List Cond := .code yX4_back cX4_back 6 (some .int) :: ((wsX4_back_r1 ++ (wsX4_back_r2 ++ (wsX4_back_r3 ++ wsX4_back_r4))) ++ wsX40 ++ wsX20 ++ wsX00 ++ wsX10)
def wsX4_number_r1 : List Cond := [Cond.fieldLink RX4 19 "PointerSweep" "history" "LPointerSweep$History;", Cond.fieldLink RX4 12 "PointerSweep" "now" "LPointerSweep$State;", Cond.fieldLink RX4 43 "PointerSweep$State" "registers" "[J", Cond.methodLink RX4 27 yX4_isRegister, Cond.static yX4_isRegister, Cond.initialized RX4, Cond.code yX4_isRegister cX4_isRegister 1 (some .boolean), Cond.methodLink RX4 35 yX1_keep, Cond.instanceMethod yX1_keep, Cond.selects RX1 yX1_keep yX1_keep, Cond.initialized RX1, Cond.code yX1_keep cX1_keep 2 none, Cond.fieldLink RX1 11 "PointerSweep$History" "kept" "[LPointerSweep$State;", Cond.fieldLink RX1 17 "PointerSweep$History" "next" "I", Cond.fieldLink RX1 21 "PointerSweep$History" "size" "I", Cond.methodLink RX1 29 Lib.Math.min.name, Cond.static Lib.Math.min.name, Cond.initialized "java/lang/Math", Cond.code Lib.Math.min.name Lib.Math.min.code 2 (some .int), Cond.methodLink RX1 25 yX2_become, Cond.instanceMethod yX2_become, Cond.selects RX2 yX2_become yX2_become, Cond.initialized RX2, Cond.code yX2_become cX2_become 2 none]
def wsX4_number_r2 : List Cond := [Cond.fieldLink RX2 9 "PointerSweep$State" "cells" "[J", Cond.methodLink RX2 49 arraycopyName, Cond.native arraycopyName, Cond.static arraycopyName, Cond.initialized "java/lang/System", Cond.fieldLink RX2 15 "PointerSweep$State" "registers" "[J", Cond.fieldLink RX2 18 "PointerSweep$State" "tallies" "[I", Cond.fieldLink RX2 25 "PointerSweep$State" "given" "LPointerSweep$CellMap;", Cond.fieldLink RX2 29 "PointerSweep$State" "quarantined" "LPointerSweep$CellMap;", Cond.fieldLink RX2 32 "PointerSweep$State" "doomed" "LPointerSweep$CellMap;", Cond.fieldLink RX2 35 "PointerSweep$State" "firsts" "LPointerSweep$CellMap;", Cond.fieldLink RX2 38 "PointerSweep$State" "sweeping" "Z", Cond.fieldLink RX2 42 "PointerSweep$State" "seenPages" "I", Cond.fieldLink RX2 46 "PointerSweep$State" "dirtyPages" "I", Cond.methodLink RX2 55 yX0_become, Cond.instanceMethod yX0_become, Cond.selects RX0 yX0_become yX0_become, Cond.initialized RX0, Cond.code yX0_become cX0_become 2 none, Cond.fieldLink RX0 11 "PointerSweep$CellMap" "rows" "[J", Cond.methodLink RX0 21 arraycopyName, Cond.methodLink RX4 70 yX3_ofNumber, Cond.static yX3_ofNumber, Cond.initialized RX3]
def wsX4_number_r3 : List Cond := [Cond.code yX3_ofNumber cX3_ofNumber 1 (some .long), Cond.constantLong RX3 11 (4294967295)]
def wsX4_number : List Cond := .code yX4_number cX4_number 3 (some .int) :: ((wsX4_number_r1 ++ (wsX4_number_r2 ++ wsX4_number_r3)) ++ wsX40 ++ wsX20 ++ wsX10 ++ wsX00)
def wsX4_copy_r1 : List Cond := [Cond.fieldLink RX4 19 "PointerSweep" "history" "LPointerSweep$History;", Cond.fieldLink RX4 12 "PointerSweep" "now" "LPointerSweep$State;", Cond.fieldLink RX4 43 "PointerSweep$State" "registers" "[J", Cond.methodLink RX4 27 yX4_isRegister, Cond.static yX4_isRegister, Cond.initialized RX4, Cond.code yX4_isRegister cX4_isRegister 1 (some .boolean), Cond.methodLink RX4 35 yX1_keep, Cond.instanceMethod yX1_keep, Cond.selects RX1 yX1_keep yX1_keep, Cond.initialized RX1, Cond.code yX1_keep cX1_keep 2 none, Cond.fieldLink RX1 11 "PointerSweep$History" "kept" "[LPointerSweep$State;", Cond.fieldLink RX1 17 "PointerSweep$History" "next" "I", Cond.fieldLink RX1 21 "PointerSweep$History" "size" "I", Cond.methodLink RX1 29 Lib.Math.min.name, Cond.static Lib.Math.min.name, Cond.initialized "java/lang/Math", Cond.code Lib.Math.min.name Lib.Math.min.code 2 (some .int), Cond.methodLink RX1 25 yX2_become, Cond.instanceMethod yX2_become, Cond.selects RX2 yX2_become yX2_become, Cond.initialized RX2, Cond.code yX2_become cX2_become 2 none]
def wsX4_copy_r2 : List Cond := [Cond.fieldLink RX2 9 "PointerSweep$State" "cells" "[J", Cond.methodLink RX2 49 arraycopyName, Cond.native arraycopyName, Cond.static arraycopyName, Cond.initialized "java/lang/System", Cond.fieldLink RX2 15 "PointerSweep$State" "registers" "[J", Cond.fieldLink RX2 18 "PointerSweep$State" "tallies" "[I", Cond.fieldLink RX2 25 "PointerSweep$State" "given" "LPointerSweep$CellMap;", Cond.fieldLink RX2 29 "PointerSweep$State" "quarantined" "LPointerSweep$CellMap;", Cond.fieldLink RX2 32 "PointerSweep$State" "doomed" "LPointerSweep$CellMap;", Cond.fieldLink RX2 35 "PointerSweep$State" "firsts" "LPointerSweep$CellMap;", Cond.fieldLink RX2 38 "PointerSweep$State" "sweeping" "Z", Cond.fieldLink RX2 42 "PointerSweep$State" "seenPages" "I", Cond.fieldLink RX2 46 "PointerSweep$State" "dirtyPages" "I", Cond.methodLink RX2 55 yX0_become, Cond.instanceMethod yX0_become, Cond.selects RX0 yX0_become yX0_become, Cond.initialized RX0, Cond.code yX0_become cX0_become 2 none, Cond.fieldLink RX0 11 "PointerSweep$CellMap" "rows" "[J", Cond.methodLink RX0 21 arraycopyName]
def wsX4_copy : List Cond := .code yX4_copy cX4_copy 3 (some .int) :: ((wsX4_copy_r1 ++ wsX4_copy_r2) ++ wsX40 ++ wsX20 ++ wsX10 ++ wsX00)
def wsX4_move_r1 : List Cond := [Cond.constant RX4 74 (-1000000001), Cond.fieldLink RX4 12 "PointerSweep" "now" "LPointerSweep$State;", Cond.fieldLink RX4 43 "PointerSweep$State" "registers" "[J", Cond.constant RX4 75 (-1000000011), Cond.fieldLink RX4 19 "PointerSweep" "history" "LPointerSweep$History;", Cond.methodLink RX4 27 yX4_isRegister, Cond.static yX4_isRegister, Cond.initialized RX4, Cond.code yX4_isRegister cX4_isRegister 1 (some .boolean), Cond.methodLink RX4 52 yX3_isPointer, Cond.static yX3_isPointer, Cond.initialized RX3, Cond.code yX3_isPointer cX3_isPointer 2 (some .boolean), Cond.methodLink RX4 35 yX1_keep, Cond.instanceMethod yX1_keep, Cond.selects RX1 yX1_keep yX1_keep, Cond.initialized RX1, Cond.code yX1_keep cX1_keep 2 none, Cond.fieldLink RX1 11 "PointerSweep$History" "kept" "[LPointerSweep$State;", Cond.fieldLink RX1 17 "PointerSweep$History" "next" "I", Cond.fieldLink RX1 21 "PointerSweep$History" "size" "I", Cond.methodLink RX1 29 Lib.Math.min.name, Cond.static Lib.Math.min.name, Cond.initialized "java/lang/Math"]
def wsX4_move_r2 : List Cond := [Cond.code Lib.Math.min.name Lib.Math.min.code 2 (some .int), Cond.methodLink RX1 25 yX2_become, Cond.instanceMethod yX2_become, Cond.selects RX2 yX2_become yX2_become, Cond.initialized RX2, Cond.code yX2_become cX2_become 2 none, Cond.fieldLink RX2 9 "PointerSweep$State" "cells" "[J", Cond.methodLink RX2 49 arraycopyName, Cond.native arraycopyName, Cond.static arraycopyName, Cond.initialized "java/lang/System", Cond.fieldLink RX2 15 "PointerSweep$State" "registers" "[J", Cond.fieldLink RX2 18 "PointerSweep$State" "tallies" "[I", Cond.fieldLink RX2 25 "PointerSweep$State" "given" "LPointerSweep$CellMap;", Cond.fieldLink RX2 29 "PointerSweep$State" "quarantined" "LPointerSweep$CellMap;", Cond.fieldLink RX2 32 "PointerSweep$State" "doomed" "LPointerSweep$CellMap;", Cond.fieldLink RX2 35 "PointerSweep$State" "firsts" "LPointerSweep$CellMap;", Cond.fieldLink RX2 38 "PointerSweep$State" "sweeping" "Z", Cond.fieldLink RX2 42 "PointerSweep$State" "seenPages" "I", Cond.fieldLink RX2 46 "PointerSweep$State" "dirtyPages" "I", Cond.methodLink RX2 55 yX0_become, Cond.instanceMethod yX0_become, Cond.selects RX0 yX0_become yX0_become, Cond.initialized RX0]
def wsX4_move_r3 : List Cond := [Cond.code yX0_become cX0_become 2 none, Cond.fieldLink RX0 11 "PointerSweep$CellMap" "rows" "[J", Cond.methodLink RX0 21 arraycopyName, Cond.methodLink RX4 76 yX3_at, Cond.static yX3_at, Cond.code yX3_at cX3_at 2 (some .int), Cond.methodLink RX4 56 yX3_from, Cond.static yX3_from, Cond.code yX3_from cX3_from 2 (some .int), Cond.methodLink RX4 60 yX3_to, Cond.static yX3_to, Cond.code yX3_to cX3_to 2 (some .int), Cond.methodLink RX4 79 yX3_rights, Cond.static yX3_rights, Cond.code yX3_rights cX3_rights 2 (some .int), Cond.methodLink RX4 46 yX3_ofPointer, Cond.static yX3_ofPointer, Cond.code yX3_ofPointer cX3_ofPointer 4 (some .long), Cond.constantLong RX3 17 (4503599627370496), Cond.methodLink RX3 13 yX3_ofNumber, Cond.static yX3_ofNumber, Cond.code yX3_ofNumber cX3_ofNumber 1 (some .long), Cond.constantLong RX3 11 (4294967295)]
def wsX4_move : List Cond := .code yX4_move cX4_move 6 (some .int) :: ((wsX4_move_r1 ++ (wsX4_move_r2 ++ wsX4_move_r3)) ++ wsX40 ++ wsX20 ++ wsX10 ++ wsX00)
def wsX4_narrow_r1 : List Cond := [Cond.fieldLink RX4 12 "PointerSweep" "now" "LPointerSweep$State;", Cond.fieldLink RX4 43 "PointerSweep$State" "registers" "[J", Cond.fieldLink RX4 19 "PointerSweep" "history" "LPointerSweep$History;", Cond.methodLink RX4 27 yX4_isRegister, Cond.static yX4_isRegister, Cond.initialized RX4, Cond.code yX4_isRegister cX4_isRegister 1 (some .boolean), Cond.methodLink RX4 52 yX3_isPointer, Cond.static yX3_isPointer, Cond.initialized RX3, Cond.code yX3_isPointer cX3_isPointer 2 (some .boolean), Cond.methodLink RX4 82 yX3_covers, Cond.static yX3_covers, Cond.code yX3_covers cX3_covers 6 (some .boolean), Cond.methodLink RX3 19 yX3_at, Cond.static yX3_at, Cond.code yX3_at cX3_at 2 (some .int), Cond.methodLink RX3 23 yX3_from, Cond.static yX3_from, Cond.code yX3_from cX3_from 2 (some .int), Cond.methodLink RX3 26 yX3_to, Cond.static yX3_to, Cond.code yX3_to cX3_to 2 (some .int), Cond.methodLink RX4 35 yX1_keep]
def wsX4_narrow_r2 : List Cond := [Cond.instanceMethod yX1_keep, Cond.selects RX1 yX1_keep yX1_keep, Cond.initialized RX1, Cond.code yX1_keep cX1_keep 2 none, Cond.fieldLink RX1 11 "PointerSweep$History" "kept" "[LPointerSweep$State;", Cond.fieldLink RX1 17 "PointerSweep$History" "next" "I", Cond.fieldLink RX1 21 "PointerSweep$History" "size" "I", Cond.methodLink RX1 29 Lib.Math.min.name, Cond.static Lib.Math.min.name, Cond.initialized "java/lang/Math", Cond.code Lib.Math.min.name Lib.Math.min.code 2 (some .int), Cond.methodLink RX1 25 yX2_become, Cond.instanceMethod yX2_become, Cond.selects RX2 yX2_become yX2_become, Cond.initialized RX2, Cond.code yX2_become cX2_become 2 none, Cond.fieldLink RX2 9 "PointerSweep$State" "cells" "[J", Cond.methodLink RX2 49 arraycopyName, Cond.native arraycopyName, Cond.static arraycopyName, Cond.initialized "java/lang/System", Cond.fieldLink RX2 15 "PointerSweep$State" "registers" "[J", Cond.fieldLink RX2 18 "PointerSweep$State" "tallies" "[I", Cond.fieldLink RX2 25 "PointerSweep$State" "given" "LPointerSweep$CellMap;"]
def wsX4_narrow_r3 : List Cond := [Cond.fieldLink RX2 29 "PointerSweep$State" "quarantined" "LPointerSweep$CellMap;", Cond.fieldLink RX2 32 "PointerSweep$State" "doomed" "LPointerSweep$CellMap;", Cond.fieldLink RX2 35 "PointerSweep$State" "firsts" "LPointerSweep$CellMap;", Cond.fieldLink RX2 38 "PointerSweep$State" "sweeping" "Z", Cond.fieldLink RX2 42 "PointerSweep$State" "seenPages" "I", Cond.fieldLink RX2 46 "PointerSweep$State" "dirtyPages" "I", Cond.methodLink RX2 55 yX0_become, Cond.instanceMethod yX0_become, Cond.selects RX0 yX0_become yX0_become, Cond.initialized RX0, Cond.code yX0_become cX0_become 2 none, Cond.fieldLink RX0 11 "PointerSweep$CellMap" "rows" "[J", Cond.methodLink RX0 21 arraycopyName, Cond.methodLink RX4 76 yX3_at, Cond.methodLink RX4 79 yX3_rights, Cond.static yX3_rights, Cond.code yX3_rights cX3_rights 2 (some .int), Cond.methodLink RX4 46 yX3_ofPointer, Cond.static yX3_ofPointer, Cond.code yX3_ofPointer cX3_ofPointer 4 (some .long), Cond.constantLong RX3 17 (4503599627370496), Cond.methodLink RX3 13 yX3_ofNumber, Cond.static yX3_ofNumber, Cond.code yX3_ofNumber cX3_ofNumber 1 (some .long)]
def wsX4_narrow_r4 : List Cond := [Cond.constantLong RX3 11 (4294967295)]
def wsX4_narrow : List Cond := .code yX4_narrow cX4_narrow 8 (some .int) :: ((wsX4_narrow_r1 ++ (wsX4_narrow_r2 ++ (wsX4_narrow_r3 ++ wsX4_narrow_r4))) ++ wsX40 ++ wsX20 ++ wsX10 ++ wsX00)
def wsX4_faultOf : List Cond := .code yX4_faultOf cX4_faultOf 5 (some .int) :: ([.methodLink RX4 52 yX3_isPointer, .static yX3_isPointer, .initialized RX3, .code yX3_isPointer cX3_isPointer 2 (some .boolean), .methodLink RX4 79 yX3_rights, .static yX3_rights, .code yX3_rights cX3_rights 2 (some .int), .methodLink RX4 82 yX3_covers, .static yX3_covers, .code yX3_covers cX3_covers 6 (some .boolean), .methodLink RX3 19 yX3_at, .static yX3_at, .code yX3_at cX3_at 2 (some .int), .methodLink RX3 23 yX3_from, .static yX3_from, .code yX3_from cX3_from 2 (some .int), .methodLink RX3 26 yX3_to, .static yX3_to, .code yX3_to cX3_to 2 (some .int)])
def wsX4_look_r1 : List Cond := [Cond.fieldLink RX4 12 "PointerSweep" "now" "LPointerSweep$State;", Cond.fieldLink RX4 43 "PointerSweep$State" "registers" "[J", Cond.fieldLink RX4 19 "PointerSweep" "history" "LPointerSweep$History;", Cond.methodLink RX4 27 yX4_isRegister, Cond.static yX4_isRegister, Cond.initialized RX4, Cond.code yX4_isRegister cX4_isRegister 1 (some .boolean), Cond.methodLink RX4 86 yX4_faultOf, Cond.static yX4_faultOf, Cond.code yX4_faultOf cX4_faultOf 5 (some .int), Cond.methodLink RX4 52 yX3_isPointer, Cond.static yX3_isPointer, Cond.initialized RX3, Cond.code yX3_isPointer cX3_isPointer 2 (some .boolean), Cond.methodLink RX4 79 yX3_rights, Cond.static yX3_rights, Cond.code yX3_rights cX3_rights 2 (some .int), Cond.methodLink RX4 82 yX3_covers, Cond.static yX3_covers, Cond.code yX3_covers cX3_covers 6 (some .boolean), Cond.methodLink RX3 19 yX3_at, Cond.static yX3_at, Cond.code yX3_at cX3_at 2 (some .int), Cond.methodLink RX3 23 yX3_from]
def wsX4_look_r2 : List Cond := [Cond.static yX3_from, Cond.code yX3_from cX3_from 2 (some .int), Cond.methodLink RX3 26 yX3_to, Cond.static yX3_to, Cond.code yX3_to cX3_to 2 (some .int), Cond.methodLink RX4 35 yX1_keep, Cond.instanceMethod yX1_keep, Cond.selects RX1 yX1_keep yX1_keep, Cond.initialized RX1, Cond.code yX1_keep cX1_keep 2 none, Cond.fieldLink RX1 11 "PointerSweep$History" "kept" "[LPointerSweep$State;", Cond.fieldLink RX1 17 "PointerSweep$History" "next" "I", Cond.fieldLink RX1 21 "PointerSweep$History" "size" "I", Cond.methodLink RX1 29 Lib.Math.min.name, Cond.static Lib.Math.min.name, Cond.initialized "java/lang/Math", Cond.code Lib.Math.min.name Lib.Math.min.code 2 (some .int), Cond.methodLink RX1 25 yX2_become, Cond.instanceMethod yX2_become, Cond.selects RX2 yX2_become yX2_become, Cond.initialized RX2, Cond.code yX2_become cX2_become 2 none, Cond.fieldLink RX2 9 "PointerSweep$State" "cells" "[J", Cond.methodLink RX2 49 arraycopyName]
def wsX4_look_r3 : List Cond := [Cond.native arraycopyName, Cond.static arraycopyName, Cond.initialized "java/lang/System", Cond.fieldLink RX2 15 "PointerSweep$State" "registers" "[J", Cond.fieldLink RX2 18 "PointerSweep$State" "tallies" "[I", Cond.fieldLink RX2 25 "PointerSweep$State" "given" "LPointerSweep$CellMap;", Cond.fieldLink RX2 29 "PointerSweep$State" "quarantined" "LPointerSweep$CellMap;", Cond.fieldLink RX2 32 "PointerSweep$State" "doomed" "LPointerSweep$CellMap;", Cond.fieldLink RX2 35 "PointerSweep$State" "firsts" "LPointerSweep$CellMap;", Cond.fieldLink RX2 38 "PointerSweep$State" "sweeping" "Z", Cond.fieldLink RX2 42 "PointerSweep$State" "seenPages" "I", Cond.fieldLink RX2 46 "PointerSweep$State" "dirtyPages" "I", Cond.methodLink RX2 55 yX0_become, Cond.instanceMethod yX0_become, Cond.selects RX0 yX0_become yX0_become, Cond.initialized RX0, Cond.code yX0_become cX0_become 2 none, Cond.fieldLink RX0 11 "PointerSweep$CellMap" "rows" "[J", Cond.methodLink RX0 21 arraycopyName, Cond.methodLink RX4 76 yX3_at, Cond.methodLink RX4 90 yX2_lookUp, Cond.instanceMethod yX2_lookUp, Cond.selects RX2 yX2_lookUp yX2_lookUp, Cond.code yX2_lookUp cX2_lookUp 4 (some .long)]
def wsX4_look_r4 : List Cond := [Cond.methodLink RX2 102 yX2_isStale, Cond.instanceMethod yX2_isStale, Cond.selects RX2 yX2_isStale yX2_isStale, Cond.code yX2_isStale cX2_isStale 3 (some .boolean), Cond.methodLink RX2 83 yX3_isPointer, Cond.methodLink RX2 91 yX3_from, Cond.methodLink RX2 95 yX3_to, Cond.methodLink RX2 98 yX0_sizeWithin, Cond.instanceMethod yX0_sizeWithin, Cond.selects RX0 yX0_sizeWithin yX0_sizeWithin, Cond.code yX0_sizeWithin cX0_sizeWithin 6 (some .int), Cond.constantLong RX0 19 (-1), Cond.methodLink RX0 31 yX0_bitsBelow, Cond.static yX0_bitsBelow, Cond.code yX0_bitsBelow cX0_bitsBelow 1 (some .long), Cond.methodLink RX0 35 yJ13_bitCount_95d88, Cond.static yJ13_bitCount_95d88, Cond.initialized RJ13, Cond.code yJ13_bitCount_95d88 cJ13_bitCount_95d88 2 (some .int), Cond.constantLong RJ13 314 (6148914691236517205), Cond.constantLong RJ13 316 (3689348814741910323), Cond.constantLong RJ13 318 (1085102592571150095), Cond.methodLink RX2 105 yX3_at, Cond.methodLink RX2 71 yX3_ofNumber]
def wsX4_look_r5 : List Cond := [Cond.static yX3_ofNumber, Cond.code yX3_ofNumber cX3_ofNumber 1 (some .long), Cond.constantLong RX3 11 (4294967295), Cond.methodLink RX4 93 yX4_oneIf, Cond.static yX4_oneIf, Cond.code yX4_oneIf cX4_oneIf 1 (some .int)]
def wsX4_look : List Cond := .code yX4_look cX4_look 9 (some .int) :: ((wsX4_look_r1 ++ (wsX4_look_r2 ++ (wsX4_look_r3 ++ (wsX4_look_r4 ++ wsX4_look_r5)))) ++ wsX40 ++ wsX20 ++ wsX10 ++ wsX00)
def wsX4_lay_r1 : List Cond := [Cond.fieldLink RX4 12 "PointerSweep" "now" "LPointerSweep$State;", Cond.fieldLink RX4 43 "PointerSweep$State" "registers" "[J", Cond.fieldLink RX4 19 "PointerSweep" "history" "LPointerSweep$History;", Cond.methodLink RX4 27 yX4_isRegister, Cond.static yX4_isRegister, Cond.initialized RX4, Cond.code yX4_isRegister cX4_isRegister 1 (some .boolean), Cond.methodLink RX4 86 yX4_faultOf, Cond.static yX4_faultOf, Cond.code yX4_faultOf cX4_faultOf 5 (some .int), Cond.methodLink RX4 52 yX3_isPointer, Cond.static yX3_isPointer, Cond.initialized RX3, Cond.code yX3_isPointer cX3_isPointer 2 (some .boolean), Cond.methodLink RX4 79 yX3_rights, Cond.static yX3_rights, Cond.code yX3_rights cX3_rights 2 (some .int), Cond.methodLink RX4 82 yX3_covers, Cond.static yX3_covers, Cond.code yX3_covers cX3_covers 6 (some .boolean), Cond.methodLink RX3 19 yX3_at, Cond.static yX3_at, Cond.code yX3_at cX3_at 2 (some .int), Cond.methodLink RX3 23 yX3_from]
def wsX4_lay_r2 : List Cond := [Cond.static yX3_from, Cond.code yX3_from cX3_from 2 (some .int), Cond.methodLink RX3 26 yX3_to, Cond.static yX3_to, Cond.code yX3_to cX3_to 2 (some .int), Cond.methodLink RX4 35 yX1_keep, Cond.instanceMethod yX1_keep, Cond.selects RX1 yX1_keep yX1_keep, Cond.initialized RX1, Cond.code yX1_keep cX1_keep 2 none, Cond.fieldLink RX1 11 "PointerSweep$History" "kept" "[LPointerSweep$State;", Cond.fieldLink RX1 17 "PointerSweep$History" "next" "I", Cond.fieldLink RX1 21 "PointerSweep$History" "size" "I", Cond.methodLink RX1 29 Lib.Math.min.name, Cond.static Lib.Math.min.name, Cond.initialized "java/lang/Math", Cond.code Lib.Math.min.name Lib.Math.min.code 2 (some .int), Cond.methodLink RX1 25 yX2_become, Cond.instanceMethod yX2_become, Cond.selects RX2 yX2_become yX2_become, Cond.initialized RX2, Cond.code yX2_become cX2_become 2 none, Cond.fieldLink RX2 9 "PointerSweep$State" "cells" "[J", Cond.methodLink RX2 49 arraycopyName]
def wsX4_lay_r3 : List Cond := [Cond.native arraycopyName, Cond.static arraycopyName, Cond.initialized "java/lang/System", Cond.fieldLink RX2 15 "PointerSweep$State" "registers" "[J", Cond.fieldLink RX2 18 "PointerSweep$State" "tallies" "[I", Cond.fieldLink RX2 25 "PointerSweep$State" "given" "LPointerSweep$CellMap;", Cond.fieldLink RX2 29 "PointerSweep$State" "quarantined" "LPointerSweep$CellMap;", Cond.fieldLink RX2 32 "PointerSweep$State" "doomed" "LPointerSweep$CellMap;", Cond.fieldLink RX2 35 "PointerSweep$State" "firsts" "LPointerSweep$CellMap;", Cond.fieldLink RX2 38 "PointerSweep$State" "sweeping" "Z", Cond.fieldLink RX2 42 "PointerSweep$State" "seenPages" "I", Cond.fieldLink RX2 46 "PointerSweep$State" "dirtyPages" "I", Cond.methodLink RX2 55 yX0_become, Cond.instanceMethod yX0_become, Cond.selects RX0 yX0_become yX0_become, Cond.initialized RX0, Cond.code yX0_become cX0_become 2 none, Cond.fieldLink RX0 11 "PointerSweep$CellMap" "rows" "[J", Cond.methodLink RX0 21 arraycopyName, Cond.methodLink RX4 76 yX3_at, Cond.methodLink RX4 97 yX2_layDown, Cond.instanceMethod yX2_layDown, Cond.selects RX2 yX2_layDown yX2_layDown, Cond.code yX2_layDown cX2_layDown 5 none]
def wsX4_lay_r4 : List Cond := [Cond.methodLink RX2 83 yX3_isPointer, Cond.methodLink RX2 108 yX2_isSeen, Cond.instanceMethod yX2_isSeen, Cond.selects RX2 yX2_isSeen yX2_isSeen, Cond.code yX2_isSeen cX2_isSeen 2 (some .boolean)]
def wsX4_lay : List Cond := .code yX4_lay cX4_lay 8 (some .int) :: ((wsX4_lay_r1 ++ (wsX4_lay_r2 ++ (wsX4_lay_r3 ++ wsX4_lay_r4))) ++ wsX40 ++ wsX20 ++ wsX10 ++ wsX00)
def wsX4_carry_r1 : List Cond := [Cond.fieldLink RX4 23 "PointerSweep" "carried" "[J", Cond.fieldLink RX4 12 "PointerSweep" "now" "LPointerSweep$State;", Cond.methodLink RX4 90 yX2_lookUp, Cond.instanceMethod yX2_lookUp, Cond.selects RX2 yX2_lookUp yX2_lookUp, Cond.initialized RX2, Cond.code yX2_lookUp cX2_lookUp 4 (some .long), Cond.fieldLink RX2 9 "PointerSweep$State" "cells" "[J", Cond.fieldLink RX2 18 "PointerSweep$State" "tallies" "[I", Cond.methodLink RX2 102 yX2_isStale, Cond.instanceMethod yX2_isStale, Cond.selects RX2 yX2_isStale yX2_isStale, Cond.code yX2_isStale cX2_isStale 3 (some .boolean), Cond.fieldLink RX2 32 "PointerSweep$State" "doomed" "LPointerSweep$CellMap;", Cond.methodLink RX2 83 yX3_isPointer, Cond.static yX3_isPointer, Cond.initialized RX3, Cond.code yX3_isPointer cX3_isPointer 2 (some .boolean), Cond.methodLink RX2 91 yX3_from, Cond.static yX3_from, Cond.code yX3_from cX3_from 2 (some .int), Cond.methodLink RX2 95 yX3_to, Cond.static yX3_to, Cond.code yX3_to cX3_to 2 (some .int)]
def wsX4_carry_r2 : List Cond := [Cond.methodLink RX2 98 yX0_sizeWithin, Cond.instanceMethod yX0_sizeWithin, Cond.selects RX0 yX0_sizeWithin yX0_sizeWithin, Cond.initialized RX0, Cond.code yX0_sizeWithin cX0_sizeWithin 6 (some .int), Cond.fieldLink RX0 11 "PointerSweep$CellMap" "rows" "[J", Cond.constantLong RX0 19 (-1), Cond.methodLink RX0 31 yX0_bitsBelow, Cond.static yX0_bitsBelow, Cond.code yX0_bitsBelow cX0_bitsBelow 1 (some .long), Cond.methodLink RX0 35 yJ13_bitCount_95d88, Cond.static yJ13_bitCount_95d88, Cond.initialized RJ13, Cond.code yJ13_bitCount_95d88 cJ13_bitCount_95d88 2 (some .int), Cond.constantLong RJ13 314 (6148914691236517205), Cond.constantLong RJ13 316 (3689348814741910323), Cond.constantLong RJ13 318 (1085102592571150095), Cond.methodLink RX2 105 yX3_at, Cond.static yX3_at, Cond.code yX3_at cX3_at 2 (some .int), Cond.methodLink RX2 71 yX3_ofNumber, Cond.static yX3_ofNumber, Cond.code yX3_ofNumber cX3_ofNumber 1 (some .long), Cond.constantLong RX3 11 (4294967295)]
def wsX4_carry_r3 : List Cond := [Cond.methodLink RX4 97 yX2_layDown, Cond.instanceMethod yX2_layDown, Cond.selects RX2 yX2_layDown yX2_layDown, Cond.code yX2_layDown cX2_layDown 5 none, Cond.fieldLink RX2 46 "PointerSweep$State" "dirtyPages" "I", Cond.methodLink RX2 108 yX2_isSeen, Cond.instanceMethod yX2_isSeen, Cond.selects RX2 yX2_isSeen yX2_isSeen, Cond.code yX2_isSeen cX2_isSeen 2 (some .boolean), Cond.fieldLink RX2 42 "PointerSweep$State" "seenPages" "I"]
def wsX4_carry : List Cond := .code yX4_carry cX4_carry 5 none :: ((wsX4_carry_r1 ++ (wsX4_carry_r2 ++ wsX4_carry_r3)) ++ wsX40 ++ wsX20 ++ wsX00)
def wsX4_block_r1 : List Cond := [Cond.fieldLink RX4 12 "PointerSweep" "now" "LPointerSweep$State;", Cond.fieldLink RX4 43 "PointerSweep$State" "registers" "[J", Cond.fieldLink RX4 19 "PointerSweep" "history" "LPointerSweep$History;", Cond.methodLink RX4 27 yX4_isRegister, Cond.static yX4_isRegister, Cond.initialized RX4, Cond.code yX4_isRegister cX4_isRegister 1 (some .boolean), Cond.methodLink RX4 86 yX4_faultOf, Cond.static yX4_faultOf, Cond.code yX4_faultOf cX4_faultOf 5 (some .int), Cond.methodLink RX4 52 yX3_isPointer, Cond.static yX3_isPointer, Cond.initialized RX3, Cond.code yX3_isPointer cX3_isPointer 2 (some .boolean), Cond.methodLink RX4 79 yX3_rights, Cond.static yX3_rights, Cond.code yX3_rights cX3_rights 2 (some .int), Cond.methodLink RX4 82 yX3_covers, Cond.static yX3_covers, Cond.code yX3_covers cX3_covers 6 (some .boolean), Cond.methodLink RX3 19 yX3_at, Cond.static yX3_at, Cond.code yX3_at cX3_at 2 (some .int), Cond.methodLink RX3 23 yX3_from]
def wsX4_block_r2 : List Cond := [Cond.static yX3_from, Cond.code yX3_from cX3_from 2 (some .int), Cond.methodLink RX3 26 yX3_to, Cond.static yX3_to, Cond.code yX3_to cX3_to 2 (some .int), Cond.methodLink RX4 35 yX1_keep, Cond.instanceMethod yX1_keep, Cond.selects RX1 yX1_keep yX1_keep, Cond.initialized RX1, Cond.code yX1_keep cX1_keep 2 none, Cond.fieldLink RX1 11 "PointerSweep$History" "kept" "[LPointerSweep$State;", Cond.fieldLink RX1 17 "PointerSweep$History" "next" "I", Cond.fieldLink RX1 21 "PointerSweep$History" "size" "I", Cond.methodLink RX1 29 Lib.Math.min.name, Cond.static Lib.Math.min.name, Cond.initialized "java/lang/Math", Cond.code Lib.Math.min.name Lib.Math.min.code 2 (some .int), Cond.methodLink RX1 25 yX2_become, Cond.instanceMethod yX2_become, Cond.selects RX2 yX2_become yX2_become, Cond.initialized RX2, Cond.code yX2_become cX2_become 2 none, Cond.fieldLink RX2 9 "PointerSweep$State" "cells" "[J", Cond.methodLink RX2 49 arraycopyName]
def wsX4_block_r3 : List Cond := [Cond.native arraycopyName, Cond.static arraycopyName, Cond.initialized "java/lang/System", Cond.fieldLink RX2 15 "PointerSweep$State" "registers" "[J", Cond.fieldLink RX2 18 "PointerSweep$State" "tallies" "[I", Cond.fieldLink RX2 25 "PointerSweep$State" "given" "LPointerSweep$CellMap;", Cond.fieldLink RX2 29 "PointerSweep$State" "quarantined" "LPointerSweep$CellMap;", Cond.fieldLink RX2 32 "PointerSweep$State" "doomed" "LPointerSweep$CellMap;", Cond.fieldLink RX2 35 "PointerSweep$State" "firsts" "LPointerSweep$CellMap;", Cond.fieldLink RX2 38 "PointerSweep$State" "sweeping" "Z", Cond.fieldLink RX2 42 "PointerSweep$State" "seenPages" "I", Cond.fieldLink RX2 46 "PointerSweep$State" "dirtyPages" "I", Cond.methodLink RX2 55 yX0_become, Cond.instanceMethod yX0_become, Cond.selects RX0 yX0_become yX0_become, Cond.initialized RX0, Cond.code yX0_become cX0_become 2 none, Cond.fieldLink RX0 11 "PointerSweep$CellMap" "rows" "[J", Cond.methodLink RX0 21 arraycopyName, Cond.methodLink RX4 76 yX3_at, Cond.methodLink RX4 101 yX4_carry, Cond.instanceMethod yX4_carry, Cond.selects RX4 yX4_carry yX4_carry, Cond.code yX4_carry cX4_carry 5 none]
def wsX4_block_r4 : List Cond := [Cond.fieldLink RX4 23 "PointerSweep" "carried" "[J", Cond.methodLink RX4 90 yX2_lookUp, Cond.instanceMethod yX2_lookUp, Cond.selects RX2 yX2_lookUp yX2_lookUp, Cond.code yX2_lookUp cX2_lookUp 4 (some .long), Cond.methodLink RX2 102 yX2_isStale, Cond.instanceMethod yX2_isStale, Cond.selects RX2 yX2_isStale yX2_isStale, Cond.code yX2_isStale cX2_isStale 3 (some .boolean), Cond.methodLink RX2 83 yX3_isPointer, Cond.methodLink RX2 91 yX3_from, Cond.methodLink RX2 95 yX3_to, Cond.methodLink RX2 98 yX0_sizeWithin, Cond.instanceMethod yX0_sizeWithin, Cond.selects RX0 yX0_sizeWithin yX0_sizeWithin, Cond.code yX0_sizeWithin cX0_sizeWithin 6 (some .int), Cond.constantLong RX0 19 (-1), Cond.methodLink RX0 31 yX0_bitsBelow, Cond.static yX0_bitsBelow, Cond.code yX0_bitsBelow cX0_bitsBelow 1 (some .long), Cond.methodLink RX0 35 yJ13_bitCount_95d88, Cond.static yJ13_bitCount_95d88, Cond.initialized RJ13, Cond.code yJ13_bitCount_95d88 cJ13_bitCount_95d88 2 (some .int)]
def wsX4_block_r5 : List Cond := [Cond.constantLong RJ13 314 (6148914691236517205), Cond.constantLong RJ13 316 (3689348814741910323), Cond.constantLong RJ13 318 (1085102592571150095), Cond.methodLink RX2 105 yX3_at, Cond.methodLink RX2 71 yX3_ofNumber, Cond.static yX3_ofNumber, Cond.code yX3_ofNumber cX3_ofNumber 1 (some .long), Cond.constantLong RX3 11 (4294967295), Cond.methodLink RX4 97 yX2_layDown, Cond.instanceMethod yX2_layDown, Cond.selects RX2 yX2_layDown yX2_layDown, Cond.code yX2_layDown cX2_layDown 5 none, Cond.methodLink RX2 108 yX2_isSeen, Cond.instanceMethod yX2_isSeen, Cond.selects RX2 yX2_isSeen yX2_isSeen, Cond.code yX2_isSeen cX2_isSeen 2 (some .boolean)]
def wsX4_block : List Cond := .code yX4_block cX4_block 11 (some .int) :: ((wsX4_block_r1 ++ (wsX4_block_r2 ++ (wsX4_block_r3 ++ (wsX4_block_r4 ++ wsX4_block_r5)))) ++ wsX40 ++ wsX20 ++ wsX10 ++ wsX00)
def wsX4_sweep_r1 : List Cond := [Cond.fieldLink RX4 12 "PointerSweep" "now" "LPointerSweep$State;", Cond.fieldLink RX4 105 "PointerSweep$State" "sweeping" "Z", Cond.fieldLink RX4 19 "PointerSweep" "history" "LPointerSweep$History;", Cond.methodLink RX4 35 yX1_keep, Cond.instanceMethod yX1_keep, Cond.selects RX1 yX1_keep yX1_keep, Cond.initialized RX1, Cond.code yX1_keep cX1_keep 2 none, Cond.fieldLink RX1 11 "PointerSweep$History" "kept" "[LPointerSweep$State;", Cond.fieldLink RX1 17 "PointerSweep$History" "next" "I", Cond.fieldLink RX1 21 "PointerSweep$History" "size" "I", Cond.methodLink RX1 29 Lib.Math.min.name, Cond.static Lib.Math.min.name, Cond.initialized "java/lang/Math", Cond.code Lib.Math.min.name Lib.Math.min.code 2 (some .int), Cond.methodLink RX1 25 yX2_become, Cond.instanceMethod yX2_become, Cond.selects RX2 yX2_become yX2_become, Cond.initialized RX2, Cond.code yX2_become cX2_become 2 none, Cond.fieldLink RX2 9 "PointerSweep$State" "cells" "[J", Cond.methodLink RX2 49 arraycopyName, Cond.native arraycopyName, Cond.static arraycopyName]
def wsX4_sweep_r2 : List Cond := [Cond.initialized "java/lang/System", Cond.fieldLink RX2 15 "PointerSweep$State" "registers" "[J", Cond.fieldLink RX2 18 "PointerSweep$State" "tallies" "[I", Cond.fieldLink RX2 25 "PointerSweep$State" "given" "LPointerSweep$CellMap;", Cond.fieldLink RX2 29 "PointerSweep$State" "quarantined" "LPointerSweep$CellMap;", Cond.fieldLink RX2 32 "PointerSweep$State" "doomed" "LPointerSweep$CellMap;", Cond.fieldLink RX2 35 "PointerSweep$State" "firsts" "LPointerSweep$CellMap;", Cond.fieldLink RX2 38 "PointerSweep$State" "sweeping" "Z", Cond.fieldLink RX2 42 "PointerSweep$State" "seenPages" "I", Cond.fieldLink RX2 46 "PointerSweep$State" "dirtyPages" "I", Cond.methodLink RX2 55 yX0_become, Cond.instanceMethod yX0_become, Cond.selects RX0 yX0_become yX0_become, Cond.initialized RX0, Cond.code yX0_become cX0_become 2 none, Cond.fieldLink RX0 11 "PointerSweep$CellMap" "rows" "[J", Cond.methodLink RX0 21 arraycopyName, Cond.methodLink RX4 109 yX2_beginSweep, Cond.instanceMethod yX2_beginSweep, Cond.selects RX2 yX2_beginSweep yX2_beginSweep, Cond.code yX2_beginSweep cX2_beginSweep 1 (some .int), Cond.methodLink RX2 111 yX0_size, Cond.instanceMethod yX0_size, Cond.selects RX0 yX0_size yX0_size]
def wsX4_sweep_r3 : List Cond := [Cond.code yX0_size cX0_size 1 (some .int), Cond.methodLink RX0 27 yX0_sizeWithin, Cond.instanceMethod yX0_sizeWithin, Cond.selects RX0 yX0_sizeWithin yX0_sizeWithin, Cond.code yX0_sizeWithin cX0_sizeWithin 6 (some .int), Cond.constantLong RX0 19 (-1), Cond.methodLink RX0 31 yX0_bitsBelow, Cond.static yX0_bitsBelow, Cond.code yX0_bitsBelow cX0_bitsBelow 1 (some .long), Cond.methodLink RX0 35 yJ13_bitCount_95d88, Cond.static yJ13_bitCount_95d88, Cond.initialized RJ13, Cond.code yJ13_bitCount_95d88 cJ13_bitCount_95d88 2 (some .int), Cond.constantLong RJ13 314 (6148914691236517205), Cond.constantLong RJ13 316 (3689348814741910323), Cond.constantLong RJ13 318 (1085102592571150095)]
def wsX4_sweep : List Cond := .code yX4_sweep cX4_sweep 1 (some .int) :: ((wsX4_sweep_r1 ++ (wsX4_sweep_r2 ++ wsX4_sweep_r3)) ++ wsX40 ++ wsX20 ++ wsX10 ++ wsX00)
def wsX4_step_r1 : List Cond := [Cond.fieldLink RX4 12 "PointerSweep" "now" "LPointerSweep$State;", Cond.fieldLink RX4 105 "PointerSweep$State" "sweeping" "Z", Cond.fieldLink RX4 19 "PointerSweep" "history" "LPointerSweep$History;", Cond.methodLink RX4 35 yX1_keep, Cond.instanceMethod yX1_keep, Cond.selects RX1 yX1_keep yX1_keep, Cond.initialized RX1, Cond.code yX1_keep cX1_keep 2 none, Cond.fieldLink RX1 11 "PointerSweep$History" "kept" "[LPointerSweep$State;", Cond.fieldLink RX1 17 "PointerSweep$History" "next" "I", Cond.fieldLink RX1 21 "PointerSweep$History" "size" "I", Cond.methodLink RX1 29 Lib.Math.min.name, Cond.static Lib.Math.min.name, Cond.initialized "java/lang/Math", Cond.code Lib.Math.min.name Lib.Math.min.code 2 (some .int), Cond.methodLink RX1 25 yX2_become, Cond.instanceMethod yX2_become, Cond.selects RX2 yX2_become yX2_become, Cond.initialized RX2, Cond.code yX2_become cX2_become 2 none, Cond.fieldLink RX2 9 "PointerSweep$State" "cells" "[J", Cond.methodLink RX2 49 arraycopyName, Cond.native arraycopyName, Cond.static arraycopyName]
def wsX4_step_r2 : List Cond := [Cond.initialized "java/lang/System", Cond.fieldLink RX2 15 "PointerSweep$State" "registers" "[J", Cond.fieldLink RX2 18 "PointerSweep$State" "tallies" "[I", Cond.fieldLink RX2 25 "PointerSweep$State" "given" "LPointerSweep$CellMap;", Cond.fieldLink RX2 29 "PointerSweep$State" "quarantined" "LPointerSweep$CellMap;", Cond.fieldLink RX2 32 "PointerSweep$State" "doomed" "LPointerSweep$CellMap;", Cond.fieldLink RX2 35 "PointerSweep$State" "firsts" "LPointerSweep$CellMap;", Cond.fieldLink RX2 38 "PointerSweep$State" "sweeping" "Z", Cond.fieldLink RX2 42 "PointerSweep$State" "seenPages" "I", Cond.fieldLink RX2 46 "PointerSweep$State" "dirtyPages" "I", Cond.methodLink RX2 55 yX0_become, Cond.instanceMethod yX0_become, Cond.selects RX0 yX0_become yX0_become, Cond.initialized RX0, Cond.code yX0_become cX0_become 2 none, Cond.fieldLink RX0 11 "PointerSweep$CellMap" "rows" "[J", Cond.methodLink RX0 21 arraycopyName, Cond.methodLink RX4 113 yX2_lookAtNextPages, Cond.instanceMethod yX2_lookAtNextPages, Cond.selects RX2 yX2_lookAtNextPages yX2_lookAtNextPages, Cond.code yX2_lookAtNextPages cX2_lookAtNextPages 5 (some .int), Cond.methodLink RX2 115 Lib.Math.min.name, Cond.methodLink RX2 120 yX2_cleanPage, Cond.instanceMethod yX2_cleanPage]
def wsX4_step_r3 : List Cond := [Cond.selects RX2 yX2_cleanPage yX2_cleanPage, Cond.code yX2_cleanPage cX2_cleanPage 3 (some .int), Cond.methodLink RX2 126 yX2_clean, Cond.instanceMethod yX2_clean, Cond.selects RX2 yX2_clean yX2_clean, Cond.code yX2_clean cX2_clean 6 (some .int), Cond.methodLink RX2 102 yX2_isStale, Cond.instanceMethod yX2_isStale, Cond.selects RX2 yX2_isStale yX2_isStale, Cond.code yX2_isStale cX2_isStale 3 (some .boolean), Cond.methodLink RX2 83 yX3_isPointer, Cond.static yX3_isPointer, Cond.initialized RX3, Cond.code yX3_isPointer cX3_isPointer 2 (some .boolean), Cond.methodLink RX2 91 yX3_from, Cond.static yX3_from, Cond.code yX3_from cX3_from 2 (some .int), Cond.methodLink RX2 95 yX3_to, Cond.static yX3_to, Cond.code yX3_to cX3_to 2 (some .int), Cond.methodLink RX2 98 yX0_sizeWithin, Cond.instanceMethod yX0_sizeWithin, Cond.selects RX0 yX0_sizeWithin yX0_sizeWithin, Cond.code yX0_sizeWithin cX0_sizeWithin 6 (some .int)]
def wsX4_step_r4 : List Cond := [Cond.constantLong RX0 19 (-1), Cond.methodLink RX0 31 yX0_bitsBelow, Cond.static yX0_bitsBelow, Cond.code yX0_bitsBelow cX0_bitsBelow 1 (some .long), Cond.methodLink RX0 35 yJ13_bitCount_95d88, Cond.static yJ13_bitCount_95d88, Cond.initialized RJ13, Cond.code yJ13_bitCount_95d88 cJ13_bitCount_95d88 2 (some .int), Cond.constantLong RJ13 314 (6148914691236517205), Cond.constantLong RJ13 316 (3689348814741910323), Cond.constantLong RJ13 318 (1085102592571150095), Cond.methodLink RX2 105 yX3_at, Cond.static yX3_at, Cond.code yX3_at cX3_at 2 (some .int), Cond.methodLink RX2 71 yX3_ofNumber, Cond.static yX3_ofNumber, Cond.code yX3_ofNumber cX3_ofNumber 1 (some .long), Cond.constantLong RX3 11 (4294967295)]
def wsX4_step : List Cond := .code yX4_step cX4_step 2 (some .int) :: ((wsX4_step_r1 ++ (wsX4_step_r2 ++ (wsX4_step_r3 ++ wsX4_step_r4))) ++ wsX40 ++ wsX20 ++ wsX10 ++ wsX00)
def wsX4_end_r1 : List Cond := [Cond.fieldLink RX4 12 "PointerSweep" "now" "LPointerSweep$State;", Cond.fieldLink RX4 105 "PointerSweep$State" "sweeping" "Z", Cond.fieldLink RX4 116 "PointerSweep$State" "seenPages" "I", Cond.fieldLink RX4 19 "PointerSweep" "history" "LPointerSweep$History;", Cond.methodLink RX4 35 yX1_keep, Cond.instanceMethod yX1_keep, Cond.selects RX1 yX1_keep yX1_keep, Cond.initialized RX1, Cond.code yX1_keep cX1_keep 2 none, Cond.fieldLink RX1 11 "PointerSweep$History" "kept" "[LPointerSweep$State;", Cond.fieldLink RX1 17 "PointerSweep$History" "next" "I", Cond.fieldLink RX1 21 "PointerSweep$History" "size" "I", Cond.methodLink RX1 29 Lib.Math.min.name, Cond.static Lib.Math.min.name, Cond.initialized "java/lang/Math", Cond.code Lib.Math.min.name Lib.Math.min.code 2 (some .int), Cond.methodLink RX1 25 yX2_become, Cond.instanceMethod yX2_become, Cond.selects RX2 yX2_become yX2_become, Cond.initialized RX2, Cond.code yX2_become cX2_become 2 none, Cond.fieldLink RX2 9 "PointerSweep$State" "cells" "[J", Cond.methodLink RX2 49 arraycopyName, Cond.native arraycopyName]
def wsX4_end_r2 : List Cond := [Cond.static arraycopyName, Cond.initialized "java/lang/System", Cond.fieldLink RX2 15 "PointerSweep$State" "registers" "[J", Cond.fieldLink RX2 18 "PointerSweep$State" "tallies" "[I", Cond.fieldLink RX2 25 "PointerSweep$State" "given" "LPointerSweep$CellMap;", Cond.fieldLink RX2 29 "PointerSweep$State" "quarantined" "LPointerSweep$CellMap;", Cond.fieldLink RX2 32 "PointerSweep$State" "doomed" "LPointerSweep$CellMap;", Cond.fieldLink RX2 35 "PointerSweep$State" "firsts" "LPointerSweep$CellMap;", Cond.fieldLink RX2 38 "PointerSweep$State" "sweeping" "Z", Cond.fieldLink RX2 42 "PointerSweep$State" "seenPages" "I", Cond.fieldLink RX2 46 "PointerSweep$State" "dirtyPages" "I", Cond.methodLink RX2 55 yX0_become, Cond.instanceMethod yX0_become, Cond.selects RX0 yX0_become yX0_become, Cond.initialized RX0, Cond.code yX0_become cX0_become 2 none, Cond.fieldLink RX0 11 "PointerSweep$CellMap" "rows" "[J", Cond.methodLink RX0 21 arraycopyName, Cond.methodLink RX4 120 yX2_finishSweep, Cond.instanceMethod yX2_finishSweep, Cond.selects RX2 yX2_finishSweep yX2_finishSweep, Cond.code yX2_finishSweep cX2_finishSweep 2 (some .int), Cond.methodLink RX2 123 yX2_isDirty, Cond.instanceMethod yX2_isDirty]
def wsX4_end_r3 : List Cond := [Cond.selects RX2 yX2_isDirty yX2_isDirty, Cond.code yX2_isDirty cX2_isDirty 2 (some .boolean), Cond.methodLink RX2 120 yX2_cleanPage, Cond.instanceMethod yX2_cleanPage, Cond.selects RX2 yX2_cleanPage yX2_cleanPage, Cond.code yX2_cleanPage cX2_cleanPage 3 (some .int), Cond.methodLink RX2 126 yX2_clean, Cond.instanceMethod yX2_clean, Cond.selects RX2 yX2_clean yX2_clean, Cond.code yX2_clean cX2_clean 6 (some .int), Cond.methodLink RX2 102 yX2_isStale, Cond.instanceMethod yX2_isStale, Cond.selects RX2 yX2_isStale yX2_isStale, Cond.code yX2_isStale cX2_isStale 3 (some .boolean), Cond.methodLink RX2 83 yX3_isPointer, Cond.static yX3_isPointer, Cond.initialized RX3, Cond.code yX3_isPointer cX3_isPointer 2 (some .boolean), Cond.methodLink RX2 91 yX3_from, Cond.static yX3_from, Cond.code yX3_from cX3_from 2 (some .int), Cond.methodLink RX2 95 yX3_to, Cond.static yX3_to, Cond.code yX3_to cX3_to 2 (some .int)]
def wsX4_end_r4 : List Cond := [Cond.methodLink RX2 98 yX0_sizeWithin, Cond.instanceMethod yX0_sizeWithin, Cond.selects RX0 yX0_sizeWithin yX0_sizeWithin, Cond.code yX0_sizeWithin cX0_sizeWithin 6 (some .int), Cond.constantLong RX0 19 (-1), Cond.methodLink RX0 31 yX0_bitsBelow, Cond.static yX0_bitsBelow, Cond.code yX0_bitsBelow cX0_bitsBelow 1 (some .long), Cond.methodLink RX0 35 yJ13_bitCount_95d88, Cond.static yJ13_bitCount_95d88, Cond.initialized RJ13, Cond.code yJ13_bitCount_95d88 cJ13_bitCount_95d88 2 (some .int), Cond.constantLong RJ13 314 (6148914691236517205), Cond.constantLong RJ13 316 (3689348814741910323), Cond.constantLong RJ13 318 (1085102592571150095), Cond.methodLink RX2 105 yX3_at, Cond.static yX3_at, Cond.code yX3_at cX3_at 2 (some .int), Cond.methodLink RX2 71 yX3_ofNumber, Cond.static yX3_ofNumber, Cond.code yX3_ofNumber cX3_ofNumber 1 (some .long), Cond.constantLong RX3 11 (4294967295), Cond.methodLink RX2 111 yX0_size, Cond.instanceMethod yX0_size]
def wsX4_end_r5 : List Cond := [Cond.selects RX0 yX0_size yX0_size, Cond.code yX0_size cX0_size 1 (some .int), Cond.methodLink RX0 27 yX0_sizeWithin, Cond.methodLink RX2 130 yX0_dropAllOf, Cond.instanceMethod yX0_dropAllOf, Cond.selects RX0 yX0_dropAllOf yX0_dropAllOf, Cond.code yX0_dropAllOf cX0_dropAllOf 3 none]
def wsX4_end : List Cond := .code yX4_end cX4_end 1 (some .int) :: ((wsX4_end_r1 ++ (wsX4_end_r2 ++ (wsX4_end_r3 ++ (wsX4_end_r4 ++ wsX4_end_r5)))) ++ wsX40 ++ wsX20 ++ wsX10 ++ wsX00)
def wsX4_toldOf_r1 : List Cond := [Cond.fieldLink RX4 12 "PointerSweep" "now" "LPointerSweep$State;", Cond.constant RX4 74 (-1000000001), Cond.methodLink RX4 52 yX3_isPointer, Cond.static yX3_isPointer, Cond.initialized RX3, Cond.code yX3_isPointer cX3_isPointer 2 (some .boolean), Cond.methodLink RX4 93 yX4_oneIf, Cond.static yX4_oneIf, Cond.initialized RX4, Cond.code yX4_oneIf cX4_oneIf 1 (some .int), Cond.methodLink RX4 76 yX3_at, Cond.static yX3_at, Cond.code yX3_at cX3_at 2 (some .int), Cond.methodLink RX4 56 yX3_from, Cond.static yX3_from, Cond.code yX3_from cX3_from 2 (some .int), Cond.methodLink RX4 60 yX3_to, Cond.static yX3_to, Cond.code yX3_to cX3_to 2 (some .int), Cond.methodLink RX4 79 yX3_rights, Cond.static yX3_rights, Cond.code yX3_rights cX3_rights 2 (some .int), Cond.methodLink RX4 185 yX2_isStale, Cond.instanceMethod yX2_isStale]
def wsX4_toldOf_r2 : List Cond := [Cond.selects RX2 yX2_isStale yX2_isStale, Cond.initialized RX2, Cond.code yX2_isStale cX2_isStale 3 (some .boolean), Cond.fieldLink RX2 32 "PointerSweep$State" "doomed" "LPointerSweep$CellMap;", Cond.methodLink RX2 83 yX3_isPointer, Cond.methodLink RX2 91 yX3_from, Cond.methodLink RX2 95 yX3_to, Cond.methodLink RX2 98 yX0_sizeWithin, Cond.instanceMethod yX0_sizeWithin, Cond.selects RX0 yX0_sizeWithin yX0_sizeWithin, Cond.initialized RX0, Cond.code yX0_sizeWithin cX0_sizeWithin 6 (some .int), Cond.fieldLink RX0 11 "PointerSweep$CellMap" "rows" "[J", Cond.constantLong RX0 19 (-1), Cond.methodLink RX0 31 yX0_bitsBelow, Cond.static yX0_bitsBelow, Cond.code yX0_bitsBelow cX0_bitsBelow 1 (some .long), Cond.methodLink RX0 35 yJ13_bitCount_95d88, Cond.static yJ13_bitCount_95d88, Cond.initialized RJ13, Cond.code yJ13_bitCount_95d88 cJ13_bitCount_95d88 2 (some .int), Cond.constantLong RJ13 314 (6148914691236517205), Cond.constantLong RJ13 316 (3689348814741910323), Cond.constantLong RJ13 318 (1085102592571150095)]
def wsX4_toldOf : List Cond := .code yX4_toldOf cX4_toldOf 5 (some .int) :: ((wsX4_toldOf_r1 ++ wsX4_toldOf_r2) ++ wsX40 ++ wsX20 ++ wsX00)
def wsX4_told_r1 : List Cond := [Cond.fieldLink RX4 12 "PointerSweep" "now" "LPointerSweep$State;", Cond.fieldLink RX4 43 "PointerSweep$State" "registers" "[J", Cond.fieldLink RX4 130 "PointerSweep$State" "cells" "[J", Cond.constant RX4 74 (-1000000001), Cond.methodLink RX4 27 yX4_isRegister, Cond.static yX4_isRegister, Cond.initialized RX4, Cond.code yX4_isRegister cX4_isRegister 1 (some .boolean), Cond.methodLink RX4 123 yX4_toldOf, Cond.instanceMethod yX4_toldOf, Cond.selects RX4 yX4_toldOf yX4_toldOf, Cond.code yX4_toldOf cX4_toldOf 5 (some .int), Cond.methodLink RX4 52 yX3_isPointer, Cond.static yX3_isPointer, Cond.initialized RX3, Cond.code yX3_isPointer cX3_isPointer 2 (some .boolean), Cond.methodLink RX4 93 yX4_oneIf, Cond.static yX4_oneIf, Cond.code yX4_oneIf cX4_oneIf 1 (some .int), Cond.methodLink RX4 76 yX3_at, Cond.static yX3_at, Cond.code yX3_at cX3_at 2 (some .int), Cond.methodLink RX4 56 yX3_from, Cond.static yX3_from]
def wsX4_told_r2 : List Cond := [Cond.code yX3_from cX3_from 2 (some .int), Cond.methodLink RX4 60 yX3_to, Cond.static yX3_to, Cond.code yX3_to cX3_to 2 (some .int), Cond.methodLink RX4 79 yX3_rights, Cond.static yX3_rights, Cond.code yX3_rights cX3_rights 2 (some .int), Cond.methodLink RX4 185 yX2_isStale, Cond.instanceMethod yX2_isStale, Cond.selects RX2 yX2_isStale yX2_isStale, Cond.initialized RX2, Cond.code yX2_isStale cX2_isStale 3 (some .boolean), Cond.fieldLink RX2 32 "PointerSweep$State" "doomed" "LPointerSweep$CellMap;", Cond.methodLink RX2 83 yX3_isPointer, Cond.methodLink RX2 91 yX3_from, Cond.methodLink RX2 95 yX3_to, Cond.methodLink RX2 98 yX0_sizeWithin, Cond.instanceMethod yX0_sizeWithin, Cond.selects RX0 yX0_sizeWithin yX0_sizeWithin, Cond.initialized RX0, Cond.code yX0_sizeWithin cX0_sizeWithin 6 (some .int), Cond.fieldLink RX0 11 "PointerSweep$CellMap" "rows" "[J", Cond.constantLong RX0 19 (-1), Cond.methodLink RX0 31 yX0_bitsBelow]
def wsX4_told_r3 : List Cond := [Cond.static yX0_bitsBelow, Cond.code yX0_bitsBelow cX0_bitsBelow 1 (some .long), Cond.methodLink RX0 35 yJ13_bitCount_95d88, Cond.static yJ13_bitCount_95d88, Cond.initialized RJ13, Cond.code yJ13_bitCount_95d88 cJ13_bitCount_95d88 2 (some .int), Cond.constantLong RJ13 314 (6148914691236517205), Cond.constantLong RJ13 316 (3689348814741910323), Cond.constantLong RJ13 318 (1085102592571150095), Cond.methodLink RX4 127 yX4_isCell, Cond.static yX4_isCell, Cond.code yX4_isCell cX4_isCell 1 (some .boolean), Cond.methodLink RX4 133 yX2_useOf, Cond.instanceMethod yX2_useOf, Cond.selects RX2 yX2_useOf yX2_useOf, Cond.code yX2_useOf cX2_useOf 2 (some .int), Cond.fieldLink RX2 25 "PointerSweep$State" "given" "LPointerSweep$CellMap;", Cond.fieldLink RX2 29 "PointerSweep$State" "quarantined" "LPointerSweep$CellMap;", Cond.methodLink RX2 59 yX0_has, Cond.instanceMethod yX0_has, Cond.selects RX0 yX0_has yX0_has, Cond.code yX0_has cX0_has 2 (some .boolean)]
def wsX4_told : List Cond := .code yX4_told cX4_told 4 (some .int) :: ((wsX4_told_r1 ++ (wsX4_told_r2 ++ wsX4_told_r3)) ++ wsX40 ++ wsX20 ++ wsX00)
def wsX4_page_r1 : List Cond := [Cond.fieldLink RX4 12 "PointerSweep" "now" "LPointerSweep$State;", Cond.fieldLink RX4 146 "PointerSweep$State" "given" "LPointerSweep$CellMap;", Cond.fieldLink RX4 155 "PointerSweep$State" "quarantined" "LPointerSweep$CellMap;", Cond.methodLink RX4 136 yX2_isSeen, Cond.instanceMethod yX2_isSeen, Cond.selects RX2 yX2_isSeen yX2_isSeen, Cond.initialized RX2, Cond.code yX2_isSeen cX2_isSeen 2 (some .boolean), Cond.fieldLink RX2 42 "PointerSweep$State" "seenPages" "I", Cond.methodLink RX4 93 yX4_oneIf, Cond.static yX4_oneIf, Cond.initialized RX4, Cond.code yX4_oneIf cX4_oneIf 1 (some .int), Cond.methodLink RX4 139 yX2_isDirty, Cond.instanceMethod yX2_isDirty, Cond.selects RX2 yX2_isDirty yX2_isDirty, Cond.code yX2_isDirty cX2_isDirty 2 (some .boolean), Cond.fieldLink RX2 46 "PointerSweep$State" "dirtyPages" "I", Cond.methodLink RX4 142 yX2_pointersIn, Cond.instanceMethod yX2_pointersIn, Cond.selects RX2 yX2_pointersIn yX2_pointersIn, Cond.code yX2_pointersIn cX2_pointersIn 5 (some .int), Cond.fieldLink RX2 9 "PointerSweep$State" "cells" "[J", Cond.methodLink RX2 83 yX3_isPointer]
def wsX4_page_r2 : List Cond := [Cond.static yX3_isPointer, Cond.initialized RX3, Cond.code yX3_isPointer cX3_isPointer 2 (some .boolean), Cond.methodLink RX4 150 yX0_sizeWithin, Cond.instanceMethod yX0_sizeWithin, Cond.selects RX0 yX0_sizeWithin yX0_sizeWithin, Cond.initialized RX0, Cond.code yX0_sizeWithin cX0_sizeWithin 6 (some .int), Cond.fieldLink RX0 11 "PointerSweep$CellMap" "rows" "[J", Cond.constantLong RX0 19 (-1), Cond.methodLink RX0 31 yX0_bitsBelow, Cond.static yX0_bitsBelow, Cond.code yX0_bitsBelow cX0_bitsBelow 1 (some .long), Cond.methodLink RX0 35 yJ13_bitCount_95d88, Cond.static yJ13_bitCount_95d88, Cond.initialized RJ13, Cond.code yJ13_bitCount_95d88 cJ13_bitCount_95d88 2 (some .int), Cond.constantLong RJ13 314 (6148914691236517205), Cond.constantLong RJ13 316 (3689348814741910323), Cond.constantLong RJ13 318 (1085102592571150095)]
def wsX4_page : List Cond := .code yX4_page cX4_page 5 (some .int) :: ((wsX4_page_r1 ++ wsX4_page_r2) ++ wsX40 ++ wsX20 ++ wsX00)
def wsX4_range : List Cond := .code yX4_range cX4_range 4 (some .int) :: ([.fieldLink RX4 12 "PointerSweep" "now" "LPointerSweep$State;", .fieldLink RX4 146 "PointerSweep$State" "given" "LPointerSweep$CellMap;", .methodLink RX4 127 yX4_isCell, .static yX4_isCell, .initialized RX4, .code yX4_isCell cX4_isCell 1 (some .boolean), .methodLink RX4 158 yX0_has, .instanceMethod yX0_has, .selects RX0 yX0_has yX0_has, .initialized RX0, .code yX0_has cX0_has 2 (some .boolean), .fieldLink RX0 11 "PointerSweep$CellMap" "rows" "[J", .methodLink RX4 161 yX2_rangeFrom, .instanceMethod yX2_rangeFrom, .selects RX2 yX2_rangeFrom yX2_rangeFrom, .initialized RX2, .code yX2_rangeFrom cX2_rangeFrom 3 (some .int), .fieldLink RX2 35 "PointerSweep$State" "firsts" "LPointerSweep$CellMap;", .methodLink RX2 59 yX0_has, .methodLink RX4 164 yX2_rangeTo, .instanceMethod yX2_rangeTo, .selects RX2 yX2_rangeTo yX2_rangeTo, .code yX2_rangeTo cX2_rangeTo 3 (some .int), .fieldLink RX2 25 "PointerSweep$State" "given" "LPointerSweep$CellMap;"] ++ wsX40 ++ wsX20 ++ wsX00)
def wsX4_undo_r1 : List Cond := [Cond.fieldLink RX4 19 "PointerSweep" "history" "LPointerSweep$History;", Cond.fieldLink RX4 167 "PointerSweep$History" "size" "I", Cond.fieldLink RX4 12 "PointerSweep" "now" "LPointerSweep$State;", Cond.methodLink RX4 170 yX1_takeBack, Cond.instanceMethod yX1_takeBack, Cond.selects RX1 yX1_takeBack yX1_takeBack, Cond.initialized RX1, Cond.code yX1_takeBack cX1_takeBack 2 none, Cond.fieldLink RX1 21 "PointerSweep$History" "size" "I", Cond.fieldLink RX1 17 "PointerSweep$History" "next" "I", Cond.fieldLink RX1 11 "PointerSweep$History" "kept" "[LPointerSweep$State;", Cond.methodLink RX1 25 yX2_become, Cond.instanceMethod yX2_become, Cond.selects RX2 yX2_become yX2_become, Cond.initialized RX2, Cond.code yX2_become cX2_become 2 none, Cond.fieldLink RX2 9 "PointerSweep$State" "cells" "[J", Cond.methodLink RX2 49 arraycopyName, Cond.native arraycopyName, Cond.static arraycopyName, Cond.initialized "java/lang/System", Cond.fieldLink RX2 15 "PointerSweep$State" "registers" "[J", Cond.fieldLink RX2 18 "PointerSweep$State" "tallies" "[I", Cond.fieldLink RX2 25 "PointerSweep$State" "given" "LPointerSweep$CellMap;"]
def wsX4_undo_r2 : List Cond := [Cond.fieldLink RX2 29 "PointerSweep$State" "quarantined" "LPointerSweep$CellMap;", Cond.fieldLink RX2 32 "PointerSweep$State" "doomed" "LPointerSweep$CellMap;", Cond.fieldLink RX2 35 "PointerSweep$State" "firsts" "LPointerSweep$CellMap;", Cond.fieldLink RX2 38 "PointerSweep$State" "sweeping" "Z", Cond.fieldLink RX2 42 "PointerSweep$State" "seenPages" "I", Cond.fieldLink RX2 46 "PointerSweep$State" "dirtyPages" "I", Cond.methodLink RX2 55 yX0_become, Cond.instanceMethod yX0_become, Cond.selects RX0 yX0_become yX0_become, Cond.initialized RX0, Cond.code yX0_become cX0_become 2 none, Cond.fieldLink RX0 11 "PointerSweep$CellMap" "rows" "[J", Cond.methodLink RX0 21 arraycopyName]
def wsX4_undo : List Cond := .code yX4_undo cX4_undo 1 (some .int) :: ((wsX4_undo_r1 ++ wsX4_undo_r2) ++ wsX40 ++ wsX10 ++ wsX20 ++ wsX00)
def wsX4_count_r1 : List Cond := [Cond.fieldLink RX4 12 "PointerSweep" "now" "LPointerSweep$State;", Cond.fieldLink RX4 173 "PointerSweep$State" "tallies" "[I", Cond.fieldLink RX4 146 "PointerSweep$State" "given" "LPointerSweep$CellMap;", Cond.fieldLink RX4 155 "PointerSweep$State" "quarantined" "LPointerSweep$CellMap;", Cond.fieldLink RX4 179 "PointerSweep$State" "doomed" "LPointerSweep$CellMap;", Cond.fieldLink RX4 182 "PointerSweep$State" "firsts" "LPointerSweep$CellMap;", Cond.fieldLink RX4 105 "PointerSweep$State" "sweeping" "Z", Cond.fieldLink RX4 19 "PointerSweep" "history" "LPointerSweep$History;", Cond.fieldLink RX4 167 "PointerSweep$History" "size" "I", Cond.methodLink RX4 177 yX0_size, Cond.instanceMethod yX0_size, Cond.selects RX0 yX0_size yX0_size, Cond.initialized RX0, Cond.code yX0_size cX0_size 1 (some .int), Cond.methodLink RX0 27 yX0_sizeWithin, Cond.instanceMethod yX0_sizeWithin, Cond.selects RX0 yX0_sizeWithin yX0_sizeWithin, Cond.code yX0_sizeWithin cX0_sizeWithin 6 (some .int), Cond.fieldLink RX0 11 "PointerSweep$CellMap" "rows" "[J", Cond.constantLong RX0 19 (-1), Cond.methodLink RX0 31 yX0_bitsBelow, Cond.static yX0_bitsBelow, Cond.code yX0_bitsBelow cX0_bitsBelow 1 (some .long), Cond.methodLink RX0 35 yJ13_bitCount_95d88]
def wsX4_count_r2 : List Cond := [Cond.static yJ13_bitCount_95d88, Cond.initialized RJ13, Cond.code yJ13_bitCount_95d88 cJ13_bitCount_95d88 2 (some .int), Cond.constantLong RJ13 314 (6148914691236517205), Cond.constantLong RJ13 316 (3689348814741910323), Cond.constantLong RJ13 318 (1085102592571150095), Cond.methodLink RX4 93 yX4_oneIf, Cond.static yX4_oneIf, Cond.initialized RX4, Cond.code yX4_oneIf cX4_oneIf 1 (some .int)]
def wsX4_count : List Cond := .code yX4_count cX4_count 4 (some .int) :: ((wsX4_count_r1 ++ wsX4_count_r2) ++ wsX40 ++ wsX20 ++ wsX10 ++ wsX00)
def wsX5_init : List Cond := .code yX5_init cX5_init 2 none :: ([.methodLink RX5 1 objectInit, .instanceMethod objectInit, .code objectInit ⟨#[0xb1]⟩ 1 none, .arrayClass .int, .fieldLink RX5 7 "PointerSweepModel" "st" "[I", .fieldLink RX5 13 "PointerSweepModel" "back" "[I", .constant RX5 16 (51072), .fieldLink RX5 17 "PointerSweepModel" "was" "[I", .fieldLink RX5 20 "PointerSweepModel" "middle" "[I"] ++ wsX50)
def wsX5_in : List Cond := .code yX5_in cX5_in 6 (some .boolean) :: ([])
def wsX5_isRegister : List Cond := .code yX5_isRegister cX5_isRegister 1 (some .boolean) :: ([.constantLong RX5 23 (7), .methodLink RX5 25 yX5_in, .static yX5_in, .initialized RX5, .code yX5_in cX5_in 6 (some .boolean)])
def wsX5_reg : List Cond := .code yX5_reg cX5_reg 1 (some .int) :: ([])
def wsX5_begin : List Cond := .code yX5_begin cX5_begin 2 none :: ([.fieldLink RX5 13 "PointerSweepModel" "back" "[I", .fieldLink RX5 7 "PointerSweepModel" "st" "[I"] ++ wsX50)
def wsX5_keeps : List Cond := .code yX5_keeps cX5_keeps 3 (some .int) :: ([.fieldLink RX5 29 "PointerSweepModel" "kept" "I", .constant RX5 33 (48944), .fieldLink RX5 17 "PointerSweepModel" "was" "[I", .fieldLink RX5 13 "PointerSweepModel" "back" "[I"] ++ wsX50)
def wsX5_undo : List Cond := .code yX5_undo cX5_undo 2 (some .int) :: ([.fieldLink RX5 29 "PointerSweepModel" "kept" "I", .fieldLink RX5 7 "PointerSweepModel" "st" "[I", .fieldLink RX5 17 "PointerSweepModel" "was" "[I"] ++ wsX50)
def wsX5_set : List Cond := .code yX5_set cX5_set 7 none :: ([.fieldLink RX5 7 "PointerSweepModel" "st" "[I"] ++ wsX50)
def wsX5_untag : List Cond := .code yX5_untag cX5_untag 3 none :: ([.fieldLink RX5 7 "PointerSweepModel" "st" "[I", .methodLink RX5 34 yX5_set, .instanceMethod yX5_set, .selects RX5 yX5_set yX5_set, .initialized RX5, .code yX5_set cX5_set 7 none] ++ wsX50)
def wsX5_become : List Cond := .code yX5_become cX5_become 3 none :: ([.fieldLink RX5 7 "PointerSweepModel" "st" "[I", .methodLink RX5 34 yX5_set, .instanceMethod yX5_set, .selects RX5 yX5_set yX5_set, .initialized RX5, .code yX5_set cX5_set 7 none] ++ wsX50)
def wsX5_isStale : List Cond := .code yX5_isStale cX5_isStale 4 (some .boolean) :: ([.fieldLink RX5 7 "PointerSweepModel" "st" "[I"] ++ wsX50)
def wsX5_against : List Cond := .code yX5_against cX5_against 8 (some .int) :: ([.fieldLink RX5 7 "PointerSweepModel" "st" "[I", .methodLink RX5 38 yX5_reg, .static yX5_reg, .initialized RX5, .code yX5_reg cX5_reg 1 (some .int)] ++ wsX50)
def wsX5_cellOf : List Cond := .code yX5_cellOf cX5_cellOf 3 (some .int) :: ([.fieldLink RX5 7 "PointerSweepModel" "st" "[I", .methodLink RX5 38 yX5_reg, .static yX5_reg, .initialized RX5, .code yX5_reg cX5_reg 1 (some .int)] ++ wsX50)
def wsX5_give_r1 : List Cond := [Cond.constantLong RX5 46 (64), Cond.fieldLink RX5 7 "PointerSweepModel" "st" "[I", Cond.methodLink RX5 42 yX5_isRegister, Cond.static yX5_isRegister, Cond.initialized RX5, Cond.code yX5_isRegister cX5_isRegister 1 (some .boolean), Cond.constantLong RX5 23 (7), Cond.methodLink RX5 25 yX5_in, Cond.static yX5_in, Cond.code yX5_in cX5_in 6 (some .boolean), Cond.methodLink RX5 48 yX5_begin, Cond.instanceMethod yX5_begin, Cond.selects RX5 yX5_begin yX5_begin, Cond.code yX5_begin cX5_begin 2 none, Cond.fieldLink RX5 13 "PointerSweepModel" "back" "[I", Cond.methodLink RX5 51 yX5_untag, Cond.instanceMethod yX5_untag, Cond.selects RX5 yX5_untag yX5_untag, Cond.code yX5_untag cX5_untag 3 none, Cond.methodLink RX5 34 yX5_set, Cond.instanceMethod yX5_set, Cond.selects RX5 yX5_set yX5_set, Cond.code yX5_set cX5_set 7 none, Cond.methodLink RX5 38 yX5_reg]
def wsX5_give_r2 : List Cond := [Cond.static yX5_reg, Cond.code yX5_reg cX5_reg 1 (some .int), Cond.methodLink RX5 55 yX5_keeps, Cond.instanceMethod yX5_keeps, Cond.selects RX5 yX5_keeps yX5_keeps, Cond.code yX5_keeps cX5_keeps 3 (some .int), Cond.fieldLink RX5 29 "PointerSweepModel" "kept" "I", Cond.constant RX5 33 (48944), Cond.fieldLink RX5 17 "PointerSweepModel" "was" "[I"]
def wsX5_give : List Cond := .code yX5_give cX5_give 6 (some .int) :: ((wsX5_give_r1 ++ wsX5_give_r2) ++ wsX50)
def wsX5_rangeSize : List Cond := .code yX5_rangeSize cX5_rangeSize 4 (some .int) :: ([.fieldLink RX5 7 "PointerSweepModel" "st" "[I"] ++ wsX50)
def wsX5_back_r1 : List Cond := [Cond.fieldLink RX5 7 "PointerSweepModel" "st" "[I", Cond.methodLink RX5 42 yX5_isRegister, Cond.static yX5_isRegister, Cond.initialized RX5, Cond.code yX5_isRegister cX5_isRegister 1 (some .boolean), Cond.constantLong RX5 23 (7), Cond.methodLink RX5 25 yX5_in, Cond.static yX5_in, Cond.code yX5_in cX5_in 6 (some .boolean), Cond.methodLink RX5 38 yX5_reg, Cond.static yX5_reg, Cond.code yX5_reg cX5_reg 1 (some .int), Cond.methodLink RX5 58 yX5_rangeSize, Cond.instanceMethod yX5_rangeSize, Cond.selects RX5 yX5_rangeSize yX5_rangeSize, Cond.code yX5_rangeSize cX5_rangeSize 4 (some .int), Cond.methodLink RX5 48 yX5_begin, Cond.instanceMethod yX5_begin, Cond.selects RX5 yX5_begin yX5_begin, Cond.code yX5_begin cX5_begin 2 none, Cond.fieldLink RX5 13 "PointerSweepModel" "back" "[I", Cond.methodLink RX5 55 yX5_keeps, Cond.instanceMethod yX5_keeps, Cond.selects RX5 yX5_keeps yX5_keeps]
def wsX5_back_r2 : List Cond := [Cond.code yX5_keeps cX5_keeps 3 (some .int), Cond.fieldLink RX5 29 "PointerSweepModel" "kept" "I", Cond.constant RX5 33 (48944), Cond.fieldLink RX5 17 "PointerSweepModel" "was" "[I"]
def wsX5_back : List Cond := .code yX5_back cX5_back 6 (some .int) :: ((wsX5_back_r1 ++ wsX5_back_r2) ++ wsX50)
def wsX5_number_r1 : List Cond := [Cond.methodLink RX5 42 yX5_isRegister, Cond.static yX5_isRegister, Cond.initialized RX5, Cond.code yX5_isRegister cX5_isRegister 1 (some .boolean), Cond.constantLong RX5 23 (7), Cond.methodLink RX5 25 yX5_in, Cond.static yX5_in, Cond.code yX5_in cX5_in 6 (some .boolean), Cond.methodLink RX5 48 yX5_begin, Cond.instanceMethod yX5_begin, Cond.selects RX5 yX5_begin yX5_begin, Cond.code yX5_begin cX5_begin 2 none, Cond.fieldLink RX5 13 "PointerSweepModel" "back" "[I", Cond.fieldLink RX5 7 "PointerSweepModel" "st" "[I", Cond.methodLink RX5 38 yX5_reg, Cond.static yX5_reg, Cond.code yX5_reg cX5_reg 1 (some .int), Cond.methodLink RX5 34 yX5_set, Cond.instanceMethod yX5_set, Cond.selects RX5 yX5_set yX5_set, Cond.code yX5_set cX5_set 7 none, Cond.methodLink RX5 55 yX5_keeps, Cond.instanceMethod yX5_keeps, Cond.selects RX5 yX5_keeps yX5_keeps]
def wsX5_number_r2 : List Cond := [Cond.code yX5_keeps cX5_keeps 3 (some .int), Cond.fieldLink RX5 29 "PointerSweepModel" "kept" "I", Cond.constant RX5 33 (48944), Cond.fieldLink RX5 17 "PointerSweepModel" "was" "[I"]
def wsX5_number : List Cond := .code yX5_number cX5_number 3 (some .int) :: ((wsX5_number_r1 ++ wsX5_number_r2) ++ wsX50)
def wsX5_copy_r1 : List Cond := [Cond.methodLink RX5 42 yX5_isRegister, Cond.static yX5_isRegister, Cond.initialized RX5, Cond.code yX5_isRegister cX5_isRegister 1 (some .boolean), Cond.constantLong RX5 23 (7), Cond.methodLink RX5 25 yX5_in, Cond.static yX5_in, Cond.code yX5_in cX5_in 6 (some .boolean), Cond.methodLink RX5 48 yX5_begin, Cond.instanceMethod yX5_begin, Cond.selects RX5 yX5_begin yX5_begin, Cond.code yX5_begin cX5_begin 2 none, Cond.fieldLink RX5 13 "PointerSweepModel" "back" "[I", Cond.fieldLink RX5 7 "PointerSweepModel" "st" "[I", Cond.methodLink RX5 38 yX5_reg, Cond.static yX5_reg, Cond.code yX5_reg cX5_reg 1 (some .int), Cond.methodLink RX5 61 yX5_become, Cond.instanceMethod yX5_become, Cond.selects RX5 yX5_become yX5_become, Cond.code yX5_become cX5_become 3 none, Cond.methodLink RX5 34 yX5_set, Cond.instanceMethod yX5_set, Cond.selects RX5 yX5_set yX5_set]
def wsX5_copy_r2 : List Cond := [Cond.code yX5_set cX5_set 7 none, Cond.methodLink RX5 55 yX5_keeps, Cond.instanceMethod yX5_keeps, Cond.selects RX5 yX5_keeps yX5_keeps, Cond.code yX5_keeps cX5_keeps 3 (some .int), Cond.fieldLink RX5 29 "PointerSweepModel" "kept" "I", Cond.constant RX5 33 (48944), Cond.fieldLink RX5 17 "PointerSweepModel" "was" "[I"]
def wsX5_copy : List Cond := .code yX5_copy cX5_copy 3 (some .int) :: ((wsX5_copy_r1 ++ wsX5_copy_r2) ++ wsX50)
def wsX5_move_r1 : List Cond := [Cond.constant RX5 65 (-1000000001), Cond.fieldLink RX5 7 "PointerSweepModel" "st" "[I", Cond.constant RX5 66 (-1000000011), Cond.methodLink RX5 42 yX5_isRegister, Cond.static yX5_isRegister, Cond.initialized RX5, Cond.code yX5_isRegister cX5_isRegister 1 (some .boolean), Cond.constantLong RX5 23 (7), Cond.methodLink RX5 25 yX5_in, Cond.static yX5_in, Cond.code yX5_in cX5_in 6 (some .boolean), Cond.methodLink RX5 38 yX5_reg, Cond.static yX5_reg, Cond.code yX5_reg cX5_reg 1 (some .int), Cond.methodLink RX5 48 yX5_begin, Cond.instanceMethod yX5_begin, Cond.selects RX5 yX5_begin yX5_begin, Cond.code yX5_begin cX5_begin 2 none, Cond.fieldLink RX5 13 "PointerSweepModel" "back" "[I", Cond.methodLink RX5 55 yX5_keeps, Cond.instanceMethod yX5_keeps, Cond.selects RX5 yX5_keeps yX5_keeps, Cond.code yX5_keeps cX5_keeps 3 (some .int), Cond.fieldLink RX5 29 "PointerSweepModel" "kept" "I"]
def wsX5_move_r2 : List Cond := [Cond.constant RX5 33 (48944), Cond.fieldLink RX5 17 "PointerSweepModel" "was" "[I"]
def wsX5_move : List Cond := .code yX5_move cX5_move 3 (some .int) :: ((wsX5_move_r1 ++ wsX5_move_r2) ++ wsX50)
def wsX5_narrow_r1 : List Cond := [Cond.constantLong RX5 67 (3), Cond.fieldLink RX5 7 "PointerSweepModel" "st" "[I", Cond.methodLink RX5 42 yX5_isRegister, Cond.static yX5_isRegister, Cond.initialized RX5, Cond.code yX5_isRegister cX5_isRegister 1 (some .boolean), Cond.constantLong RX5 23 (7), Cond.methodLink RX5 25 yX5_in, Cond.static yX5_in, Cond.code yX5_in cX5_in 6 (some .boolean), Cond.methodLink RX5 38 yX5_reg, Cond.static yX5_reg, Cond.code yX5_reg cX5_reg 1 (some .int), Cond.methodLink RX5 48 yX5_begin, Cond.instanceMethod yX5_begin, Cond.selects RX5 yX5_begin yX5_begin, Cond.code yX5_begin cX5_begin 2 none, Cond.fieldLink RX5 13 "PointerSweepModel" "back" "[I", Cond.methodLink RX5 34 yX5_set, Cond.instanceMethod yX5_set, Cond.selects RX5 yX5_set yX5_set, Cond.code yX5_set cX5_set 7 none, Cond.methodLink RX5 55 yX5_keeps, Cond.instanceMethod yX5_keeps]
def wsX5_narrow_r2 : List Cond := [Cond.selects RX5 yX5_keeps yX5_keeps, Cond.code yX5_keeps cX5_keeps 3 (some .int), Cond.fieldLink RX5 29 "PointerSweepModel" "kept" "I", Cond.constant RX5 33 (48944), Cond.fieldLink RX5 17 "PointerSweepModel" "was" "[I"]
def wsX5_narrow : List Cond := .code yX5_narrow cX5_narrow 7 (some .int) :: ((wsX5_narrow_r1 ++ wsX5_narrow_r2) ++ wsX50)
def wsX5_lookUp : List Cond := .code yX5_lookUp cX5_lookUp 4 none :: ([.fieldLink RX5 7 "PointerSweepModel" "st" "[I", .methodLink RX5 69 yX5_isStale, .instanceMethod yX5_isStale, .selects RX5 yX5_isStale yX5_isStale, .initialized RX5, .code yX5_isStale cX5_isStale 4 (some .boolean), .methodLink RX5 61 yX5_become, .instanceMethod yX5_become, .selects RX5 yX5_become yX5_become, .code yX5_become cX5_become 3 none, .methodLink RX5 34 yX5_set, .instanceMethod yX5_set, .selects RX5 yX5_set yX5_set, .code yX5_set cX5_set 7 none, .methodLink RX5 51 yX5_untag, .instanceMethod yX5_untag, .selects RX5 yX5_untag yX5_untag, .code yX5_untag cX5_untag 3 none] ++ wsX50)
def wsX5_look_r1 : List Cond := [Cond.fieldLink RX5 7 "PointerSweepModel" "st" "[I", Cond.methodLink RX5 42 yX5_isRegister, Cond.static yX5_isRegister, Cond.initialized RX5, Cond.code yX5_isRegister cX5_isRegister 1 (some .boolean), Cond.constantLong RX5 23 (7), Cond.methodLink RX5 25 yX5_in, Cond.static yX5_in, Cond.code yX5_in cX5_in 6 (some .boolean), Cond.methodLink RX5 72 yX5_against, Cond.instanceMethod yX5_against, Cond.selects RX5 yX5_against yX5_against, Cond.code yX5_against cX5_against 8 (some .int), Cond.methodLink RX5 38 yX5_reg, Cond.static yX5_reg, Cond.code yX5_reg cX5_reg 1 (some .int), Cond.methodLink RX5 48 yX5_begin, Cond.instanceMethod yX5_begin, Cond.selects RX5 yX5_begin yX5_begin, Cond.code yX5_begin cX5_begin 2 none, Cond.fieldLink RX5 13 "PointerSweepModel" "back" "[I", Cond.methodLink RX5 76 yX5_cellOf, Cond.instanceMethod yX5_cellOf, Cond.selects RX5 yX5_cellOf yX5_cellOf]
def wsX5_look_r2 : List Cond := [Cond.code yX5_cellOf cX5_cellOf 3 (some .int), Cond.methodLink RX5 80 yX5_lookUp, Cond.instanceMethod yX5_lookUp, Cond.selects RX5 yX5_lookUp yX5_lookUp, Cond.code yX5_lookUp cX5_lookUp 4 none, Cond.methodLink RX5 69 yX5_isStale, Cond.instanceMethod yX5_isStale, Cond.selects RX5 yX5_isStale yX5_isStale, Cond.code yX5_isStale cX5_isStale 4 (some .boolean), Cond.methodLink RX5 61 yX5_become, Cond.instanceMethod yX5_become, Cond.selects RX5 yX5_become yX5_become, Cond.code yX5_become cX5_become 3 none, Cond.methodLink RX5 34 yX5_set, Cond.instanceMethod yX5_set, Cond.selects RX5 yX5_set yX5_set, Cond.code yX5_set cX5_set 7 none, Cond.methodLink RX5 51 yX5_untag, Cond.instanceMethod yX5_untag, Cond.selects RX5 yX5_untag yX5_untag, Cond.code yX5_untag cX5_untag 3 none, Cond.methodLink RX5 55 yX5_keeps, Cond.instanceMethod yX5_keeps, Cond.selects RX5 yX5_keeps yX5_keeps]
def wsX5_look_r3 : List Cond := [Cond.code yX5_keeps cX5_keeps 3 (some .int), Cond.fieldLink RX5 29 "PointerSweepModel" "kept" "I", Cond.constant RX5 33 (48944), Cond.fieldLink RX5 17 "PointerSweepModel" "was" "[I"]
def wsX5_look : List Cond := .code yX5_look cX5_look 5 (some .int) :: ((wsX5_look_r1 ++ (wsX5_look_r2 ++ wsX5_look_r3)) ++ wsX50)
def wsX5_laid : List Cond := .code yX5_laid cX5_laid 2 none :: ([.fieldLink RX5 7 "PointerSweepModel" "st" "[I"] ++ wsX50)
def wsX5_lay_r1 : List Cond := [Cond.methodLink RX5 42 yX5_isRegister, Cond.static yX5_isRegister, Cond.initialized RX5, Cond.code yX5_isRegister cX5_isRegister 1 (some .boolean), Cond.constantLong RX5 23 (7), Cond.methodLink RX5 25 yX5_in, Cond.static yX5_in, Cond.code yX5_in cX5_in 6 (some .boolean), Cond.methodLink RX5 72 yX5_against, Cond.instanceMethod yX5_against, Cond.selects RX5 yX5_against yX5_against, Cond.code yX5_against cX5_against 8 (some .int), Cond.fieldLink RX5 7 "PointerSweepModel" "st" "[I", Cond.methodLink RX5 38 yX5_reg, Cond.static yX5_reg, Cond.code yX5_reg cX5_reg 1 (some .int), Cond.methodLink RX5 48 yX5_begin, Cond.instanceMethod yX5_begin, Cond.selects RX5 yX5_begin yX5_begin, Cond.code yX5_begin cX5_begin 2 none, Cond.fieldLink RX5 13 "PointerSweepModel" "back" "[I", Cond.methodLink RX5 76 yX5_cellOf, Cond.instanceMethod yX5_cellOf, Cond.selects RX5 yX5_cellOf yX5_cellOf]
def wsX5_lay_r2 : List Cond := [Cond.code yX5_cellOf cX5_cellOf 3 (some .int), Cond.methodLink RX5 61 yX5_become, Cond.instanceMethod yX5_become, Cond.selects RX5 yX5_become yX5_become, Cond.code yX5_become cX5_become 3 none, Cond.methodLink RX5 34 yX5_set, Cond.instanceMethod yX5_set, Cond.selects RX5 yX5_set yX5_set, Cond.code yX5_set cX5_set 7 none, Cond.methodLink RX5 83 yX5_laid, Cond.instanceMethod yX5_laid, Cond.selects RX5 yX5_laid yX5_laid, Cond.code yX5_laid cX5_laid 2 none, Cond.methodLink RX5 55 yX5_keeps, Cond.instanceMethod yX5_keeps, Cond.selects RX5 yX5_keeps yX5_keeps, Cond.code yX5_keeps cX5_keeps 3 (some .int), Cond.fieldLink RX5 29 "PointerSweepModel" "kept" "I", Cond.constant RX5 33 (48944), Cond.fieldLink RX5 17 "PointerSweepModel" "was" "[I"]
def wsX5_lay : List Cond := .code yX5_lay cX5_lay 6 (some .int) :: ((wsX5_lay_r1 ++ wsX5_lay_r2) ++ wsX50)
def wsX5_block_r1 : List Cond := [Cond.constantLong RX5 46 (64), Cond.fieldLink RX5 20 "PointerSweepModel" "middle" "[I", Cond.fieldLink RX5 7 "PointerSweepModel" "st" "[I", Cond.methodLink RX5 42 yX5_isRegister, Cond.static yX5_isRegister, Cond.initialized RX5, Cond.code yX5_isRegister cX5_isRegister 1 (some .boolean), Cond.constantLong RX5 23 (7), Cond.methodLink RX5 25 yX5_in, Cond.static yX5_in, Cond.code yX5_in cX5_in 6 (some .boolean), Cond.methodLink RX5 72 yX5_against, Cond.instanceMethod yX5_against, Cond.selects RX5 yX5_against yX5_against, Cond.code yX5_against cX5_against 8 (some .int), Cond.methodLink RX5 38 yX5_reg, Cond.static yX5_reg, Cond.code yX5_reg cX5_reg 1 (some .int), Cond.methodLink RX5 48 yX5_begin, Cond.instanceMethod yX5_begin, Cond.selects RX5 yX5_begin yX5_begin, Cond.code yX5_begin cX5_begin 2 none, Cond.fieldLink RX5 13 "PointerSweepModel" "back" "[I", Cond.methodLink RX5 76 yX5_cellOf]
def wsX5_block_r2 : List Cond := [Cond.instanceMethod yX5_cellOf, Cond.selects RX5 yX5_cellOf yX5_cellOf, Cond.code yX5_cellOf cX5_cellOf 3 (some .int), Cond.methodLink RX5 34 yX5_set, Cond.instanceMethod yX5_set, Cond.selects RX5 yX5_set yX5_set, Cond.code yX5_set cX5_set 7 none, Cond.methodLink RX5 69 yX5_isStale, Cond.instanceMethod yX5_isStale, Cond.selects RX5 yX5_isStale yX5_isStale, Cond.code yX5_isStale cX5_isStale 4 (some .boolean), Cond.methodLink RX5 51 yX5_untag, Cond.instanceMethod yX5_untag, Cond.selects RX5 yX5_untag yX5_untag, Cond.code yX5_untag cX5_untag 3 none, Cond.methodLink RX5 83 yX5_laid, Cond.instanceMethod yX5_laid, Cond.selects RX5 yX5_laid yX5_laid, Cond.code yX5_laid cX5_laid 2 none, Cond.methodLink RX5 55 yX5_keeps, Cond.instanceMethod yX5_keeps, Cond.selects RX5 yX5_keeps yX5_keeps, Cond.code yX5_keeps cX5_keeps 3 (some .int), Cond.fieldLink RX5 29 "PointerSweepModel" "kept" "I"]
def wsX5_block_r3 : List Cond := [Cond.constant RX5 33 (48944), Cond.fieldLink RX5 17 "PointerSweepModel" "was" "[I"]
def wsX5_block : List Cond := .code yX5_block cX5_block 11 (some .int) :: ((wsX5_block_r1 ++ (wsX5_block_r2 ++ wsX5_block_r3)) ++ wsX50)
def wsX5_sweep : List Cond := .code yX5_sweep cX5_sweep 3 (some .int) :: ([.fieldLink RX5 7 "PointerSweepModel" "st" "[I", .methodLink RX5 48 yX5_begin, .instanceMethod yX5_begin, .selects RX5 yX5_begin yX5_begin, .initialized RX5, .code yX5_begin cX5_begin 2 none, .fieldLink RX5 13 "PointerSweepModel" "back" "[I", .methodLink RX5 55 yX5_keeps, .instanceMethod yX5_keeps, .selects RX5 yX5_keeps yX5_keeps, .code yX5_keeps cX5_keeps 3 (some .int), .fieldLink RX5 29 "PointerSweepModel" "kept" "I", .constant RX5 33 (48944), .fieldLink RX5 17 "PointerSweepModel" "was" "[I"] ++ wsX50)
def wsX5_clean : List Cond := .code yX5_clean cX5_clean 5 (some .int) :: ([.methodLink RX5 69 yX5_isStale, .instanceMethod yX5_isStale, .selects RX5 yX5_isStale yX5_isStale, .initialized RX5, .code yX5_isStale cX5_isStale 4 (some .boolean), .fieldLink RX5 7 "PointerSweepModel" "st" "[I", .methodLink RX5 51 yX5_untag, .instanceMethod yX5_untag, .selects RX5 yX5_untag yX5_untag, .code yX5_untag cX5_untag 3 none, .methodLink RX5 34 yX5_set, .instanceMethod yX5_set, .selects RX5 yX5_set yX5_set, .code yX5_set cX5_set 7 none] ++ wsX50)
def wsX5_step_r1 : List Cond := [Cond.constantLong RX5 87 (16), Cond.fieldLink RX5 7 "PointerSweepModel" "st" "[I", Cond.methodLink RX5 25 yX5_in, Cond.static yX5_in, Cond.initialized RX5, Cond.code yX5_in cX5_in 6 (some .boolean), Cond.methodLink RX5 48 yX5_begin, Cond.instanceMethod yX5_begin, Cond.selects RX5 yX5_begin yX5_begin, Cond.code yX5_begin cX5_begin 2 none, Cond.fieldLink RX5 13 "PointerSweepModel" "back" "[I", Cond.methodLink RX5 89 yX5_clean, Cond.instanceMethod yX5_clean, Cond.selects RX5 yX5_clean yX5_clean, Cond.code yX5_clean cX5_clean 5 (some .int), Cond.methodLink RX5 69 yX5_isStale, Cond.instanceMethod yX5_isStale, Cond.selects RX5 yX5_isStale yX5_isStale, Cond.code yX5_isStale cX5_isStale 4 (some .boolean), Cond.methodLink RX5 51 yX5_untag, Cond.instanceMethod yX5_untag, Cond.selects RX5 yX5_untag yX5_untag, Cond.code yX5_untag cX5_untag 3 none, Cond.methodLink RX5 34 yX5_set]
def wsX5_step_r2 : List Cond := [Cond.instanceMethod yX5_set, Cond.selects RX5 yX5_set yX5_set, Cond.code yX5_set cX5_set 7 none, Cond.methodLink RX5 55 yX5_keeps, Cond.instanceMethod yX5_keeps, Cond.selects RX5 yX5_keeps yX5_keeps, Cond.code yX5_keeps cX5_keeps 3 (some .int), Cond.fieldLink RX5 29 "PointerSweepModel" "kept" "I", Cond.constant RX5 33 (48944), Cond.fieldLink RX5 17 "PointerSweepModel" "was" "[I"]
def wsX5_step : List Cond := .code yX5_step cX5_step 5 (some .int) :: ((wsX5_step_r1 ++ wsX5_step_r2) ++ wsX50)
def wsX5_areSeen : List Cond := .code yX5_areSeen cX5_areSeen 3 (some .boolean) :: ([.fieldLink RX5 7 "PointerSweepModel" "st" "[I"] ++ wsX50)
def wsX5_end_r1 : List Cond := [Cond.fieldLink RX5 7 "PointerSweepModel" "st" "[I", Cond.methodLink RX5 92 yX5_areSeen, Cond.instanceMethod yX5_areSeen, Cond.selects RX5 yX5_areSeen yX5_areSeen, Cond.initialized RX5, Cond.code yX5_areSeen cX5_areSeen 3 (some .boolean), Cond.methodLink RX5 48 yX5_begin, Cond.instanceMethod yX5_begin, Cond.selects RX5 yX5_begin yX5_begin, Cond.code yX5_begin cX5_begin 2 none, Cond.fieldLink RX5 13 "PointerSweepModel" "back" "[I", Cond.methodLink RX5 89 yX5_clean, Cond.instanceMethod yX5_clean, Cond.selects RX5 yX5_clean yX5_clean, Cond.code yX5_clean cX5_clean 5 (some .int), Cond.methodLink RX5 69 yX5_isStale, Cond.instanceMethod yX5_isStale, Cond.selects RX5 yX5_isStale yX5_isStale, Cond.code yX5_isStale cX5_isStale 4 (some .boolean), Cond.methodLink RX5 51 yX5_untag, Cond.instanceMethod yX5_untag, Cond.selects RX5 yX5_untag yX5_untag, Cond.code yX5_untag cX5_untag 3 none, Cond.methodLink RX5 34 yX5_set]
def wsX5_end_r2 : List Cond := [Cond.instanceMethod yX5_set, Cond.selects RX5 yX5_set yX5_set, Cond.code yX5_set cX5_set 7 none, Cond.methodLink RX5 55 yX5_keeps, Cond.instanceMethod yX5_keeps, Cond.selects RX5 yX5_keeps yX5_keeps, Cond.code yX5_keeps cX5_keeps 3 (some .int), Cond.fieldLink RX5 29 "PointerSweepModel" "kept" "I", Cond.constant RX5 33 (48944), Cond.fieldLink RX5 17 "PointerSweepModel" "was" "[I"]
def wsX5_end : List Cond := .code yX5_end cX5_end 3 (some .int) :: ((wsX5_end_r1 ++ wsX5_end_r2) ++ wsX50)
def wsX5_told : List Cond := .code yX5_told cX5_told 5 (some .int) :: ([.constantLong RX5 23 (7), .constantLong RX5 96 (255), .constantLong RX5 98 (6), .constant RX5 65 (-1000000001), .fieldLink RX5 7 "PointerSweepModel" "st" "[I", .methodLink RX5 25 yX5_in, .static yX5_in, .initialized RX5, .code yX5_in cX5_in 6 (some .boolean), .methodLink RX5 38 yX5_reg, .static yX5_reg, .code yX5_reg cX5_reg 1 (some .int), .methodLink RX5 69 yX5_isStale, .instanceMethod yX5_isStale, .selects RX5 yX5_isStale yX5_isStale, .code yX5_isStale cX5_isStale 4 (some .boolean)] ++ wsX50)
def wsX5_page : List Cond := .code yX5_page cX5_page 5 (some .int) :: ([.constantLong RX5 100 (15), .constantLong RX5 102 (4), .fieldLink RX5 7 "PointerSweepModel" "st" "[I", .methodLink RX5 25 yX5_in, .static yX5_in, .initialized RX5, .code yX5_in cX5_in 6 (some .boolean)] ++ wsX50)
def wsX5_range : List Cond := .code yX5_range cX5_range 4 (some .int) :: ([.constantLong RX5 96 (255), .fieldLink RX5 7 "PointerSweepModel" "st" "[I", .methodLink RX5 25 yX5_in, .static yX5_in, .initialized RX5, .code yX5_in cX5_in 6 (some .boolean), .methodLink RX5 58 yX5_rangeSize, .instanceMethod yX5_rangeSize, .selects RX5 yX5_rangeSize yX5_rangeSize, .code yX5_rangeSize cX5_rangeSize 4 (some .int)] ++ wsX50)
def wsX5_count : List Cond := .code yX5_count cX5_count 4 (some .int) :: ([.fieldLink RX5 7 "PointerSweepModel" "st" "[I", .fieldLink RX5 29 "PointerSweepModel" "kept" "I", .constantLong RX5 104 (5), .constantLong RX5 106 (11), .methodLink RX5 25 yX5_in, .static yX5_in, .initialized RX5, .code yX5_in cX5_in 6 (some .boolean)] ++ wsX50)
def wsJ9_min_7cf53 : List Cond := .code yJ9_min_7cf53 cJ9_min_7cf53 2 (some .int) :: ([])
abbrev vwCl : List vw_C := [(RX0, TX0, 1), (RX1, TX1, 3), (RX2, TX2, 10), (RX4, TX4, 3), (RX5, TX5, 5)]
end
section
theorem dX0_init_0 : decode cX0_init 0 = .ok (.aload_n 0, 1) := by decide +kernel
theorem dX0_init_1 : decode cX0_init 1 = .ok (.invokespecial 3, 3) := by decide +kernel
theorem dX0_init_4 : decode cX0_init 4 = .ok (.aload_n 0, 1) := by decide +kernel
theorem dX0_init_5 : decode cX0_init 5 = .ok (.iconst 4, 1) := by decide +kernel
theorem dX0_init_6 : decode cX0_init 6 = .ok (.newarray .long, 2) := by decide +kernel
theorem dX0_init_8 : decode cX0_init 8 = .ok (.putfield 11, 3) := by decide +kernel
theorem dX0_init_11 : decode cX0_init 11 = .ok (.return_, 1) := by decide +kernel
set_option maxRecDepth 20000 in
theorem ggX0_has_X4_isCell : GoodIn wsX0_has wsX4_isCell := goodIn_r _ [4] (by decide +kernel) (by decide +kernel)
set_option maxRecDepth 20000 in
theorem gX0_has_X4_isCell_n15 : GoodIn wsX0_has (wsX4_isCell) := ggX0_has_X4_isCell
theorem dX0_has_0 : decode cX0_has 0 = .ok (.iload_n 1, 1) := by decide +kernel
theorem dX0_has_1 : decode cX0_has 1 = .ok (.invokestatic 15, 3) := by decide +kernel
theorem dX0_has_4 : decode cX0_has 4 = .ok (.ifCond .eq 28, 3) := by decide +kernel
theorem dX0_has_7 : decode cX0_has 7 = .ok (.aload_n 0, 1) := by decide +kernel
theorem dX0_has_8 : decode cX0_has 8 = .ok (.getfield 11, 3) := by decide +kernel
theorem dX0_has_11 : decode cX0_has 11 = .ok (.iload_n 1, 1) := by decide +kernel
theorem dX0_has_12 : decode cX0_has 12 = .ok (.bipush 6, 2) := by decide +kernel
theorem dX0_has_14 : decode cX0_has 14 = .ok (.ishr, 1) := by decide +kernel
theorem dX0_has_15 : decode cX0_has 15 = .ok (.laload, 1) := by decide +kernel
theorem dX0_has_16 : decode cX0_has 16 = .ok (.lconst 1, 1) := by decide +kernel
theorem dX0_has_17 : decode cX0_has 17 = .ok (.iload_n 1, 1) := by decide +kernel
theorem dX0_has_18 : decode cX0_has 18 = .ok (.bipush 63, 2) := by decide +kernel
theorem dX0_has_20 : decode cX0_has 20 = .ok (.iand, 1) := by decide +kernel
theorem dX0_has_21 : decode cX0_has 21 = .ok (.lshl, 1) := by decide +kernel
theorem dX0_has_22 : decode cX0_has 22 = .ok (.land, 1) := by decide +kernel
theorem dX0_has_23 : decode cX0_has 23 = .ok (.lconst 0, 1) := by decide +kernel
theorem dX0_has_24 : decode cX0_has 24 = .ok (.lcmp, 1) := by decide +kernel
theorem dX0_has_25 : decode cX0_has 25 = .ok (.ifCond .eq 7, 3) := by decide +kernel
theorem dX0_has_28 : decode cX0_has 28 = .ok (.iconst 1, 1) := by decide +kernel
theorem dX0_has_29 : decode cX0_has 29 = .ok (.goto 4, 3) := by decide +kernel
theorem dX0_has_32 : decode cX0_has 32 = .ok (.iconst 0, 1) := by decide +kernel
theorem dX0_has_33 : decode cX0_has 33 = .ok (.ireturn, 1) := by decide +kernel
set_option maxRecDepth 20000 in
theorem ggX0_add_X4_isCell : GoodIn wsX0_add wsX4_isCell := goodIn_r _ [4] (by decide +kernel) (by decide +kernel)
set_option maxRecDepth 20000 in
theorem gX0_add_X4_isCell_n15 : GoodIn wsX0_add (wsX4_isCell) := ggX0_add_X4_isCell
theorem dX0_add_0 : decode cX0_add 0 = .ok (.iload_n 1, 1) := by decide +kernel
theorem dX0_add_1 : decode cX0_add 1 = .ok (.invokestatic 15, 3) := by decide +kernel
theorem dX0_add_4 : decode cX0_add 4 = .ok (.ifCond .eq 21, 3) := by decide +kernel
theorem dX0_add_7 : decode cX0_add 7 = .ok (.aload_n 0, 1) := by decide +kernel
theorem dX0_add_8 : decode cX0_add 8 = .ok (.getfield 11, 3) := by decide +kernel
theorem dX0_add_11 : decode cX0_add 11 = .ok (.iload_n 1, 1) := by decide +kernel
theorem dX0_add_12 : decode cX0_add 12 = .ok (.bipush 6, 2) := by decide +kernel
theorem dX0_add_14 : decode cX0_add 14 = .ok (.ishr, 1) := by decide +kernel
theorem dX0_add_15 : decode cX0_add 15 = .ok (.dup2, 1) := by decide +kernel
theorem dX0_add_16 : decode cX0_add 16 = .ok (.laload, 1) := by decide +kernel
theorem dX0_add_17 : decode cX0_add 17 = .ok (.lconst 1, 1) := by decide +kernel
theorem dX0_add_18 : decode cX0_add 18 = .ok (.iload_n 1, 1) := by decide +kernel
theorem dX0_add_19 : decode cX0_add 19 = .ok (.bipush 63, 2) := by decide +kernel
theorem dX0_add_21 : decode cX0_add 21 = .ok (.iand, 1) := by decide +kernel
theorem dX0_add_22 : decode cX0_add 22 = .ok (.lshl, 1) := by decide +kernel
theorem dX0_add_23 : decode cX0_add 23 = .ok (.lor, 1) := by decide +kernel
theorem dX0_add_24 : decode cX0_add 24 = .ok (.lastore, 1) := by decide +kernel
theorem dX0_add_25 : decode cX0_add 25 = .ok (.return_, 1) := by decide +kernel
set_option maxRecDepth 20000 in
theorem ggX0_drop_X4_isCell : GoodIn wsX0_drop wsX4_isCell := goodIn_r _ [5] (by decide +kernel) (by decide +kernel)
set_option maxRecDepth 20000 in
theorem gX0_drop_X4_isCell_n15 : GoodIn wsX0_drop (wsX4_isCell) := ggX0_drop_X4_isCell
theorem dX0_drop_0 : decode cX0_drop 0 = .ok (.iload_n 1, 1) := by decide +kernel
theorem dX0_drop_1 : decode cX0_drop 1 = .ok (.invokestatic 15, 3) := by decide +kernel
theorem dX0_drop_4 : decode cX0_drop 4 = .ok (.ifCond .eq 25, 3) := by decide +kernel
theorem dX0_drop_7 : decode cX0_drop 7 = .ok (.aload_n 0, 1) := by decide +kernel
theorem dX0_drop_8 : decode cX0_drop 8 = .ok (.getfield 11, 3) := by decide +kernel
theorem dX0_drop_11 : decode cX0_drop 11 = .ok (.iload_n 1, 1) := by decide +kernel
theorem dX0_drop_12 : decode cX0_drop 12 = .ok (.bipush 6, 2) := by decide +kernel
theorem dX0_drop_14 : decode cX0_drop 14 = .ok (.ishr, 1) := by decide +kernel
theorem dX0_drop_15 : decode cX0_drop 15 = .ok (.dup2, 1) := by decide +kernel
theorem dX0_drop_16 : decode cX0_drop 16 = .ok (.laload, 1) := by decide +kernel
theorem dX0_drop_17 : decode cX0_drop 17 = .ok (.lconst 1, 1) := by decide +kernel
theorem dX0_drop_18 : decode cX0_drop 18 = .ok (.iload_n 1, 1) := by decide +kernel
theorem dX0_drop_19 : decode cX0_drop 19 = .ok (.bipush 63, 2) := by decide +kernel
theorem dX0_drop_21 : decode cX0_drop 21 = .ok (.iand, 1) := by decide +kernel
theorem dX0_drop_22 : decode cX0_drop 22 = .ok (.lshl, 1) := by decide +kernel
theorem dX0_drop_23 : decode cX0_drop 23 = .ok (.ldc2_w 19, 3) := by decide +kernel
theorem dX0_drop_26 : decode cX0_drop 26 = .ok (.lxor, 1) := by decide +kernel
theorem dX0_drop_27 : decode cX0_drop 27 = .ok (.land, 1) := by decide +kernel
theorem dX0_drop_28 : decode cX0_drop 28 = .ok (.lastore, 1) := by decide +kernel
theorem dX0_drop_29 : decode cX0_drop 29 = .ok (.return_, 1) := by decide +kernel
theorem dX0_dropAllOf_0 : decode cX0_dropAllOf 0 = .ok (.iconst 0, 1) := by decide +kernel
theorem dX0_dropAllOf_1 : decode cX0_dropAllOf 1 = .ok (.istore_n 2, 1) := by decide +kernel
theorem dX0_dropAllOf_2 : decode cX0_dropAllOf 2 = .ok (.iload_n 2, 1) := by decide +kernel
theorem dX0_dropAllOf_3 : decode cX0_dropAllOf 3 = .ok (.iconst 4, 1) := by decide +kernel
theorem dX0_dropAllOf_4 : decode cX0_dropAllOf 4 = .ok (.if_icmp .ge 28, 3) := by decide +kernel
theorem dX0_dropAllOf_7 : decode cX0_dropAllOf 7 = .ok (.aload_n 0, 1) := by decide +kernel
theorem dX0_dropAllOf_8 : decode cX0_dropAllOf 8 = .ok (.getfield 11, 3) := by decide +kernel
theorem dX0_dropAllOf_11 : decode cX0_dropAllOf 11 = .ok (.iload_n 2, 1) := by decide +kernel
theorem dX0_dropAllOf_12 : decode cX0_dropAllOf 12 = .ok (.dup2, 1) := by decide +kernel
theorem dX0_dropAllOf_13 : decode cX0_dropAllOf 13 = .ok (.laload, 1) := by decide +kernel
theorem dX0_dropAllOf_14 : decode cX0_dropAllOf 14 = .ok (.aload_n 1, 1) := by decide +kernel
theorem dX0_dropAllOf_15 : decode cX0_dropAllOf 15 = .ok (.getfield 11, 3) := by decide +kernel
theorem dX0_dropAllOf_18 : decode cX0_dropAllOf 18 = .ok (.iload_n 2, 1) := by decide +kernel
theorem dX0_dropAllOf_19 : decode cX0_dropAllOf 19 = .ok (.laload, 1) := by decide +kernel
theorem dX0_dropAllOf_20 : decode cX0_dropAllOf 20 = .ok (.ldc2_w 19, 3) := by decide +kernel
theorem dX0_dropAllOf_23 : decode cX0_dropAllOf 23 = .ok (.lxor, 1) := by decide +kernel
theorem dX0_dropAllOf_24 : decode cX0_dropAllOf 24 = .ok (.land, 1) := by decide +kernel
theorem dX0_dropAllOf_25 : decode cX0_dropAllOf 25 = .ok (.lastore, 1) := by decide +kernel
theorem dX0_dropAllOf_26 : decode cX0_dropAllOf 26 = .ok (.iinc 2 1, 3) := by decide +kernel
theorem dX0_dropAllOf_29 : decode cX0_dropAllOf 29 = .ok (.goto (-27), 3) := by decide +kernel
theorem dX0_dropAllOf_32 : decode cX0_dropAllOf 32 = .ok (.return_, 1) := by decide +kernel
theorem dX0_become_0 : decode cX0_become 0 = .ok (.aload_n 1, 1) := by decide +kernel
theorem dX0_become_1 : decode cX0_become 1 = .ok (.getfield 11, 3) := by decide +kernel
theorem dX0_become_4 : decode cX0_become 4 = .ok (.iconst 0, 1) := by decide +kernel
theorem dX0_become_5 : decode cX0_become 5 = .ok (.aload_n 0, 1) := by decide +kernel
theorem dX0_become_6 : decode cX0_become 6 = .ok (.getfield 11, 3) := by decide +kernel
theorem dX0_become_9 : decode cX0_become 9 = .ok (.iconst 0, 1) := by decide +kernel
theorem dX0_become_10 : decode cX0_become 10 = .ok (.iconst 4, 1) := by decide +kernel
theorem dX0_become_11 : decode cX0_become 11 = .ok (.invokestatic 21, 3) := by decide +kernel
theorem dX0_become_14 : decode cX0_become 14 = .ok (.return_, 1) := by decide +kernel
set_option maxRecDepth 20000 in
theorem ggX0_size_X0_sizeWithin : GoodIn wsX0_size wsX0_sizeWithin := goodIn_r _ [5, 6, 7, 8, 9, 4, 10, 11, 12, 13, 14, 15, 16, 17, 18] (by decide +kernel) (by decide +kernel)
set_option maxRecDepth 20000 in
theorem gX0_size_X0_sizeWithin : GoodIn wsX0_size (wsV RX0 27 RX0 yX0_sizeWithin wsX0_sizeWithin) := goodIn_app (goodIn_of _ (by decide +kernel)) ggX0_size_X0_sizeWithin
theorem dX0_size_0 : decode cX0_size 0 = .ok (.aload_n 0, 1) := by decide +kernel
theorem dX0_size_1 : decode cX0_size 1 = .ok (.iconst 0, 1) := by decide +kernel
theorem dX0_size_2 : decode cX0_size 2 = .ok (.sipush 256, 3) := by decide +kernel
theorem dX0_size_5 : decode cX0_size 5 = .ok (.invokevirtual 27, 3) := by decide +kernel
theorem dX0_size_8 : decode cX0_size 8 = .ok (.ireturn, 1) := by decide +kernel
set_option maxRecDepth 20000 in
theorem ggX0_sizeWithin_X0_bitsBelow : GoodIn wsX0_sizeWithin wsX0_bitsBelow := goodIn_r _ [6, 2] (by decide +kernel) (by decide +kernel)
set_option maxRecDepth 20000 in
theorem gX0_sizeWithin_X0_bitsBelow : GoodIn wsX0_sizeWithin (va_wsS RX0 31 yX0_bitsBelow wsX0_bitsBelow) := goodIn_app (goodIn_of _ (by decide +kernel)) ggX0_sizeWithin_X0_bitsBelow
set_option maxRecDepth 20000 in
theorem ggX0_sizeWithin_J13_bitCount_95d88 : GoodIn wsX0_sizeWithin wsJ13_bitCount_95d88 := goodIn_r _ [10, 11, 12, 13] (by decide +kernel) (by decide +kernel)
set_option maxRecDepth 20000 in
theorem gX0_sizeWithin_J13_bitCount_95d88 : GoodIn wsX0_sizeWithin (va_wsS RX0 35 yJ13_bitCount_95d88 wsJ13_bitCount_95d88) := goodIn_app (goodIn_of _ (by decide +kernel)) ggX0_sizeWithin_J13_bitCount_95d88
theorem dX0_sizeWithin_0 : decode cX0_sizeWithin 0 = .ok (.iconst 0, 1) := by decide +kernel
theorem dX0_sizeWithin_1 : decode cX0_sizeWithin 1 = .ok (.istore_n 3, 1) := by decide +kernel
theorem dX0_sizeWithin_2 : decode cX0_sizeWithin 2 = .ok (.iconst 0, 1) := by decide +kernel
theorem dX0_sizeWithin_3 : decode cX0_sizeWithin 3 = .ok (.istore 4, 2) := by decide +kernel
theorem dX0_sizeWithin_5 : decode cX0_sizeWithin 5 = .ok (.iload 4, 2) := by decide +kernel
theorem dX0_sizeWithin_7 : decode cX0_sizeWithin 7 = .ok (.iconst 4, 1) := by decide +kernel
theorem dX0_sizeWithin_8 : decode cX0_sizeWithin 8 = .ok (.if_icmp .ge 49, 3) := by decide +kernel
theorem dX0_sizeWithin_11 : decode cX0_sizeWithin 11 = .ok (.iload 4, 2) := by decide +kernel
theorem dX0_sizeWithin_13 : decode cX0_sizeWithin 13 = .ok (.bipush 64, 2) := by decide +kernel
theorem dX0_sizeWithin_15 : decode cX0_sizeWithin 15 = .ok (.imul, 1) := by decide +kernel
theorem dX0_sizeWithin_16 : decode cX0_sizeWithin 16 = .ok (.istore 5, 2) := by decide +kernel
theorem dX0_sizeWithin_18 : decode cX0_sizeWithin 18 = .ok (.iload_n 3, 1) := by decide +kernel
theorem dX0_sizeWithin_19 : decode cX0_sizeWithin 19 = .ok (.aload_n 0, 1) := by decide +kernel
theorem dX0_sizeWithin_20 : decode cX0_sizeWithin 20 = .ok (.getfield 11, 3) := by decide +kernel
theorem dX0_sizeWithin_23 : decode cX0_sizeWithin 23 = .ok (.iload 4, 2) := by decide +kernel
theorem dX0_sizeWithin_25 : decode cX0_sizeWithin 25 = .ok (.laload, 1) := by decide +kernel
theorem dX0_sizeWithin_26 : decode cX0_sizeWithin 26 = .ok (.iload_n 2, 1) := by decide +kernel
theorem dX0_sizeWithin_27 : decode cX0_sizeWithin 27 = .ok (.iload 5, 2) := by decide +kernel
theorem dX0_sizeWithin_29 : decode cX0_sizeWithin 29 = .ok (.isub, 1) := by decide +kernel
theorem dX0_sizeWithin_30 : decode cX0_sizeWithin 30 = .ok (.invokestatic 31, 3) := by decide +kernel
theorem dX0_sizeWithin_33 : decode cX0_sizeWithin 33 = .ok (.land, 1) := by decide +kernel
theorem dX0_sizeWithin_34 : decode cX0_sizeWithin 34 = .ok (.iload_n 1, 1) := by decide +kernel
theorem dX0_sizeWithin_35 : decode cX0_sizeWithin 35 = .ok (.iload 5, 2) := by decide +kernel
theorem dX0_sizeWithin_37 : decode cX0_sizeWithin 37 = .ok (.isub, 1) := by decide +kernel
theorem dX0_sizeWithin_38 : decode cX0_sizeWithin 38 = .ok (.invokestatic 31, 3) := by decide +kernel
theorem dX0_sizeWithin_41 : decode cX0_sizeWithin 41 = .ok (.ldc2_w 19, 3) := by decide +kernel
theorem dX0_sizeWithin_44 : decode cX0_sizeWithin 44 = .ok (.lxor, 1) := by decide +kernel
theorem dX0_sizeWithin_45 : decode cX0_sizeWithin 45 = .ok (.land, 1) := by decide +kernel
theorem dX0_sizeWithin_46 : decode cX0_sizeWithin 46 = .ok (.invokestatic 35, 3) := by decide +kernel
theorem dX0_sizeWithin_49 : decode cX0_sizeWithin 49 = .ok (.iadd, 1) := by decide +kernel
theorem dX0_sizeWithin_50 : decode cX0_sizeWithin 50 = .ok (.istore_n 3, 1) := by decide +kernel
theorem dX0_sizeWithin_51 : decode cX0_sizeWithin 51 = .ok (.iinc 4 1, 3) := by decide +kernel
theorem dX0_sizeWithin_54 : decode cX0_sizeWithin 54 = .ok (.goto (-49), 3) := by decide +kernel
theorem dX0_sizeWithin_57 : decode cX0_sizeWithin 57 = .ok (.iload_n 3, 1) := by decide +kernel
theorem dX0_sizeWithin_58 : decode cX0_sizeWithin 58 = .ok (.ireturn, 1) := by decide +kernel
theorem dX0_bitsBelow_0 : decode cX0_bitsBelow 0 = .ok (.iload_n 0, 1) := by decide +kernel
theorem dX0_bitsBelow_1 : decode cX0_bitsBelow 1 = .ok (.ifCond .gt 5, 3) := by decide +kernel
theorem dX0_bitsBelow_4 : decode cX0_bitsBelow 4 = .ok (.lconst 0, 1) := by decide +kernel
theorem dX0_bitsBelow_5 : decode cX0_bitsBelow 5 = .ok (.lreturn, 1) := by decide +kernel
theorem dX0_bitsBelow_6 : decode cX0_bitsBelow 6 = .ok (.iload_n 0, 1) := by decide +kernel
theorem dX0_bitsBelow_7 : decode cX0_bitsBelow 7 = .ok (.bipush 64, 2) := by decide +kernel
theorem dX0_bitsBelow_9 : decode cX0_bitsBelow 9 = .ok (.if_icmp .ge 11, 3) := by decide +kernel
theorem dX0_bitsBelow_12 : decode cX0_bitsBelow 12 = .ok (.lconst 1, 1) := by decide +kernel
theorem dX0_bitsBelow_13 : decode cX0_bitsBelow 13 = .ok (.iload_n 0, 1) := by decide +kernel
theorem dX0_bitsBelow_14 : decode cX0_bitsBelow 14 = .ok (.lshl, 1) := by decide +kernel
theorem dX0_bitsBelow_15 : decode cX0_bitsBelow 15 = .ok (.lconst 1, 1) := by decide +kernel
theorem dX0_bitsBelow_16 : decode cX0_bitsBelow 16 = .ok (.lsub, 1) := by decide +kernel
theorem dX0_bitsBelow_17 : decode cX0_bitsBelow 17 = .ok (.goto 6, 3) := by decide +kernel
theorem dX0_bitsBelow_20 : decode cX0_bitsBelow 20 = .ok (.ldc2_w 19, 3) := by decide +kernel
theorem dX0_bitsBelow_23 : decode cX0_bitsBelow 23 = .ok (.lreturn, 1) := by decide +kernel
set_option maxRecDepth 20000 in
theorem ggX1_init_X2_init : GoodIn wsX1_init wsX2_init := goodIn_r _ [11, 12, 2, 3, 13, 14, 15, 16, 17, 18, 19, 20, 21, 22, 23, 24, 25, 26, 27, 28, 29, 30, 31, 35, 36, 37, 38, 39, 40, 41, 42, 43, 44, 45] (by decide +kernel) (by decide +kernel)
set_option maxRecDepth 20000 in
theorem gX1_init_X2_init_n24 : GoodIn wsX1_init (wsX2_init) := ggX1_init_X2_init
theorem dX1_init_0 : decode cX1_init 0 = .ok (.aload_n 0, 1) := by decide +kernel
theorem dX1_init_1 : decode cX1_init 1 = .ok (.invokespecial 3, 3) := by decide +kernel
theorem dX1_init_4 : decode cX1_init 4 = .ok (.aload_n 0, 1) := by decide +kernel
theorem dX1_init_5 : decode cX1_init 5 = .ok (.bipush 24, 2) := by decide +kernel
theorem dX1_init_7 : decode cX1_init 7 = .ok (.anewarray 9, 3) := by decide +kernel
theorem dX1_init_10 : decode cX1_init 10 = .ok (.putfield 11, 3) := by decide +kernel
theorem dX1_init_13 : decode cX1_init 13 = .ok (.aload_n 0, 1) := by decide +kernel
theorem dX1_init_14 : decode cX1_init 14 = .ok (.iconst 0, 1) := by decide +kernel
theorem dX1_init_15 : decode cX1_init 15 = .ok (.putfield 17, 3) := by decide +kernel
theorem dX1_init_18 : decode cX1_init 18 = .ok (.aload_n 0, 1) := by decide +kernel
theorem dX1_init_19 : decode cX1_init 19 = .ok (.iconst 0, 1) := by decide +kernel
theorem dX1_init_20 : decode cX1_init 20 = .ok (.putfield 21, 3) := by decide +kernel
theorem dX1_init_23 : decode cX1_init 23 = .ok (.iconst 0, 1) := by decide +kernel
theorem dX1_init_24 : decode cX1_init 24 = .ok (.istore_n 1, 1) := by decide +kernel
theorem dX1_init_25 : decode cX1_init 25 = .ok (.iload_n 1, 1) := by decide +kernel
theorem dX1_init_26 : decode cX1_init 26 = .ok (.bipush 24, 2) := by decide +kernel
theorem dX1_init_28 : decode cX1_init 28 = .ok (.if_icmp .ge 22, 3) := by decide +kernel
theorem dX1_init_31 : decode cX1_init 31 = .ok (.aload_n 0, 1) := by decide +kernel
theorem dX1_init_32 : decode cX1_init 32 = .ok (.getfield 11, 3) := by decide +kernel
theorem dX1_init_35 : decode cX1_init 35 = .ok (.iload_n 1, 1) := by decide +kernel
theorem dX1_init_36 : decode cX1_init 36 = .ok (.new 9, 3) := by decide +kernel
theorem dX1_init_39 : decode cX1_init 39 = .ok (.dup, 1) := by decide +kernel
theorem dX1_init_40 : decode cX1_init 40 = .ok (.invokespecial 24, 3) := by decide +kernel
theorem dX1_init_43 : decode cX1_init 43 = .ok (.aastore, 1) := by decide +kernel
theorem dX1_init_44 : decode cX1_init 44 = .ok (.iinc 1 1, 3) := by decide +kernel
theorem dX1_init_47 : decode cX1_init 47 = .ok (.goto (-22), 3) := by decide +kernel
theorem dX1_init_50 : decode cX1_init 50 = .ok (.return_, 1) := by decide +kernel
set_option maxRecDepth 20000 in
theorem ggX1_keep_X2_become : GoodIn wsX1_keep wsX2_become := goodIn_r _ [12, 13, 14, 15, 16, 17, 18, 19, 20, 21, 22, 23, 24, 25, 26, 27, 28, 29, 30, 31, 32, 33, 37, 38, 39, 40, 41, 42, 43, 44, 45, 46, 47] (by decide +kernel) (by decide +kernel)
set_option maxRecDepth 20000 in
theorem gX1_keep_X2_become : GoodIn wsX1_keep (wsV RX1 25 RX2 yX2_become wsX2_become) := goodIn_app (goodIn_of _ (by decide +kernel)) ggX1_keep_X2_become
theorem dX1_keep_0 : decode cX1_keep 0 = .ok (.aload_n 0, 1) := by decide +kernel
theorem dX1_keep_1 : decode cX1_keep 1 = .ok (.getfield 11, 3) := by decide +kernel
theorem dX1_keep_4 : decode cX1_keep 4 = .ok (.aload_n 0, 1) := by decide +kernel
theorem dX1_keep_5 : decode cX1_keep 5 = .ok (.getfield 17, 3) := by decide +kernel
theorem dX1_keep_8 : decode cX1_keep 8 = .ok (.aaload, 1) := by decide +kernel
theorem dX1_keep_9 : decode cX1_keep 9 = .ok (.aload_n 1, 1) := by decide +kernel
theorem dX1_keep_10 : decode cX1_keep 10 = .ok (.invokevirtual 25, 3) := by decide +kernel
theorem dX1_keep_13 : decode cX1_keep 13 = .ok (.aload_n 0, 1) := by decide +kernel
theorem dX1_keep_14 : decode cX1_keep 14 = .ok (.aload_n 0, 1) := by decide +kernel
theorem dX1_keep_15 : decode cX1_keep 15 = .ok (.getfield 17, 3) := by decide +kernel
theorem dX1_keep_18 : decode cX1_keep 18 = .ok (.iconst 1, 1) := by decide +kernel
theorem dX1_keep_19 : decode cX1_keep 19 = .ok (.iadd, 1) := by decide +kernel
theorem dX1_keep_20 : decode cX1_keep 20 = .ok (.bipush 24, 2) := by decide +kernel
theorem dX1_keep_22 : decode cX1_keep 22 = .ok (.if_icmp .ge 12, 3) := by decide +kernel
theorem dX1_keep_25 : decode cX1_keep 25 = .ok (.aload_n 0, 1) := by decide +kernel
theorem dX1_keep_26 : decode cX1_keep 26 = .ok (.getfield 17, 3) := by decide +kernel
theorem dX1_keep_29 : decode cX1_keep 29 = .ok (.iconst 1, 1) := by decide +kernel
theorem dX1_keep_30 : decode cX1_keep 30 = .ok (.iadd, 1) := by decide +kernel
theorem dX1_keep_31 : decode cX1_keep 31 = .ok (.goto 4, 3) := by decide +kernel
theorem dX1_keep_34 : decode cX1_keep 34 = .ok (.iconst 0, 1) := by decide +kernel
theorem dX1_keep_35 : decode cX1_keep 35 = .ok (.putfield 17, 3) := by decide +kernel
theorem dX1_keep_38 : decode cX1_keep 38 = .ok (.aload_n 0, 1) := by decide +kernel
theorem dX1_keep_39 : decode cX1_keep 39 = .ok (.bipush 24, 2) := by decide +kernel
theorem dX1_keep_41 : decode cX1_keep 41 = .ok (.aload_n 0, 1) := by decide +kernel
theorem dX1_keep_42 : decode cX1_keep 42 = .ok (.getfield 21, 3) := by decide +kernel
theorem dX1_keep_45 : decode cX1_keep 45 = .ok (.iconst 1, 1) := by decide +kernel
theorem dX1_keep_46 : decode cX1_keep 46 = .ok (.iadd, 1) := by decide +kernel
theorem dX1_keep_47 : decode cX1_keep 47 = .ok (.invokestatic 29, 3) := by decide +kernel
theorem dX1_keep_50 : decode cX1_keep 50 = .ok (.putfield 21, 3) := by decide +kernel
theorem dX1_keep_53 : decode cX1_keep 53 = .ok (.return_, 1) := by decide +kernel
set_option maxRecDepth 20000 in
theorem ggX1_takeBack_X2_become : GoodIn wsX1_takeBack wsX2_become := goodIn_r _ [8, 9, 10, 11, 12, 13, 14, 15, 16, 17, 18, 19, 20, 21, 22, 23, 24, 25, 26, 27, 28, 29, 33, 34, 35, 36, 37, 38, 39, 40, 41, 42, 43] (by decide +kernel) (by decide +kernel)
set_option maxRecDepth 20000 in
theorem gX1_takeBack_X2_become : GoodIn wsX1_takeBack (wsV RX1 25 RX2 yX2_become wsX2_become) := goodIn_app (goodIn_of _ (by decide +kernel)) ggX1_takeBack_X2_become
theorem dX1_takeBack_0 : decode cX1_takeBack 0 = .ok (.aload_n 0, 1) := by decide +kernel
theorem dX1_takeBack_1 : decode cX1_takeBack 1 = .ok (.getfield 21, 3) := by decide +kernel
theorem dX1_takeBack_4 : decode cX1_takeBack 4 = .ok (.ifCond .le 48, 3) := by decide +kernel
theorem dX1_takeBack_7 : decode cX1_takeBack 7 = .ok (.aload_n 0, 1) := by decide +kernel
theorem dX1_takeBack_8 : decode cX1_takeBack 8 = .ok (.aload_n 0, 1) := by decide +kernel
theorem dX1_takeBack_9 : decode cX1_takeBack 9 = .ok (.getfield 17, 3) := by decide +kernel
theorem dX1_takeBack_12 : decode cX1_takeBack 12 = .ok (.ifCond .le 12, 3) := by decide +kernel
theorem dX1_takeBack_15 : decode cX1_takeBack 15 = .ok (.aload_n 0, 1) := by decide +kernel
theorem dX1_takeBack_16 : decode cX1_takeBack 16 = .ok (.getfield 17, 3) := by decide +kernel
theorem dX1_takeBack_19 : decode cX1_takeBack 19 = .ok (.iconst 1, 1) := by decide +kernel
theorem dX1_takeBack_20 : decode cX1_takeBack 20 = .ok (.isub, 1) := by decide +kernel
theorem dX1_takeBack_21 : decode cX1_takeBack 21 = .ok (.goto 5, 3) := by decide +kernel
theorem dX1_takeBack_24 : decode cX1_takeBack 24 = .ok (.bipush 23, 2) := by decide +kernel
theorem dX1_takeBack_26 : decode cX1_takeBack 26 = .ok (.putfield 17, 3) := by decide +kernel
theorem dX1_takeBack_29 : decode cX1_takeBack 29 = .ok (.aload_n 0, 1) := by decide +kernel
theorem dX1_takeBack_30 : decode cX1_takeBack 30 = .ok (.dup, 1) := by decide +kernel
theorem dX1_takeBack_31 : decode cX1_takeBack 31 = .ok (.getfield 21, 3) := by decide +kernel
theorem dX1_takeBack_34 : decode cX1_takeBack 34 = .ok (.iconst 1, 1) := by decide +kernel
theorem dX1_takeBack_35 : decode cX1_takeBack 35 = .ok (.isub, 1) := by decide +kernel
theorem dX1_takeBack_36 : decode cX1_takeBack 36 = .ok (.putfield 21, 3) := by decide +kernel
theorem dX1_takeBack_39 : decode cX1_takeBack 39 = .ok (.aload_n 1, 1) := by decide +kernel
theorem dX1_takeBack_40 : decode cX1_takeBack 40 = .ok (.aload_n 0, 1) := by decide +kernel
theorem dX1_takeBack_41 : decode cX1_takeBack 41 = .ok (.getfield 11, 3) := by decide +kernel
theorem dX1_takeBack_44 : decode cX1_takeBack 44 = .ok (.aload_n 0, 1) := by decide +kernel
theorem dX1_takeBack_45 : decode cX1_takeBack 45 = .ok (.getfield 17, 3) := by decide +kernel
theorem dX1_takeBack_48 : decode cX1_takeBack 48 = .ok (.aaload, 1) := by decide +kernel
theorem dX1_takeBack_49 : decode cX1_takeBack 49 = .ok (.invokevirtual 25, 3) := by decide +kernel
theorem dX1_takeBack_52 : decode cX1_takeBack 52 = .ok (.return_, 1) := by decide +kernel
set_option maxRecDepth 20000 in
theorem ggX2_init_X0_init : GoodIn wsX2_init wsX0_init := goodIn_r _ [20, 21, 2, 3, 4, 22, 33] (by decide +kernel) (by decide +kernel)
set_option maxRecDepth 20000 in
theorem gX2_init_X0_init_n24 : GoodIn wsX2_init (wsX0_init) := ggX2_init_X0_init
theorem dX2_init_0 : decode cX2_init 0 = .ok (.aload_n 0, 1) := by decide +kernel
theorem dX2_init_1 : decode cX2_init 1 = .ok (.invokespecial 3, 3) := by decide +kernel
theorem dX2_init_4 : decode cX2_init 4 = .ok (.aload_n 0, 1) := by decide +kernel
theorem dX2_init_5 : decode cX2_init 5 = .ok (.sipush 256, 3) := by decide +kernel
theorem dX2_init_8 : decode cX2_init 8 = .ok (.newarray .long, 2) := by decide +kernel
theorem dX2_init_10 : decode cX2_init 10 = .ok (.putfield 9, 3) := by decide +kernel
theorem dX2_init_13 : decode cX2_init 13 = .ok (.aload_n 0, 1) := by decide +kernel
theorem dX2_init_14 : decode cX2_init 14 = .ok (.bipush 8, 2) := by decide +kernel
theorem dX2_init_16 : decode cX2_init 16 = .ok (.newarray .long, 2) := by decide +kernel
theorem dX2_init_18 : decode cX2_init 18 = .ok (.putfield 15, 3) := by decide +kernel
theorem dX2_init_21 : decode cX2_init 21 = .ok (.aload_n 0, 1) := by decide +kernel
theorem dX2_init_22 : decode cX2_init 22 = .ok (.bipush 7, 2) := by decide +kernel
theorem dX2_init_24 : decode cX2_init 24 = .ok (.newarray .int, 2) := by decide +kernel
theorem dX2_init_26 : decode cX2_init 26 = .ok (.putfield 18, 3) := by decide +kernel
theorem dX2_init_29 : decode cX2_init 29 = .ok (.aload_n 0, 1) := by decide +kernel
theorem dX2_init_30 : decode cX2_init 30 = .ok (.new 22, 3) := by decide +kernel
theorem dX2_init_33 : decode cX2_init 33 = .ok (.dup, 1) := by decide +kernel
theorem dX2_init_34 : decode cX2_init 34 = .ok (.invokespecial 24, 3) := by decide +kernel
theorem dX2_init_37 : decode cX2_init 37 = .ok (.putfield 25, 3) := by decide +kernel
theorem dX2_init_40 : decode cX2_init 40 = .ok (.aload_n 0, 1) := by decide +kernel
theorem dX2_init_41 : decode cX2_init 41 = .ok (.new 22, 3) := by decide +kernel
theorem dX2_init_44 : decode cX2_init 44 = .ok (.dup, 1) := by decide +kernel
theorem dX2_init_45 : decode cX2_init 45 = .ok (.invokespecial 24, 3) := by decide +kernel
theorem dX2_init_48 : decode cX2_init 48 = .ok (.putfield 29, 3) := by decide +kernel
theorem dX2_init_51 : decode cX2_init 51 = .ok (.aload_n 0, 1) := by decide +kernel
theorem dX2_init_52 : decode cX2_init 52 = .ok (.new 22, 3) := by decide +kernel
theorem dX2_init_55 : decode cX2_init 55 = .ok (.dup, 1) := by decide +kernel
theorem dX2_init_56 : decode cX2_init 56 = .ok (.invokespecial 24, 3) := by decide +kernel
theorem dX2_init_59 : decode cX2_init 59 = .ok (.putfield 32, 3) := by decide +kernel
theorem dX2_init_62 : decode cX2_init 62 = .ok (.aload_n 0, 1) := by decide +kernel
theorem dX2_init_63 : decode cX2_init 63 = .ok (.new 22, 3) := by decide +kernel
theorem dX2_init_66 : decode cX2_init 66 = .ok (.dup, 1) := by decide +kernel
theorem dX2_init_67 : decode cX2_init 67 = .ok (.invokespecial 24, 3) := by decide +kernel
theorem dX2_init_70 : decode cX2_init 70 = .ok (.putfield 35, 3) := by decide +kernel
theorem dX2_init_73 : decode cX2_init 73 = .ok (.aload_n 0, 1) := by decide +kernel
theorem dX2_init_74 : decode cX2_init 74 = .ok (.iconst 0, 1) := by decide +kernel
theorem dX2_init_75 : decode cX2_init 75 = .ok (.putfield 38, 3) := by decide +kernel
theorem dX2_init_78 : decode cX2_init 78 = .ok (.aload_n 0, 1) := by decide +kernel
theorem dX2_init_79 : decode cX2_init 79 = .ok (.iconst 0, 1) := by decide +kernel
theorem dX2_init_80 : decode cX2_init 80 = .ok (.putfield 42, 3) := by decide +kernel
theorem dX2_init_83 : decode cX2_init 83 = .ok (.aload_n 0, 1) := by decide +kernel
theorem dX2_init_84 : decode cX2_init 84 = .ok (.iconst 0, 1) := by decide +kernel
theorem dX2_init_85 : decode cX2_init 85 = .ok (.putfield 46, 3) := by decide +kernel
theorem dX2_init_88 : decode cX2_init 88 = .ok (.return_, 1) := by decide +kernel
set_option maxRecDepth 20000 in
theorem ggX2_become_X0_become : GoodIn wsX2_become wsX0_become := goodIn_r _ [19, 20, 21, 3, 4, 5, 32] (by decide +kernel) (by decide +kernel)
set_option maxRecDepth 20000 in
theorem gX2_become_X0_become : GoodIn wsX2_become (wsV RX2 55 RX0 yX0_become wsX0_become) := goodIn_app (goodIn_of _ (by decide +kernel)) ggX2_become_X0_become
theorem dX2_become_0 : decode cX2_become 0 = .ok (.aload_n 1, 1) := by decide +kernel
theorem dX2_become_1 : decode cX2_become 1 = .ok (.getfield 9, 3) := by decide +kernel
theorem dX2_become_4 : decode cX2_become 4 = .ok (.iconst 0, 1) := by decide +kernel
theorem dX2_become_5 : decode cX2_become 5 = .ok (.aload_n 0, 1) := by decide +kernel
theorem dX2_become_6 : decode cX2_become 6 = .ok (.getfield 9, 3) := by decide +kernel
theorem dX2_become_9 : decode cX2_become 9 = .ok (.iconst 0, 1) := by decide +kernel
theorem dX2_become_10 : decode cX2_become 10 = .ok (.sipush 256, 3) := by decide +kernel
theorem dX2_become_13 : decode cX2_become 13 = .ok (.invokestatic 49, 3) := by decide +kernel
theorem dX2_become_16 : decode cX2_become 16 = .ok (.aload_n 1, 1) := by decide +kernel
theorem dX2_become_17 : decode cX2_become 17 = .ok (.getfield 15, 3) := by decide +kernel
theorem dX2_become_20 : decode cX2_become 20 = .ok (.iconst 0, 1) := by decide +kernel
theorem dX2_become_21 : decode cX2_become 21 = .ok (.aload_n 0, 1) := by decide +kernel
theorem dX2_become_22 : decode cX2_become 22 = .ok (.getfield 15, 3) := by decide +kernel
theorem dX2_become_25 : decode cX2_become 25 = .ok (.iconst 0, 1) := by decide +kernel
theorem dX2_become_26 : decode cX2_become 26 = .ok (.bipush 8, 2) := by decide +kernel
theorem dX2_become_28 : decode cX2_become 28 = .ok (.invokestatic 49, 3) := by decide +kernel
theorem dX2_become_31 : decode cX2_become 31 = .ok (.aload_n 1, 1) := by decide +kernel
theorem dX2_become_32 : decode cX2_become 32 = .ok (.getfield 18, 3) := by decide +kernel
theorem dX2_become_35 : decode cX2_become 35 = .ok (.iconst 0, 1) := by decide +kernel
theorem dX2_become_36 : decode cX2_become 36 = .ok (.aload_n 0, 1) := by decide +kernel
theorem dX2_become_37 : decode cX2_become 37 = .ok (.getfield 18, 3) := by decide +kernel
theorem dX2_become_40 : decode cX2_become 40 = .ok (.iconst 0, 1) := by decide +kernel
theorem dX2_become_41 : decode cX2_become 41 = .ok (.bipush 7, 2) := by decide +kernel
theorem dX2_become_43 : decode cX2_become 43 = .ok (.invokestatic 49, 3) := by decide +kernel
theorem dX2_become_46 : decode cX2_become 46 = .ok (.aload_n 0, 1) := by decide +kernel
theorem dX2_become_47 : decode cX2_become 47 = .ok (.getfield 25, 3) := by decide +kernel
theorem dX2_become_50 : decode cX2_become 50 = .ok (.aload_n 1, 1) := by decide +kernel
theorem dX2_become_51 : decode cX2_become 51 = .ok (.getfield 25, 3) := by decide +kernel
theorem dX2_become_54 : decode cX2_become 54 = .ok (.invokevirtual 55, 3) := by decide +kernel
theorem dX2_become_57 : decode cX2_become 57 = .ok (.aload_n 0, 1) := by decide +kernel
theorem dX2_become_58 : decode cX2_become 58 = .ok (.getfield 29, 3) := by decide +kernel
theorem dX2_become_61 : decode cX2_become 61 = .ok (.aload_n 1, 1) := by decide +kernel
theorem dX2_become_62 : decode cX2_become 62 = .ok (.getfield 29, 3) := by decide +kernel
theorem dX2_become_65 : decode cX2_become 65 = .ok (.invokevirtual 55, 3) := by decide +kernel
theorem dX2_become_68 : decode cX2_become 68 = .ok (.aload_n 0, 1) := by decide +kernel
theorem dX2_become_69 : decode cX2_become 69 = .ok (.getfield 32, 3) := by decide +kernel
theorem dX2_become_72 : decode cX2_become 72 = .ok (.aload_n 1, 1) := by decide +kernel
theorem dX2_become_73 : decode cX2_become 73 = .ok (.getfield 32, 3) := by decide +kernel
theorem dX2_become_76 : decode cX2_become 76 = .ok (.invokevirtual 55, 3) := by decide +kernel
theorem dX2_become_79 : decode cX2_become 79 = .ok (.aload_n 0, 1) := by decide +kernel
theorem dX2_become_80 : decode cX2_become 80 = .ok (.getfield 35, 3) := by decide +kernel
theorem dX2_become_83 : decode cX2_become 83 = .ok (.aload_n 1, 1) := by decide +kernel
theorem dX2_become_84 : decode cX2_become 84 = .ok (.getfield 35, 3) := by decide +kernel
theorem dX2_become_87 : decode cX2_become 87 = .ok (.invokevirtual 55, 3) := by decide +kernel
theorem dX2_become_90 : decode cX2_become 90 = .ok (.aload_n 0, 1) := by decide +kernel
theorem dX2_become_91 : decode cX2_become 91 = .ok (.aload_n 1, 1) := by decide +kernel
theorem dX2_become_92 : decode cX2_become 92 = .ok (.getfield 38, 3) := by decide +kernel
theorem dX2_become_95 : decode cX2_become 95 = .ok (.putfield 38, 3) := by decide +kernel
theorem dX2_become_98 : decode cX2_become 98 = .ok (.aload_n 0, 1) := by decide +kernel
theorem dX2_become_99 : decode cX2_become 99 = .ok (.aload_n 1, 1) := by decide +kernel
theorem dX2_become_100 : decode cX2_become 100 = .ok (.getfield 42, 3) := by decide +kernel
theorem dX2_become_103 : decode cX2_become 103 = .ok (.putfield 42, 3) := by decide +kernel
theorem dX2_become_106 : decode cX2_become 106 = .ok (.aload_n 0, 1) := by decide +kernel
theorem dX2_become_107 : decode cX2_become 107 = .ok (.aload_n 1, 1) := by decide +kernel
theorem dX2_become_108 : decode cX2_become 108 = .ok (.getfield 46, 3) := by decide +kernel
theorem dX2_become_111 : decode cX2_become 111 = .ok (.putfield 46, 3) := by decide +kernel
theorem dX2_become_114 : decode cX2_become 114 = .ok (.return_, 1) := by decide +kernel
set_option maxRecDepth 20000 in
theorem ggX2_useOf_X0_has : GoodIn wsX2_useOf wsX0_has := goodIn_r _ [7, 8, 9, 10, 11, 22] (by decide +kernel) (by decide +kernel)
set_option maxRecDepth 20000 in
theorem gX2_useOf_X0_has : GoodIn wsX2_useOf (wsV RX2 59 RX0 yX0_has wsX0_has) := goodIn_app (goodIn_of _ (by decide +kernel)) ggX2_useOf_X0_has
theorem dX2_useOf_0 : decode cX2_useOf 0 = .ok (.aload_n 0, 1) := by decide +kernel
theorem dX2_useOf_1 : decode cX2_useOf 1 = .ok (.getfield 25, 3) := by decide +kernel
theorem dX2_useOf_4 : decode cX2_useOf 4 = .ok (.iload_n 1, 1) := by decide +kernel
theorem dX2_useOf_5 : decode cX2_useOf 5 = .ok (.invokevirtual 59, 3) := by decide +kernel
theorem dX2_useOf_8 : decode cX2_useOf 8 = .ok (.ifCond .eq 5, 3) := by decide +kernel
theorem dX2_useOf_11 : decode cX2_useOf 11 = .ok (.iconst 1, 1) := by decide +kernel
theorem dX2_useOf_12 : decode cX2_useOf 12 = .ok (.ireturn, 1) := by decide +kernel
theorem dX2_useOf_13 : decode cX2_useOf 13 = .ok (.aload_n 0, 1) := by decide +kernel
theorem dX2_useOf_14 : decode cX2_useOf 14 = .ok (.getfield 29, 3) := by decide +kernel
theorem dX2_useOf_17 : decode cX2_useOf 17 = .ok (.iload_n 1, 1) := by decide +kernel
theorem dX2_useOf_18 : decode cX2_useOf 18 = .ok (.invokevirtual 59, 3) := by decide +kernel
theorem dX2_useOf_21 : decode cX2_useOf 21 = .ok (.ifCond .eq 7, 3) := by decide +kernel
theorem dX2_useOf_24 : decode cX2_useOf 24 = .ok (.iconst 2, 1) := by decide +kernel
theorem dX2_useOf_25 : decode cX2_useOf 25 = .ok (.goto 4, 3) := by decide +kernel
theorem dX2_useOf_28 : decode cX2_useOf 28 = .ok (.iconst 0, 1) := by decide +kernel
theorem dX2_useOf_29 : decode cX2_useOf 29 = .ok (.ireturn, 1) := by decide +kernel
set_option maxRecDepth 20000 in
theorem ggX2_firstFreeRow_X2_useOf : GoodIn wsX2_firstFreeRow wsX2_useOf := goodIn_r _ [5, 6, 7, 8, 9, 10, 11, 12, 13, 14, 15, 16, 17, 18, 19, 20, 21, 22, 23, 24, 25, 26, 27] (by decide +kernel) (by decide +kernel)
set_option maxRecDepth 20000 in
theorem gX2_firstFreeRow_X2_useOf : GoodIn wsX2_firstFreeRow (wsV RX2 63 RX2 yX2_useOf wsX2_useOf) := goodIn_app (goodIn_of _ (by decide +kernel)) ggX2_firstFreeRow_X2_useOf
theorem dX2_firstFreeRow_0 : decode cX2_firstFreeRow 0 = .ok (.iconst 0, 1) := by decide +kernel
theorem dX2_firstFreeRow_1 : decode cX2_firstFreeRow 1 = .ok (.istore_n 2, 1) := by decide +kernel
theorem dX2_firstFreeRow_2 : decode cX2_firstFreeRow 2 = .ok (.iconst 0, 1) := by decide +kernel
theorem dX2_firstFreeRow_3 : decode cX2_firstFreeRow 3 = .ok (.istore_n 3, 1) := by decide +kernel
theorem dX2_firstFreeRow_4 : decode cX2_firstFreeRow 4 = .ok (.iload_n 3, 1) := by decide +kernel
theorem dX2_firstFreeRow_5 : decode cX2_firstFreeRow 5 = .ok (.sipush 256, 3) := by decide +kernel
theorem dX2_firstFreeRow_8 : decode cX2_firstFreeRow 8 = .ok (.if_icmp .ge 36, 3) := by decide +kernel
theorem dX2_firstFreeRow_11 : decode cX2_firstFreeRow 11 = .ok (.aload_n 0, 1) := by decide +kernel
theorem dX2_firstFreeRow_12 : decode cX2_firstFreeRow 12 = .ok (.iload_n 3, 1) := by decide +kernel
theorem dX2_firstFreeRow_13 : decode cX2_firstFreeRow 13 = .ok (.invokevirtual 63, 3) := by decide +kernel
theorem dX2_firstFreeRow_16 : decode cX2_firstFreeRow 16 = .ok (.ifCond .ne 9, 3) := by decide +kernel
theorem dX2_firstFreeRow_19 : decode cX2_firstFreeRow 19 = .ok (.iload_n 2, 1) := by decide +kernel
theorem dX2_firstFreeRow_20 : decode cX2_firstFreeRow 20 = .ok (.iconst 1, 1) := by decide +kernel
theorem dX2_firstFreeRow_21 : decode cX2_firstFreeRow 21 = .ok (.iadd, 1) := by decide +kernel
theorem dX2_firstFreeRow_22 : decode cX2_firstFreeRow 22 = .ok (.goto 4, 3) := by decide +kernel
theorem dX2_firstFreeRow_25 : decode cX2_firstFreeRow 25 = .ok (.iconst 0, 1) := by decide +kernel
theorem dX2_firstFreeRow_26 : decode cX2_firstFreeRow 26 = .ok (.istore_n 2, 1) := by decide +kernel
theorem dX2_firstFreeRow_27 : decode cX2_firstFreeRow 27 = .ok (.iload_n 2, 1) := by decide +kernel
theorem dX2_firstFreeRow_28 : decode cX2_firstFreeRow 28 = .ok (.iload_n 1, 1) := by decide +kernel
theorem dX2_firstFreeRow_29 : decode cX2_firstFreeRow 29 = .ok (.if_icmp .ne 9, 3) := by decide +kernel
theorem dX2_firstFreeRow_32 : decode cX2_firstFreeRow 32 = .ok (.iload_n 3, 1) := by decide +kernel
theorem dX2_firstFreeRow_33 : decode cX2_firstFreeRow 33 = .ok (.iload_n 1, 1) := by decide +kernel
theorem dX2_firstFreeRow_34 : decode cX2_firstFreeRow 34 = .ok (.isub, 1) := by decide +kernel
theorem dX2_firstFreeRow_35 : decode cX2_firstFreeRow 35 = .ok (.iconst 1, 1) := by decide +kernel
theorem dX2_firstFreeRow_36 : decode cX2_firstFreeRow 36 = .ok (.iadd, 1) := by decide +kernel
theorem dX2_firstFreeRow_37 : decode cX2_firstFreeRow 37 = .ok (.ireturn, 1) := by decide +kernel
theorem dX2_firstFreeRow_38 : decode cX2_firstFreeRow 38 = .ok (.iinc 3 1, 3) := by decide +kernel
theorem dX2_firstFreeRow_41 : decode cX2_firstFreeRow 41 = .ok (.goto (-37), 3) := by decide +kernel
theorem dX2_firstFreeRow_44 : decode cX2_firstFreeRow 44 = .ok (.iconst (-1), 1) := by decide +kernel
theorem dX2_firstFreeRow_45 : decode cX2_firstFreeRow 45 = .ok (.ireturn, 1) := by decide +kernel
set_option maxRecDepth 20000 in
theorem ggX2_giveOut_X0_add : GoodIn wsX2_giveOut wsX0_add := goodIn_r _ [8, 9, 10, 11, 12, 28] (by decide +kernel) (by decide +kernel)
set_option maxRecDepth 20000 in
theorem gX2_giveOut_X0_add : GoodIn wsX2_giveOut (wsV RX2 67 RX0 yX0_add wsX0_add) := goodIn_app (goodIn_of _ (by decide +kernel)) ggX2_giveOut_X0_add
set_option maxRecDepth 20000 in
theorem ggX2_giveOut_X3_ofNumber : GoodIn wsX2_giveOut wsX3_ofNumber := goodIn_r _ [16, 17] (by decide +kernel) (by decide +kernel)
set_option maxRecDepth 20000 in
theorem gX2_giveOut_X3_ofNumber : GoodIn wsX2_giveOut (va_wsS RX2 71 yX3_ofNumber wsX3_ofNumber) := goodIn_app (goodIn_of _ (by decide +kernel)) ggX2_giveOut_X3_ofNumber
theorem dX2_giveOut_0 : decode cX2_giveOut 0 = .ok (.aload_n 0, 1) := by decide +kernel
theorem dX2_giveOut_1 : decode cX2_giveOut 1 = .ok (.getfield 35, 3) := by decide +kernel
theorem dX2_giveOut_4 : decode cX2_giveOut 4 = .ok (.iload_n 1, 1) := by decide +kernel
theorem dX2_giveOut_5 : decode cX2_giveOut 5 = .ok (.invokevirtual 67, 3) := by decide +kernel
theorem dX2_giveOut_8 : decode cX2_giveOut 8 = .ok (.iload_n 1, 1) := by decide +kernel
theorem dX2_giveOut_9 : decode cX2_giveOut 9 = .ok (.istore_n 3, 1) := by decide +kernel
theorem dX2_giveOut_10 : decode cX2_giveOut 10 = .ok (.iload_n 3, 1) := by decide +kernel
theorem dX2_giveOut_11 : decode cX2_giveOut 11 = .ok (.iload_n 2, 1) := by decide +kernel
theorem dX2_giveOut_12 : decode cX2_giveOut 12 = .ok (.if_icmp .ge 27, 3) := by decide +kernel
theorem dX2_giveOut_15 : decode cX2_giveOut 15 = .ok (.aload_n 0, 1) := by decide +kernel
theorem dX2_giveOut_16 : decode cX2_giveOut 16 = .ok (.getfield 25, 3) := by decide +kernel
theorem dX2_giveOut_19 : decode cX2_giveOut 19 = .ok (.iload_n 3, 1) := by decide +kernel
theorem dX2_giveOut_20 : decode cX2_giveOut 20 = .ok (.invokevirtual 67, 3) := by decide +kernel
theorem dX2_giveOut_23 : decode cX2_giveOut 23 = .ok (.aload_n 0, 1) := by decide +kernel
theorem dX2_giveOut_24 : decode cX2_giveOut 24 = .ok (.getfield 9, 3) := by decide +kernel
theorem dX2_giveOut_27 : decode cX2_giveOut 27 = .ok (.iload_n 3, 1) := by decide +kernel
theorem dX2_giveOut_28 : decode cX2_giveOut 28 = .ok (.iconst 0, 1) := by decide +kernel
theorem dX2_giveOut_29 : decode cX2_giveOut 29 = .ok (.invokestatic 71, 3) := by decide +kernel
theorem dX2_giveOut_32 : decode cX2_giveOut 32 = .ok (.lastore, 1) := by decide +kernel
theorem dX2_giveOut_33 : decode cX2_giveOut 33 = .ok (.iinc 3 1, 3) := by decide +kernel
theorem dX2_giveOut_36 : decode cX2_giveOut 36 = .ok (.goto (-26), 3) := by decide +kernel
theorem dX2_giveOut_39 : decode cX2_giveOut 39 = .ok (.return_, 1) := by decide +kernel
set_option maxRecDepth 20000 in
theorem ggX2_giveBack_X0_drop : GoodIn wsX2_giveBack wsX0_drop := goodIn_r _ [8, 9, 10, 11, 12, 13, 28] (by decide +kernel) (by decide +kernel)
set_option maxRecDepth 20000 in
theorem gX2_giveBack_X0_drop : GoodIn wsX2_giveBack (wsV RX2 77 RX0 yX0_drop wsX0_drop) := goodIn_app (goodIn_of _ (by decide +kernel)) ggX2_giveBack_X0_drop
set_option maxRecDepth 20000 in
theorem ggX2_giveBack_X0_add : GoodIn wsX2_giveBack wsX0_add := goodIn_r _ [17, 9, 11, 12, 13, 28] (by decide +kernel) (by decide +kernel)
set_option maxRecDepth 20000 in
theorem gX2_giveBack_X0_add : GoodIn wsX2_giveBack (wsV RX2 67 RX0 yX0_add wsX0_add) := goodIn_app (goodIn_of _ (by decide +kernel)) ggX2_giveBack_X0_add
theorem dX2_giveBack_0 : decode cX2_giveBack 0 = .ok (.aload_n 0, 1) := by decide +kernel
theorem dX2_giveBack_1 : decode cX2_giveBack 1 = .ok (.getfield 35, 3) := by decide +kernel
theorem dX2_giveBack_4 : decode cX2_giveBack 4 = .ok (.iload_n 1, 1) := by decide +kernel
theorem dX2_giveBack_5 : decode cX2_giveBack 5 = .ok (.invokevirtual 77, 3) := by decide +kernel
theorem dX2_giveBack_8 : decode cX2_giveBack 8 = .ok (.iload_n 1, 1) := by decide +kernel
theorem dX2_giveBack_9 : decode cX2_giveBack 9 = .ok (.istore_n 3, 1) := by decide +kernel
theorem dX2_giveBack_10 : decode cX2_giveBack 10 = .ok (.iload_n 3, 1) := by decide +kernel
theorem dX2_giveBack_11 : decode cX2_giveBack 11 = .ok (.iload_n 2, 1) := by decide +kernel
theorem dX2_giveBack_12 : decode cX2_giveBack 12 = .ok (.if_icmp .ge 25, 3) := by decide +kernel
theorem dX2_giveBack_15 : decode cX2_giveBack 15 = .ok (.aload_n 0, 1) := by decide +kernel
theorem dX2_giveBack_16 : decode cX2_giveBack 16 = .ok (.getfield 25, 3) := by decide +kernel
theorem dX2_giveBack_19 : decode cX2_giveBack 19 = .ok (.iload_n 3, 1) := by decide +kernel
theorem dX2_giveBack_20 : decode cX2_giveBack 20 = .ok (.invokevirtual 77, 3) := by decide +kernel
theorem dX2_giveBack_23 : decode cX2_giveBack 23 = .ok (.aload_n 0, 1) := by decide +kernel
theorem dX2_giveBack_24 : decode cX2_giveBack 24 = .ok (.getfield 29, 3) := by decide +kernel
theorem dX2_giveBack_27 : decode cX2_giveBack 27 = .ok (.iload_n 3, 1) := by decide +kernel
theorem dX2_giveBack_28 : decode cX2_giveBack 28 = .ok (.invokevirtual 67, 3) := by decide +kernel
theorem dX2_giveBack_31 : decode cX2_giveBack 31 = .ok (.iinc 3 1, 3) := by decide +kernel
theorem dX2_giveBack_34 : decode cX2_giveBack 34 = .ok (.goto (-24), 3) := by decide +kernel
theorem dX2_giveBack_37 : decode cX2_giveBack 37 = .ok (.return_, 1) := by decide +kernel
set_option maxRecDepth 20000 in
theorem ggX2_isRange_X0_has : GoodIn wsX2_isRange wsX0_has := goodIn_r _ [7, 8, 9, 10, 11, 27] (by decide +kernel) (by decide +kernel)
set_option maxRecDepth 20000 in
theorem gX2_isRange_X0_has : GoodIn wsX2_isRange (wsV RX2 59 RX0 yX0_has wsX0_has) := goodIn_app (goodIn_of _ (by decide +kernel)) ggX2_isRange_X0_has
set_option maxRecDepth 20000 in
theorem ggX2_isRange_X2_rangeTo : GoodIn wsX2_isRange wsX2_rangeTo := goodIn_r _ [16, 1, 2, 3, 4, 5, 6, 7, 8, 9, 10, 11, 17, 18, 19, 20, 21, 22, 23, 24, 25, 26, 27] (by decide +kernel) (by decide +kernel)
set_option maxRecDepth 20000 in
theorem gX2_isRange_X2_rangeTo : GoodIn wsX2_isRange (wsV RX2 80 RX2 yX2_rangeTo wsX2_rangeTo) := goodIn_app (goodIn_of _ (by decide +kernel)) ggX2_isRange_X2_rangeTo
theorem dX2_isRange_0 : decode cX2_isRange 0 = .ok (.aload_n 0, 1) := by decide +kernel
theorem dX2_isRange_1 : decode cX2_isRange 1 = .ok (.getfield 25, 3) := by decide +kernel
theorem dX2_isRange_4 : decode cX2_isRange 4 = .ok (.iload_n 1, 1) := by decide +kernel
theorem dX2_isRange_5 : decode cX2_isRange 5 = .ok (.invokevirtual 59, 3) := by decide +kernel
theorem dX2_isRange_8 : decode cX2_isRange 8 = .ok (.ifCond .eq 27, 3) := by decide +kernel
theorem dX2_isRange_11 : decode cX2_isRange 11 = .ok (.aload_n 0, 1) := by decide +kernel
theorem dX2_isRange_12 : decode cX2_isRange 12 = .ok (.getfield 35, 3) := by decide +kernel
theorem dX2_isRange_15 : decode cX2_isRange 15 = .ok (.iload_n 1, 1) := by decide +kernel
theorem dX2_isRange_16 : decode cX2_isRange 16 = .ok (.invokevirtual 59, 3) := by decide +kernel
theorem dX2_isRange_19 : decode cX2_isRange 19 = .ok (.ifCond .eq 16, 3) := by decide +kernel
theorem dX2_isRange_22 : decode cX2_isRange 22 = .ok (.aload_n 0, 1) := by decide +kernel
theorem dX2_isRange_23 : decode cX2_isRange 23 = .ok (.iload_n 1, 1) := by decide +kernel
theorem dX2_isRange_24 : decode cX2_isRange 24 = .ok (.invokevirtual 80, 3) := by decide +kernel
theorem dX2_isRange_27 : decode cX2_isRange 27 = .ok (.iload_n 2, 1) := by decide +kernel
theorem dX2_isRange_28 : decode cX2_isRange 28 = .ok (.if_icmp .ne 7, 3) := by decide +kernel
theorem dX2_isRange_31 : decode cX2_isRange 31 = .ok (.iconst 1, 1) := by decide +kernel
theorem dX2_isRange_32 : decode cX2_isRange 32 = .ok (.goto 4, 3) := by decide +kernel
theorem dX2_isRange_35 : decode cX2_isRange 35 = .ok (.iconst 0, 1) := by decide +kernel
theorem dX2_isRange_36 : decode cX2_isRange 36 = .ok (.ireturn, 1) := by decide +kernel
set_option maxRecDepth 20000 in
theorem ggX2_rangeFrom_X0_has : GoodIn wsX2_rangeFrom wsX0_has := goodIn_r _ [6, 7, 8, 9, 10, 21] (by decide +kernel) (by decide +kernel)
set_option maxRecDepth 20000 in
theorem gX2_rangeFrom_X0_has : GoodIn wsX2_rangeFrom (wsV RX2 59 RX0 yX0_has wsX0_has) := goodIn_app (goodIn_of _ (by decide +kernel)) ggX2_rangeFrom_X0_has
theorem dX2_rangeFrom_0 : decode cX2_rangeFrom 0 = .ok (.iload_n 1, 1) := by decide +kernel
theorem dX2_rangeFrom_1 : decode cX2_rangeFrom 1 = .ok (.istore_n 2, 1) := by decide +kernel
theorem dX2_rangeFrom_2 : decode cX2_rangeFrom 2 = .ok (.iload_n 2, 1) := by decide +kernel
theorem dX2_rangeFrom_3 : decode cX2_rangeFrom 3 = .ok (.ifCond .le 20, 3) := by decide +kernel
theorem dX2_rangeFrom_6 : decode cX2_rangeFrom 6 = .ok (.aload_n 0, 1) := by decide +kernel
theorem dX2_rangeFrom_7 : decode cX2_rangeFrom 7 = .ok (.getfield 35, 3) := by decide +kernel
theorem dX2_rangeFrom_10 : decode cX2_rangeFrom 10 = .ok (.iload_n 2, 1) := by decide +kernel
theorem dX2_rangeFrom_11 : decode cX2_rangeFrom 11 = .ok (.invokevirtual 59, 3) := by decide +kernel
theorem dX2_rangeFrom_14 : decode cX2_rangeFrom 14 = .ok (.ifCond .ne 9, 3) := by decide +kernel
theorem dX2_rangeFrom_17 : decode cX2_rangeFrom 17 = .ok (.iinc 2 (-1), 3) := by decide +kernel
theorem dX2_rangeFrom_20 : decode cX2_rangeFrom 20 = .ok (.goto (-18), 3) := by decide +kernel
theorem dX2_rangeFrom_23 : decode cX2_rangeFrom 23 = .ok (.iload_n 2, 1) := by decide +kernel
theorem dX2_rangeFrom_24 : decode cX2_rangeFrom 24 = .ok (.ireturn, 1) := by decide +kernel
set_option maxRecDepth 20000 in
theorem ggX2_rangeTo_X0_has : GoodIn wsX2_rangeTo wsX0_has := goodIn_r _ [7, 8, 9, 10, 11, 22] (by decide +kernel) (by decide +kernel)
set_option maxRecDepth 20000 in
theorem gX2_rangeTo_X0_has : GoodIn wsX2_rangeTo (wsV RX2 59 RX0 yX0_has wsX0_has) := goodIn_app (goodIn_of _ (by decide +kernel)) ggX2_rangeTo_X0_has
theorem dX2_rangeTo_0 : decode cX2_rangeTo 0 = .ok (.iload_n 1, 1) := by decide +kernel
theorem dX2_rangeTo_1 : decode cX2_rangeTo 1 = .ok (.iconst 1, 1) := by decide +kernel
theorem dX2_rangeTo_2 : decode cX2_rangeTo 2 = .ok (.iadd, 1) := by decide +kernel
theorem dX2_rangeTo_3 : decode cX2_rangeTo 3 = .ok (.istore_n 2, 1) := by decide +kernel
theorem dX2_rangeTo_4 : decode cX2_rangeTo 4 = .ok (.iload_n 2, 1) := by decide +kernel
theorem dX2_rangeTo_5 : decode cX2_rangeTo 5 = .ok (.sipush 256, 3) := by decide +kernel
theorem dX2_rangeTo_8 : decode cX2_rangeTo 8 = .ok (.if_icmp .ge 31, 3) := by decide +kernel
theorem dX2_rangeTo_11 : decode cX2_rangeTo 11 = .ok (.aload_n 0, 1) := by decide +kernel
theorem dX2_rangeTo_12 : decode cX2_rangeTo 12 = .ok (.getfield 25, 3) := by decide +kernel
theorem dX2_rangeTo_15 : decode cX2_rangeTo 15 = .ok (.iload_n 2, 1) := by decide +kernel
theorem dX2_rangeTo_16 : decode cX2_rangeTo 16 = .ok (.invokevirtual 59, 3) := by decide +kernel
theorem dX2_rangeTo_19 : decode cX2_rangeTo 19 = .ok (.ifCond .eq 20, 3) := by decide +kernel
theorem dX2_rangeTo_22 : decode cX2_rangeTo 22 = .ok (.aload_n 0, 1) := by decide +kernel
theorem dX2_rangeTo_23 : decode cX2_rangeTo 23 = .ok (.getfield 35, 3) := by decide +kernel
theorem dX2_rangeTo_26 : decode cX2_rangeTo 26 = .ok (.iload_n 2, 1) := by decide +kernel
theorem dX2_rangeTo_27 : decode cX2_rangeTo 27 = .ok (.invokevirtual 59, 3) := by decide +kernel
theorem dX2_rangeTo_30 : decode cX2_rangeTo 30 = .ok (.ifCond .ne 9, 3) := by decide +kernel
theorem dX2_rangeTo_33 : decode cX2_rangeTo 33 = .ok (.iinc 2 1, 3) := by decide +kernel
theorem dX2_rangeTo_36 : decode cX2_rangeTo 36 = .ok (.goto (-32), 3) := by decide +kernel
theorem dX2_rangeTo_39 : decode cX2_rangeTo 39 = .ok (.iload_n 2, 1) := by decide +kernel
theorem dX2_rangeTo_40 : decode cX2_rangeTo 40 = .ok (.ireturn, 1) := by decide +kernel
set_option maxRecDepth 20000 in
theorem ggX2_pointersIn_X3_isPointer : GoodIn wsX2_pointersIn wsX3_isPointer := goodIn_r _ [5] (by decide +kernel) (by decide +kernel)
set_option maxRecDepth 20000 in
theorem gX2_pointersIn_X3_isPointer : GoodIn wsX2_pointersIn (va_wsS RX2 83 yX3_isPointer wsX3_isPointer) := goodIn_app (goodIn_of _ (by decide +kernel)) ggX2_pointersIn_X3_isPointer
set_option maxRecDepth 20000 in
theorem ggX2_pointersIn_X4_oneIf : GoodIn wsX2_pointersIn wsX4_oneIf := goodIn_r _ [8] (by decide +kernel) (by decide +kernel)
set_option maxRecDepth 20000 in
theorem gX2_pointersIn_X4_oneIf_n87 : GoodIn wsX2_pointersIn (wsX4_oneIf) := ggX2_pointersIn_X4_oneIf
theorem dX2_pointersIn_0 : decode cX2_pointersIn 0 = .ok (.iconst 0, 1) := by decide +kernel
theorem dX2_pointersIn_1 : decode cX2_pointersIn 1 = .ok (.istore_n 3, 1) := by decide +kernel
theorem dX2_pointersIn_2 : decode cX2_pointersIn 2 = .ok (.iload_n 1, 1) := by decide +kernel
theorem dX2_pointersIn_3 : decode cX2_pointersIn 3 = .ok (.istore 4, 2) := by decide +kernel
theorem dX2_pointersIn_5 : decode cX2_pointersIn 5 = .ok (.iload 4, 2) := by decide +kernel
theorem dX2_pointersIn_7 : decode cX2_pointersIn 7 = .ok (.iload_n 2, 1) := by decide +kernel
theorem dX2_pointersIn_8 : decode cX2_pointersIn 8 = .ok (.if_icmp .ge 25, 3) := by decide +kernel
theorem dX2_pointersIn_11 : decode cX2_pointersIn 11 = .ok (.iload_n 3, 1) := by decide +kernel
theorem dX2_pointersIn_12 : decode cX2_pointersIn 12 = .ok (.aload_n 0, 1) := by decide +kernel
theorem dX2_pointersIn_13 : decode cX2_pointersIn 13 = .ok (.getfield 9, 3) := by decide +kernel
theorem dX2_pointersIn_16 : decode cX2_pointersIn 16 = .ok (.iload 4, 2) := by decide +kernel
theorem dX2_pointersIn_18 : decode cX2_pointersIn 18 = .ok (.laload, 1) := by decide +kernel
theorem dX2_pointersIn_19 : decode cX2_pointersIn 19 = .ok (.invokestatic 83, 3) := by decide +kernel
theorem dX2_pointersIn_22 : decode cX2_pointersIn 22 = .ok (.invokestatic 87, 3) := by decide +kernel
theorem dX2_pointersIn_25 : decode cX2_pointersIn 25 = .ok (.iadd, 1) := by decide +kernel
theorem dX2_pointersIn_26 : decode cX2_pointersIn 26 = .ok (.istore_n 3, 1) := by decide +kernel
theorem dX2_pointersIn_27 : decode cX2_pointersIn 27 = .ok (.iinc 4 1, 3) := by decide +kernel
theorem dX2_pointersIn_30 : decode cX2_pointersIn 30 = .ok (.goto (-25), 3) := by decide +kernel
theorem dX2_pointersIn_33 : decode cX2_pointersIn 33 = .ok (.iload_n 3, 1) := by decide +kernel
theorem dX2_pointersIn_34 : decode cX2_pointersIn 34 = .ok (.ireturn, 1) := by decide +kernel
theorem dX2_isSeen_0 : decode cX2_isSeen 0 = .ok (.iload_n 1, 1) := by decide +kernel
theorem dX2_isSeen_1 : decode cX2_isSeen 1 = .ok (.aload_n 0, 1) := by decide +kernel
theorem dX2_isSeen_2 : decode cX2_isSeen 2 = .ok (.getfield 42, 3) := by decide +kernel
theorem dX2_isSeen_5 : decode cX2_isSeen 5 = .ok (.if_icmp .ge 7, 3) := by decide +kernel
theorem dX2_isSeen_8 : decode cX2_isSeen 8 = .ok (.iconst 1, 1) := by decide +kernel
theorem dX2_isSeen_9 : decode cX2_isSeen 9 = .ok (.goto 4, 3) := by decide +kernel
theorem dX2_isSeen_12 : decode cX2_isSeen 12 = .ok (.iconst 0, 1) := by decide +kernel
theorem dX2_isSeen_13 : decode cX2_isSeen 13 = .ok (.ireturn, 1) := by decide +kernel
theorem dX2_isDirty_0 : decode cX2_isDirty 0 = .ok (.aload_n 0, 1) := by decide +kernel
theorem dX2_isDirty_1 : decode cX2_isDirty 1 = .ok (.getfield 46, 3) := by decide +kernel
theorem dX2_isDirty_4 : decode cX2_isDirty 4 = .ok (.iload_n 1, 1) := by decide +kernel
theorem dX2_isDirty_5 : decode cX2_isDirty 5 = .ok (.ishr, 1) := by decide +kernel
theorem dX2_isDirty_6 : decode cX2_isDirty 6 = .ok (.iconst 1, 1) := by decide +kernel
theorem dX2_isDirty_7 : decode cX2_isDirty 7 = .ok (.iand, 1) := by decide +kernel
theorem dX2_isDirty_8 : decode cX2_isDirty 8 = .ok (.ifCond .eq 7, 3) := by decide +kernel
theorem dX2_isDirty_11 : decode cX2_isDirty 11 = .ok (.iconst 1, 1) := by decide +kernel
theorem dX2_isDirty_12 : decode cX2_isDirty 12 = .ok (.goto 4, 3) := by decide +kernel
theorem dX2_isDirty_15 : decode cX2_isDirty 15 = .ok (.iconst 0, 1) := by decide +kernel
theorem dX2_isDirty_16 : decode cX2_isDirty 16 = .ok (.ireturn, 1) := by decide +kernel
set_option maxRecDepth 20000 in
theorem ggX2_isStale_X3_isPointer : GoodIn wsX2_isStale wsX3_isPointer := goodIn_r _ [5] (by decide +kernel) (by decide +kernel)
set_option maxRecDepth 20000 in
theorem gX2_isStale_X3_isPointer : GoodIn wsX2_isStale (va_wsS RX2 83 yX3_isPointer wsX3_isPointer) := goodIn_app (goodIn_of _ (by decide +kernel)) ggX2_isStale_X3_isPointer
set_option maxRecDepth 20000 in
theorem ggX2_isStale_X3_from : GoodIn wsX2_isStale wsX3_from := goodIn_r _ [8] (by decide +kernel) (by decide +kernel)
set_option maxRecDepth 20000 in
theorem gX2_isStale_X3_from : GoodIn wsX2_isStale (va_wsS RX2 91 yX3_from wsX3_from) := goodIn_app (goodIn_of _ (by decide +kernel)) ggX2_isStale_X3_from
set_option maxRecDepth 20000 in
theorem ggX2_isStale_X3_to : GoodIn wsX2_isStale wsX3_to := goodIn_r _ [11] (by decide +kernel) (by decide +kernel)
set_option maxRecDepth 20000 in
theorem gX2_isStale_X3_to : GoodIn wsX2_isStale (va_wsS RX2 95 yX3_to wsX3_to) := goodIn_app (goodIn_of _ (by decide +kernel)) ggX2_isStale_X3_to
set_option maxRecDepth 20000 in
theorem ggX2_isStale_X0_sizeWithin : GoodIn wsX2_isStale wsX0_sizeWithin := goodIn_r _ [16, 17, 18, 19, 20, 15, 21, 22, 23, 24, 25, 26, 27, 28, 39] (by decide +kernel) (by decide +kernel)
set_option maxRecDepth 20000 in
theorem gX2_isStale_X0_sizeWithin : GoodIn wsX2_isStale (wsV RX2 98 RX0 yX0_sizeWithin wsX0_sizeWithin) := goodIn_app (goodIn_of _ (by decide +kernel)) ggX2_isStale_X0_sizeWithin
theorem dX2_isStale_0 : decode cX2_isStale 0 = .ok (.lload_n 1, 1) := by decide +kernel
theorem dX2_isStale_1 : decode cX2_isStale 1 = .ok (.invokestatic 83, 3) := by decide +kernel
theorem dX2_isStale_4 : decode cX2_isStale 4 = .ok (.ifCond .eq 25, 3) := by decide +kernel
theorem dX2_isStale_7 : decode cX2_isStale 7 = .ok (.aload_n 0, 1) := by decide +kernel
theorem dX2_isStale_8 : decode cX2_isStale 8 = .ok (.getfield 32, 3) := by decide +kernel
theorem dX2_isStale_11 : decode cX2_isStale 11 = .ok (.lload_n 1, 1) := by decide +kernel
theorem dX2_isStale_12 : decode cX2_isStale 12 = .ok (.invokestatic 91, 3) := by decide +kernel
theorem dX2_isStale_15 : decode cX2_isStale 15 = .ok (.lload_n 1, 1) := by decide +kernel
theorem dX2_isStale_16 : decode cX2_isStale 16 = .ok (.invokestatic 95, 3) := by decide +kernel
theorem dX2_isStale_19 : decode cX2_isStale 19 = .ok (.invokevirtual 98, 3) := by decide +kernel
theorem dX2_isStale_22 : decode cX2_isStale 22 = .ok (.ifCond .le 7, 3) := by decide +kernel
theorem dX2_isStale_25 : decode cX2_isStale 25 = .ok (.iconst 1, 1) := by decide +kernel
theorem dX2_isStale_26 : decode cX2_isStale 26 = .ok (.goto 4, 3) := by decide +kernel
theorem dX2_isStale_29 : decode cX2_isStale 29 = .ok (.iconst 0, 1) := by decide +kernel
theorem dX2_isStale_30 : decode cX2_isStale 30 = .ok (.ireturn, 1) := by decide +kernel
set_option maxRecDepth 20000 in
theorem ggX2_lookUp_X2_isStale : GoodIn wsX2_lookUp wsX2_isStale := goodIn_r _ [7, 8, 9, 10, 11, 12, 13, 14, 15, 16, 17, 18, 19, 20, 21, 22, 23, 24, 25, 26, 27, 28, 29, 30, 31, 32, 33, 34, 35, 43, 44, 45, 46, 47, 48, 49, 50, 51, 52, 53] (by decide +kernel) (by decide +kernel)
set_option maxRecDepth 20000 in
theorem gX2_lookUp_X2_isStale : GoodIn wsX2_lookUp (wsV RX2 102 RX2 yX2_isStale wsX2_isStale) := goodIn_app (goodIn_of _ (by decide +kernel)) ggX2_lookUp_X2_isStale
set_option maxRecDepth 20000 in
theorem ggX2_lookUp_X3_at : GoodIn wsX2_lookUp wsX3_at := goodIn_r _ [38] (by decide +kernel) (by decide +kernel)
set_option maxRecDepth 20000 in
theorem gX2_lookUp_X3_at : GoodIn wsX2_lookUp (va_wsS RX2 105 yX3_at wsX3_at) := goodIn_app (goodIn_of _ (by decide +kernel)) ggX2_lookUp_X3_at
set_option maxRecDepth 20000 in
theorem ggX2_lookUp_X3_ofNumber : GoodIn wsX2_lookUp wsX3_ofNumber := goodIn_r _ [41, 42] (by decide +kernel) (by decide +kernel)
set_option maxRecDepth 20000 in
theorem gX2_lookUp_X3_ofNumber : GoodIn wsX2_lookUp (va_wsS RX2 71 yX3_ofNumber wsX3_ofNumber) := goodIn_app (goodIn_of _ (by decide +kernel)) ggX2_lookUp_X3_ofNumber
theorem dX2_lookUp_0 : decode cX2_lookUp 0 = .ok (.aload_n 0, 1) := by decide +kernel
theorem dX2_lookUp_1 : decode cX2_lookUp 1 = .ok (.getfield 9, 3) := by decide +kernel
theorem dX2_lookUp_4 : decode cX2_lookUp 4 = .ok (.iload_n 1, 1) := by decide +kernel
theorem dX2_lookUp_5 : decode cX2_lookUp 5 = .ok (.laload, 1) := by decide +kernel
theorem dX2_lookUp_6 : decode cX2_lookUp 6 = .ok (.lstore_n 2, 1) := by decide +kernel
theorem dX2_lookUp_7 : decode cX2_lookUp 7 = .ok (.aload_n 0, 1) := by decide +kernel
theorem dX2_lookUp_8 : decode cX2_lookUp 8 = .ok (.lload_n 2, 1) := by decide +kernel
theorem dX2_lookUp_9 : decode cX2_lookUp 9 = .ok (.invokevirtual 102, 3) := by decide +kernel
theorem dX2_lookUp_12 : decode cX2_lookUp 12 = .ok (.ifCond .ne 5, 3) := by decide +kernel
theorem dX2_lookUp_15 : decode cX2_lookUp 15 = .ok (.lload_n 2, 1) := by decide +kernel
theorem dX2_lookUp_16 : decode cX2_lookUp 16 = .ok (.lreturn, 1) := by decide +kernel
theorem dX2_lookUp_17 : decode cX2_lookUp 17 = .ok (.aload_n 0, 1) := by decide +kernel
theorem dX2_lookUp_18 : decode cX2_lookUp 18 = .ok (.getfield 18, 3) := by decide +kernel
theorem dX2_lookUp_21 : decode cX2_lookUp 21 = .ok (.iconst 3, 1) := by decide +kernel
theorem dX2_lookUp_22 : decode cX2_lookUp 22 = .ok (.dup2, 1) := by decide +kernel
theorem dX2_lookUp_23 : decode cX2_lookUp 23 = .ok (.iaload, 1) := by decide +kernel
theorem dX2_lookUp_24 : decode cX2_lookUp 24 = .ok (.iconst 1, 1) := by decide +kernel
theorem dX2_lookUp_25 : decode cX2_lookUp 25 = .ok (.iadd, 1) := by decide +kernel
theorem dX2_lookUp_26 : decode cX2_lookUp 26 = .ok (.iastore, 1) := by decide +kernel
theorem dX2_lookUp_27 : decode cX2_lookUp 27 = .ok (.lload_n 2, 1) := by decide +kernel
theorem dX2_lookUp_28 : decode cX2_lookUp 28 = .ok (.invokestatic 105, 3) := by decide +kernel
theorem dX2_lookUp_31 : decode cX2_lookUp 31 = .ok (.invokestatic 71, 3) := by decide +kernel
theorem dX2_lookUp_34 : decode cX2_lookUp 34 = .ok (.lreturn, 1) := by decide +kernel
set_option maxRecDepth 20000 in
theorem ggX2_layDown_X3_isPointer : GoodIn wsX2_layDown wsX3_isPointer := goodIn_r _ [6] (by decide +kernel) (by decide +kernel)
set_option maxRecDepth 20000 in
theorem gX2_layDown_X3_isPointer : GoodIn wsX2_layDown (va_wsS RX2 83 yX3_isPointer wsX3_isPointer) := goodIn_app (goodIn_of _ (by decide +kernel)) ggX2_layDown_X3_isPointer
set_option maxRecDepth 20000 in
theorem ggX2_layDown_X2_isSeen : GoodIn wsX2_layDown wsX2_isSeen := goodIn_r _ [11, 12, 13, 14, 15, 16, 17, 18, 19, 20, 21, 22] (by decide +kernel) (by decide +kernel)
set_option maxRecDepth 20000 in
theorem gX2_layDown_X2_isSeen : GoodIn wsX2_layDown (wsV RX2 108 RX2 yX2_isSeen wsX2_isSeen) := goodIn_app (goodIn_of _ (by decide +kernel)) ggX2_layDown_X2_isSeen
theorem dX2_layDown_0 : decode cX2_layDown 0 = .ok (.aload_n 0, 1) := by decide +kernel
theorem dX2_layDown_1 : decode cX2_layDown 1 = .ok (.getfield 9, 3) := by decide +kernel
theorem dX2_layDown_4 : decode cX2_layDown 4 = .ok (.iload_n 1, 1) := by decide +kernel
theorem dX2_layDown_5 : decode cX2_layDown 5 = .ok (.lload_n 2, 1) := by decide +kernel
theorem dX2_layDown_6 : decode cX2_layDown 6 = .ok (.lastore, 1) := by decide +kernel
theorem dX2_layDown_7 : decode cX2_layDown 7 = .ok (.iload_n 1, 1) := by decide +kernel
theorem dX2_layDown_8 : decode cX2_layDown 8 = .ok (.bipush 16, 2) := by decide +kernel
theorem dX2_layDown_10 : decode cX2_layDown 10 = .ok (.idiv, 1) := by decide +kernel
theorem dX2_layDown_11 : decode cX2_layDown 11 = .ok (.istore 4, 2) := by decide +kernel
theorem dX2_layDown_13 : decode cX2_layDown 13 = .ok (.lload_n 2, 1) := by decide +kernel
theorem dX2_layDown_14 : decode cX2_layDown 14 = .ok (.invokestatic 83, 3) := by decide +kernel
theorem dX2_layDown_17 : decode cX2_layDown 17 = .ok (.ifCond .eq 25, 3) := by decide +kernel
theorem dX2_layDown_20 : decode cX2_layDown 20 = .ok (.aload_n 0, 1) := by decide +kernel
theorem dX2_layDown_21 : decode cX2_layDown 21 = .ok (.iload 4, 2) := by decide +kernel
theorem dX2_layDown_23 : decode cX2_layDown 23 = .ok (.invokevirtual 108, 3) := by decide +kernel
theorem dX2_layDown_26 : decode cX2_layDown 26 = .ok (.ifCond .eq 16, 3) := by decide +kernel
theorem dX2_layDown_29 : decode cX2_layDown 29 = .ok (.aload_n 0, 1) := by decide +kernel
theorem dX2_layDown_30 : decode cX2_layDown 30 = .ok (.dup, 1) := by decide +kernel
theorem dX2_layDown_31 : decode cX2_layDown 31 = .ok (.getfield 46, 3) := by decide +kernel
theorem dX2_layDown_34 : decode cX2_layDown 34 = .ok (.iconst 1, 1) := by decide +kernel
theorem dX2_layDown_35 : decode cX2_layDown 35 = .ok (.iload 4, 2) := by decide +kernel
theorem dX2_layDown_37 : decode cX2_layDown 37 = .ok (.ishl, 1) := by decide +kernel
theorem dX2_layDown_38 : decode cX2_layDown 38 = .ok (.ior, 1) := by decide +kernel
theorem dX2_layDown_39 : decode cX2_layDown 39 = .ok (.putfield 46, 3) := by decide +kernel
theorem dX2_layDown_42 : decode cX2_layDown 42 = .ok (.return_, 1) := by decide +kernel
set_option maxRecDepth 20000 in
theorem ggX2_beginSweep_X0_become : GoodIn wsX2_beginSweep wsX0_become := goodIn_r _ [8, 9, 10, 11, 12, 13, 43] (by decide +kernel) (by decide +kernel)
set_option maxRecDepth 20000 in
theorem gX2_beginSweep_X0_become : GoodIn wsX2_beginSweep (wsV RX2 55 RX0 yX0_become wsX0_become) := goodIn_app (goodIn_of _ (by decide +kernel)) ggX2_beginSweep_X0_become
set_option maxRecDepth 20000 in
theorem ggX2_beginSweep_X0_size : GoodIn wsX2_beginSweep wsX0_size := goodIn_r _ [17, 18, 19, 20, 7, 21, 9, 22, 23, 24, 25, 26, 27, 28, 29, 30, 31, 32, 43] (by decide +kernel) (by decide +kernel)
set_option maxRecDepth 20000 in
theorem gX2_beginSweep_X0_size : GoodIn wsX2_beginSweep (wsV RX2 111 RX0 yX0_size wsX0_size) := goodIn_app (goodIn_of _ (by decide +kernel)) ggX2_beginSweep_X0_size
theorem dX2_beginSweep_0 : decode cX2_beginSweep 0 = .ok (.aload_n 0, 1) := by decide +kernel
theorem dX2_beginSweep_1 : decode cX2_beginSweep 1 = .ok (.iconst 1, 1) := by decide +kernel
theorem dX2_beginSweep_2 : decode cX2_beginSweep 2 = .ok (.putfield 38, 3) := by decide +kernel
theorem dX2_beginSweep_5 : decode cX2_beginSweep 5 = .ok (.aload_n 0, 1) := by decide +kernel
theorem dX2_beginSweep_6 : decode cX2_beginSweep 6 = .ok (.getfield 32, 3) := by decide +kernel
theorem dX2_beginSweep_9 : decode cX2_beginSweep 9 = .ok (.aload_n 0, 1) := by decide +kernel
theorem dX2_beginSweep_10 : decode cX2_beginSweep 10 = .ok (.getfield 29, 3) := by decide +kernel
theorem dX2_beginSweep_13 : decode cX2_beginSweep 13 = .ok (.invokevirtual 55, 3) := by decide +kernel
theorem dX2_beginSweep_16 : decode cX2_beginSweep 16 = .ok (.aload_n 0, 1) := by decide +kernel
theorem dX2_beginSweep_17 : decode cX2_beginSweep 17 = .ok (.getfield 32, 3) := by decide +kernel
theorem dX2_beginSweep_20 : decode cX2_beginSweep 20 = .ok (.invokevirtual 111, 3) := by decide +kernel
theorem dX2_beginSweep_23 : decode cX2_beginSweep 23 = .ok (.ireturn, 1) := by decide +kernel
set_option maxRecDepth 20000 in
theorem ggX2_lookAtNextPages_X2_cleanPage : GoodIn wsX2_lookAtNextPages wsX2_cleanPage := goodIn_r _ [11, 12, 13, 14, 15, 10, 16, 17, 18, 19, 20, 21, 22, 23, 24, 25, 26, 27, 28, 29, 30, 31, 32, 33, 34, 35, 36, 37, 38, 39, 40, 41, 42, 43, 44, 45, 46, 47, 48, 49, 50, 51, 52, 53, 54, 55, 56, 57, 58, 59, 60, 61, 62, 63, 64, 65, 66] (by decide +kernel) (by decide +kernel)
set_option maxRecDepth 20000 in
theorem gX2_lookAtNextPages_X2_cleanPage : GoodIn wsX2_lookAtNextPages (wsV RX2 120 RX2 yX2_cleanPage wsX2_cleanPage) := goodIn_app (goodIn_of _ (by decide +kernel)) ggX2_lookAtNextPages_X2_cleanPage
theorem dX2_lookAtNextPages_0 : decode cX2_lookAtNextPages 0 = .ok (.bipush 16, 2) := by decide +kernel
theorem dX2_lookAtNextPages_2 : decode cX2_lookAtNextPages 2 = .ok (.aload_n 0, 1) := by decide +kernel
theorem dX2_lookAtNextPages_3 : decode cX2_lookAtNextPages 3 = .ok (.getfield 42, 3) := by decide +kernel
theorem dX2_lookAtNextPages_6 : decode cX2_lookAtNextPages 6 = .ok (.iload_n 1, 1) := by decide +kernel
theorem dX2_lookAtNextPages_7 : decode cX2_lookAtNextPages 7 = .ok (.iadd, 1) := by decide +kernel
theorem dX2_lookAtNextPages_8 : decode cX2_lookAtNextPages 8 = .ok (.invokestatic 115, 3) := by decide +kernel
theorem dX2_lookAtNextPages_11 : decode cX2_lookAtNextPages 11 = .ok (.istore_n 2, 1) := by decide +kernel
theorem dX2_lookAtNextPages_12 : decode cX2_lookAtNextPages 12 = .ok (.iconst 0, 1) := by decide +kernel
theorem dX2_lookAtNextPages_13 : decode cX2_lookAtNextPages 13 = .ok (.istore_n 3, 1) := by decide +kernel
theorem dX2_lookAtNextPages_14 : decode cX2_lookAtNextPages 14 = .ok (.aload_n 0, 1) := by decide +kernel
theorem dX2_lookAtNextPages_15 : decode cX2_lookAtNextPages 15 = .ok (.getfield 42, 3) := by decide +kernel
theorem dX2_lookAtNextPages_18 : decode cX2_lookAtNextPages 18 = .ok (.istore 4, 2) := by decide +kernel
theorem dX2_lookAtNextPages_20 : decode cX2_lookAtNextPages 20 = .ok (.iload 4, 2) := by decide +kernel
theorem dX2_lookAtNextPages_22 : decode cX2_lookAtNextPages 22 = .ok (.iload_n 2, 1) := by decide +kernel
theorem dX2_lookAtNextPages_23 : decode cX2_lookAtNextPages 23 = .ok (.if_icmp .ge 18, 3) := by decide +kernel
theorem dX2_lookAtNextPages_26 : decode cX2_lookAtNextPages 26 = .ok (.iload_n 3, 1) := by decide +kernel
theorem dX2_lookAtNextPages_27 : decode cX2_lookAtNextPages 27 = .ok (.aload_n 0, 1) := by decide +kernel
theorem dX2_lookAtNextPages_28 : decode cX2_lookAtNextPages 28 = .ok (.iload 4, 2) := by decide +kernel
theorem dX2_lookAtNextPages_30 : decode cX2_lookAtNextPages 30 = .ok (.invokevirtual 120, 3) := by decide +kernel
theorem dX2_lookAtNextPages_33 : decode cX2_lookAtNextPages 33 = .ok (.iadd, 1) := by decide +kernel
theorem dX2_lookAtNextPages_34 : decode cX2_lookAtNextPages 34 = .ok (.istore_n 3, 1) := by decide +kernel
theorem dX2_lookAtNextPages_35 : decode cX2_lookAtNextPages 35 = .ok (.iinc 4 1, 3) := by decide +kernel
theorem dX2_lookAtNextPages_38 : decode cX2_lookAtNextPages 38 = .ok (.goto (-18), 3) := by decide +kernel
theorem dX2_lookAtNextPages_41 : decode cX2_lookAtNextPages 41 = .ok (.aload_n 0, 1) := by decide +kernel
theorem dX2_lookAtNextPages_42 : decode cX2_lookAtNextPages 42 = .ok (.getfield 18, 3) := by decide +kernel
theorem dX2_lookAtNextPages_45 : decode cX2_lookAtNextPages 45 = .ok (.iconst 4, 1) := by decide +kernel
theorem dX2_lookAtNextPages_46 : decode cX2_lookAtNextPages 46 = .ok (.dup2, 1) := by decide +kernel
theorem dX2_lookAtNextPages_47 : decode cX2_lookAtNextPages 47 = .ok (.iaload, 1) := by decide +kernel
theorem dX2_lookAtNextPages_48 : decode cX2_lookAtNextPages 48 = .ok (.iload_n 2, 1) := by decide +kernel
theorem dX2_lookAtNextPages_49 : decode cX2_lookAtNextPages 49 = .ok (.aload_n 0, 1) := by decide +kernel
theorem dX2_lookAtNextPages_50 : decode cX2_lookAtNextPages 50 = .ok (.getfield 42, 3) := by decide +kernel
theorem dX2_lookAtNextPages_53 : decode cX2_lookAtNextPages 53 = .ok (.isub, 1) := by decide +kernel
theorem dX2_lookAtNextPages_54 : decode cX2_lookAtNextPages 54 = .ok (.iadd, 1) := by decide +kernel
theorem dX2_lookAtNextPages_55 : decode cX2_lookAtNextPages 55 = .ok (.iastore, 1) := by decide +kernel
theorem dX2_lookAtNextPages_56 : decode cX2_lookAtNextPages 56 = .ok (.aload_n 0, 1) := by decide +kernel
theorem dX2_lookAtNextPages_57 : decode cX2_lookAtNextPages 57 = .ok (.getfield 18, 3) := by decide +kernel
theorem dX2_lookAtNextPages_60 : decode cX2_lookAtNextPages 60 = .ok (.iconst 0, 1) := by decide +kernel
theorem dX2_lookAtNextPages_61 : decode cX2_lookAtNextPages 61 = .ok (.dup2, 1) := by decide +kernel
theorem dX2_lookAtNextPages_62 : decode cX2_lookAtNextPages 62 = .ok (.iaload, 1) := by decide +kernel
theorem dX2_lookAtNextPages_63 : decode cX2_lookAtNextPages 63 = .ok (.iload_n 3, 1) := by decide +kernel
theorem dX2_lookAtNextPages_64 : decode cX2_lookAtNextPages 64 = .ok (.iadd, 1) := by decide +kernel
theorem dX2_lookAtNextPages_65 : decode cX2_lookAtNextPages 65 = .ok (.iastore, 1) := by decide +kernel
theorem dX2_lookAtNextPages_66 : decode cX2_lookAtNextPages 66 = .ok (.aload_n 0, 1) := by decide +kernel
theorem dX2_lookAtNextPages_67 : decode cX2_lookAtNextPages 67 = .ok (.iload_n 2, 1) := by decide +kernel
theorem dX2_lookAtNextPages_68 : decode cX2_lookAtNextPages 68 = .ok (.putfield 42, 3) := by decide +kernel
theorem dX2_lookAtNextPages_71 : decode cX2_lookAtNextPages 71 = .ok (.iload_n 3, 1) := by decide +kernel
theorem dX2_lookAtNextPages_72 : decode cX2_lookAtNextPages 72 = .ok (.ireturn, 1) := by decide +kernel
set_option maxRecDepth 20000 in
theorem ggX2_finishSweep_X2_isDirty : GoodIn wsX2_finishSweep wsX2_isDirty := goodIn_r _ [12, 7, 69, 70, 71, 72, 73, 74, 75, 76, 77, 78] (by decide +kernel) (by decide +kernel)
set_option maxRecDepth 20000 in
theorem gX2_finishSweep_X2_isDirty : GoodIn wsX2_finishSweep (wsV RX2 123 RX2 yX2_isDirty wsX2_isDirty) := goodIn_app (goodIn_of _ (by decide +kernel)) ggX2_finishSweep_X2_isDirty
set_option maxRecDepth 20000 in
theorem ggX2_finishSweep_X2_cleanPage : GoodIn wsX2_finishSweep wsX2_cleanPage := goodIn_r _ [16, 17, 18, 19, 20, 11, 21, 22, 23, 24, 25, 3, 26, 27, 28, 29, 30, 31, 32, 33, 34, 35, 36, 37, 38, 39, 40, 41, 42, 43, 44, 45, 46, 47, 48, 49, 50, 51, 52, 53, 54, 55, 56, 57, 58, 59, 69, 70, 71, 72, 73, 74, 75, 76, 77, 78, 79] (by decide +kernel) (by decide +kernel)
set_option maxRecDepth 20000 in
theorem gX2_finishSweep_X2_cleanPage : GoodIn wsX2_finishSweep (wsV RX2 120 RX2 yX2_cleanPage wsX2_cleanPage) := goodIn_app (goodIn_of _ (by decide +kernel)) ggX2_finishSweep_X2_cleanPage
set_option maxRecDepth 20000 in
theorem ggX2_finishSweep_X2_clean : GoodIn wsX2_finishSweep wsX2_clean := goodIn_r _ [21, 22, 23, 24, 11, 25, 3, 26, 27, 28, 29, 30, 31, 32, 33, 34, 35, 36, 37, 38, 39, 40, 41, 42, 43, 44, 45, 46, 47, 48, 49, 50, 51, 52, 53, 54, 55, 56, 57, 58, 59, 69, 70, 71, 72, 73, 74, 75, 76, 77, 78, 79] (by decide +kernel) (by decide +kernel)
set_option maxRecDepth 20000 in
theorem gX2_finishSweep_X2_clean : GoodIn wsX2_finishSweep (wsV RX2 126 RX2 yX2_clean wsX2_clean) := goodIn_app (goodIn_of _ (by decide +kernel)) ggX2_finishSweep_X2_clean
set_option maxRecDepth 20000 in
theorem ggX2_finishSweep_X0_size : GoodIn wsX2_finishSweep wsX0_size := goodIn_r _ [63, 64, 37, 38, 39, 40, 41, 42, 43, 44, 45, 46, 47, 48, 49, 50, 51, 52, 79] (by decide +kernel) (by decide +kernel)
set_option maxRecDepth 20000 in
theorem gX2_finishSweep_X0_size : GoodIn wsX2_finishSweep (wsV RX2 111 RX0 yX0_size wsX0_size) := goodIn_app (goodIn_of _ (by decide +kernel)) ggX2_finishSweep_X0_size
set_option maxRecDepth 20000 in
theorem ggX2_finishSweep_X0_dropAllOf : GoodIn wsX2_finishSweep wsX0_dropAllOf := goodIn_r _ [68, 41, 42, 79] (by decide +kernel) (by decide +kernel)
set_option maxRecDepth 20000 in
theorem gX2_finishSweep_X0_dropAllOf : GoodIn wsX2_finishSweep (wsV RX2 130 RX0 yX0_dropAllOf wsX0_dropAllOf) := goodIn_app (goodIn_of _ (by decide +kernel)) ggX2_finishSweep_X0_dropAllOf
theorem dX2_finishSweep_0 : decode cX2_finishSweep 0 = .ok (.iconst 0, 1) := by decide +kernel
theorem dX2_finishSweep_1 : decode cX2_finishSweep 1 = .ok (.istore_n 1, 1) := by decide +kernel
theorem dX2_finishSweep_2 : decode cX2_finishSweep 2 = .ok (.iload_n 1, 1) := by decide +kernel
theorem dX2_finishSweep_3 : decode cX2_finishSweep 3 = .ok (.bipush 16, 2) := by decide +kernel
theorem dX2_finishSweep_5 : decode cX2_finishSweep 5 = .ok (.if_icmp .ge 41, 3) := by decide +kernel
theorem dX2_finishSweep_8 : decode cX2_finishSweep 8 = .ok (.aload_n 0, 1) := by decide +kernel
theorem dX2_finishSweep_9 : decode cX2_finishSweep 9 = .ok (.iload_n 1, 1) := by decide +kernel
theorem dX2_finishSweep_10 : decode cX2_finishSweep 10 = .ok (.invokevirtual 123, 3) := by decide +kernel
theorem dX2_finishSweep_13 : decode cX2_finishSweep 13 = .ok (.ifCond .eq 27, 3) := by decide +kernel
theorem dX2_finishSweep_16 : decode cX2_finishSweep 16 = .ok (.aload_n 0, 1) := by decide +kernel
theorem dX2_finishSweep_17 : decode cX2_finishSweep 17 = .ok (.getfield 18, 3) := by decide +kernel
theorem dX2_finishSweep_20 : decode cX2_finishSweep 20 = .ok (.iconst 1, 1) := by decide +kernel
theorem dX2_finishSweep_21 : decode cX2_finishSweep 21 = .ok (.dup2, 1) := by decide +kernel
theorem dX2_finishSweep_22 : decode cX2_finishSweep 22 = .ok (.iaload, 1) := by decide +kernel
theorem dX2_finishSweep_23 : decode cX2_finishSweep 23 = .ok (.aload_n 0, 1) := by decide +kernel
theorem dX2_finishSweep_24 : decode cX2_finishSweep 24 = .ok (.iload_n 1, 1) := by decide +kernel
theorem dX2_finishSweep_25 : decode cX2_finishSweep 25 = .ok (.invokevirtual 120, 3) := by decide +kernel
theorem dX2_finishSweep_28 : decode cX2_finishSweep 28 = .ok (.iadd, 1) := by decide +kernel
theorem dX2_finishSweep_29 : decode cX2_finishSweep 29 = .ok (.iastore, 1) := by decide +kernel
theorem dX2_finishSweep_30 : decode cX2_finishSweep 30 = .ok (.aload_n 0, 1) := by decide +kernel
theorem dX2_finishSweep_31 : decode cX2_finishSweep 31 = .ok (.getfield 18, 3) := by decide +kernel
theorem dX2_finishSweep_34 : decode cX2_finishSweep 34 = .ok (.iconst 5, 1) := by decide +kernel
theorem dX2_finishSweep_35 : decode cX2_finishSweep 35 = .ok (.dup2, 1) := by decide +kernel
theorem dX2_finishSweep_36 : decode cX2_finishSweep 36 = .ok (.iaload, 1) := by decide +kernel
theorem dX2_finishSweep_37 : decode cX2_finishSweep 37 = .ok (.iconst 1, 1) := by decide +kernel
theorem dX2_finishSweep_38 : decode cX2_finishSweep 38 = .ok (.iadd, 1) := by decide +kernel
theorem dX2_finishSweep_39 : decode cX2_finishSweep 39 = .ok (.iastore, 1) := by decide +kernel
theorem dX2_finishSweep_40 : decode cX2_finishSweep 40 = .ok (.iinc 1 1, 3) := by decide +kernel
theorem dX2_finishSweep_43 : decode cX2_finishSweep 43 = .ok (.goto (-41), 3) := by decide +kernel
theorem dX2_finishSweep_46 : decode cX2_finishSweep 46 = .ok (.aload_n 0, 1) := by decide +kernel
theorem dX2_finishSweep_47 : decode cX2_finishSweep 47 = .ok (.getfield 18, 3) := by decide +kernel
theorem dX2_finishSweep_50 : decode cX2_finishSweep 50 = .ok (.iconst 2, 1) := by decide +kernel
theorem dX2_finishSweep_51 : decode cX2_finishSweep 51 = .ok (.dup2, 1) := by decide +kernel
theorem dX2_finishSweep_52 : decode cX2_finishSweep 52 = .ok (.iaload, 1) := by decide +kernel
theorem dX2_finishSweep_53 : decode cX2_finishSweep 53 = .ok (.aload_n 0, 1) := by decide +kernel
theorem dX2_finishSweep_54 : decode cX2_finishSweep 54 = .ok (.aload_n 0, 1) := by decide +kernel
theorem dX2_finishSweep_55 : decode cX2_finishSweep 55 = .ok (.getfield 15, 3) := by decide +kernel
theorem dX2_finishSweep_58 : decode cX2_finishSweep 58 = .ok (.iconst 0, 1) := by decide +kernel
theorem dX2_finishSweep_59 : decode cX2_finishSweep 59 = .ok (.bipush 8, 2) := by decide +kernel
theorem dX2_finishSweep_61 : decode cX2_finishSweep 61 = .ok (.invokevirtual 126, 3) := by decide +kernel
theorem dX2_finishSweep_64 : decode cX2_finishSweep 64 = .ok (.iadd, 1) := by decide +kernel
theorem dX2_finishSweep_65 : decode cX2_finishSweep 65 = .ok (.iastore, 1) := by decide +kernel
theorem dX2_finishSweep_66 : decode cX2_finishSweep 66 = .ok (.aload_n 0, 1) := by decide +kernel
theorem dX2_finishSweep_67 : decode cX2_finishSweep 67 = .ok (.getfield 18, 3) := by decide +kernel
theorem dX2_finishSweep_70 : decode cX2_finishSweep 70 = .ok (.bipush 6, 2) := by decide +kernel
theorem dX2_finishSweep_72 : decode cX2_finishSweep 72 = .ok (.dup2, 1) := by decide +kernel
theorem dX2_finishSweep_73 : decode cX2_finishSweep 73 = .ok (.iaload, 1) := by decide +kernel
theorem dX2_finishSweep_74 : decode cX2_finishSweep 74 = .ok (.iconst 1, 1) := by decide +kernel
theorem dX2_finishSweep_75 : decode cX2_finishSweep 75 = .ok (.iadd, 1) := by decide +kernel
theorem dX2_finishSweep_76 : decode cX2_finishSweep 76 = .ok (.iastore, 1) := by decide +kernel
theorem dX2_finishSweep_77 : decode cX2_finishSweep 77 = .ok (.aload_n 0, 1) := by decide +kernel
theorem dX2_finishSweep_78 : decode cX2_finishSweep 78 = .ok (.getfield 32, 3) := by decide +kernel
theorem dX2_finishSweep_81 : decode cX2_finishSweep 81 = .ok (.invokevirtual 111, 3) := by decide +kernel
theorem dX2_finishSweep_84 : decode cX2_finishSweep 84 = .ok (.istore_n 1, 1) := by decide +kernel
theorem dX2_finishSweep_85 : decode cX2_finishSweep 85 = .ok (.aload_n 0, 1) := by decide +kernel
theorem dX2_finishSweep_86 : decode cX2_finishSweep 86 = .ok (.getfield 29, 3) := by decide +kernel
theorem dX2_finishSweep_89 : decode cX2_finishSweep 89 = .ok (.aload_n 0, 1) := by decide +kernel
theorem dX2_finishSweep_90 : decode cX2_finishSweep 90 = .ok (.getfield 32, 3) := by decide +kernel
theorem dX2_finishSweep_93 : decode cX2_finishSweep 93 = .ok (.invokevirtual 130, 3) := by decide +kernel
theorem dX2_finishSweep_96 : decode cX2_finishSweep 96 = .ok (.aload_n 0, 1) := by decide +kernel
theorem dX2_finishSweep_97 : decode cX2_finishSweep 97 = .ok (.getfield 32, 3) := by decide +kernel
theorem dX2_finishSweep_100 : decode cX2_finishSweep 100 = .ok (.aload_n 0, 1) := by decide +kernel
theorem dX2_finishSweep_101 : decode cX2_finishSweep 101 = .ok (.getfield 32, 3) := by decide +kernel
theorem dX2_finishSweep_104 : decode cX2_finishSweep 104 = .ok (.invokevirtual 130, 3) := by decide +kernel
theorem dX2_finishSweep_107 : decode cX2_finishSweep 107 = .ok (.aload_n 0, 1) := by decide +kernel
theorem dX2_finishSweep_108 : decode cX2_finishSweep 108 = .ok (.iconst 0, 1) := by decide +kernel
theorem dX2_finishSweep_109 : decode cX2_finishSweep 109 = .ok (.putfield 38, 3) := by decide +kernel
theorem dX2_finishSweep_112 : decode cX2_finishSweep 112 = .ok (.aload_n 0, 1) := by decide +kernel
theorem dX2_finishSweep_113 : decode cX2_finishSweep 113 = .ok (.iconst 0, 1) := by decide +kernel
theorem dX2_finishSweep_114 : decode cX2_finishSweep 114 = .ok (.putfield 42, 3) := by decide +kernel
theorem dX2_finishSweep_117 : decode cX2_finishSweep 117 = .ok (.aload_n 0, 1) := by decide +kernel
theorem dX2_finishSweep_118 : decode cX2_finishSweep 118 = .ok (.iconst 0, 1) := by decide +kernel
theorem dX2_finishSweep_119 : decode cX2_finishSweep 119 = .ok (.putfield 46, 3) := by decide +kernel
theorem dX2_finishSweep_122 : decode cX2_finishSweep 122 = .ok (.iload_n 1, 1) := by decide +kernel
theorem dX2_finishSweep_123 : decode cX2_finishSweep 123 = .ok (.ireturn, 1) := by decide +kernel
set_option maxRecDepth 20000 in
theorem ggX2_cleanPage_X2_clean : GoodIn wsX2_cleanPage wsX2_clean := goodIn_r _ [6, 7, 8, 9, 5, 10, 11, 12, 13, 14, 15, 16, 17, 18, 19, 20, 21, 22, 23, 24, 25, 26, 27, 28, 29, 30, 31, 32, 33, 34, 35, 36, 37, 38, 39, 40, 41, 42, 43, 44, 45, 46, 47, 48, 49, 50, 51, 52, 53, 54, 55, 56] (by decide +kernel) (by decide +kernel)
set_option maxRecDepth 20000 in
theorem gX2_cleanPage_X2_clean : GoodIn wsX2_cleanPage (wsV RX2 126 RX2 yX2_clean wsX2_clean) := goodIn_app (goodIn_of _ (by decide +kernel)) ggX2_cleanPage_X2_clean
theorem dX2_cleanPage_0 : decode cX2_cleanPage 0 = .ok (.iload_n 1, 1) := by decide +kernel
theorem dX2_cleanPage_1 : decode cX2_cleanPage 1 = .ok (.bipush 16, 2) := by decide +kernel
theorem dX2_cleanPage_3 : decode cX2_cleanPage 3 = .ok (.imul, 1) := by decide +kernel
theorem dX2_cleanPage_4 : decode cX2_cleanPage 4 = .ok (.istore_n 2, 1) := by decide +kernel
theorem dX2_cleanPage_5 : decode cX2_cleanPage 5 = .ok (.aload_n 0, 1) := by decide +kernel
theorem dX2_cleanPage_6 : decode cX2_cleanPage 6 = .ok (.aload_n 0, 1) := by decide +kernel
theorem dX2_cleanPage_7 : decode cX2_cleanPage 7 = .ok (.getfield 9, 3) := by decide +kernel
theorem dX2_cleanPage_10 : decode cX2_cleanPage 10 = .ok (.iload_n 2, 1) := by decide +kernel
theorem dX2_cleanPage_11 : decode cX2_cleanPage 11 = .ok (.iload_n 2, 1) := by decide +kernel
theorem dX2_cleanPage_12 : decode cX2_cleanPage 12 = .ok (.bipush 16, 2) := by decide +kernel
theorem dX2_cleanPage_14 : decode cX2_cleanPage 14 = .ok (.iadd, 1) := by decide +kernel
theorem dX2_cleanPage_15 : decode cX2_cleanPage 15 = .ok (.invokevirtual 126, 3) := by decide +kernel
theorem dX2_cleanPage_18 : decode cX2_cleanPage 18 = .ok (.ireturn, 1) := by decide +kernel
set_option maxRecDepth 20000 in
theorem ggX2_clean_X2_isStale : GoodIn wsX2_clean wsX2_isStale := goodIn_r _ [5, 6, 7, 8, 9, 10, 11, 12, 13, 14, 15, 16, 17, 18, 19, 20, 21, 22, 23, 24, 25, 26, 27, 28, 29, 30, 31, 32, 33, 41, 42, 43, 44, 45, 46, 47, 48, 49, 50, 51] (by decide +kernel) (by decide +kernel)
set_option maxRecDepth 20000 in
theorem gX2_clean_X2_isStale : GoodIn wsX2_clean (wsV RX2 102 RX2 yX2_isStale wsX2_isStale) := goodIn_app (goodIn_of _ (by decide +kernel)) ggX2_clean_X2_isStale
set_option maxRecDepth 20000 in
theorem ggX2_clean_X3_at : GoodIn wsX2_clean wsX3_at := goodIn_r _ [36] (by decide +kernel) (by decide +kernel)
set_option maxRecDepth 20000 in
theorem gX2_clean_X3_at : GoodIn wsX2_clean (va_wsS RX2 105 yX3_at wsX3_at) := goodIn_app (goodIn_of _ (by decide +kernel)) ggX2_clean_X3_at
set_option maxRecDepth 20000 in
theorem ggX2_clean_X3_ofNumber : GoodIn wsX2_clean wsX3_ofNumber := goodIn_r _ [39, 40] (by decide +kernel) (by decide +kernel)
set_option maxRecDepth 20000 in
theorem gX2_clean_X3_ofNumber : GoodIn wsX2_clean (va_wsS RX2 71 yX3_ofNumber wsX3_ofNumber) := goodIn_app (goodIn_of _ (by decide +kernel)) ggX2_clean_X3_ofNumber
theorem dX2_clean_0 : decode cX2_clean 0 = .ok (.iconst 0, 1) := by decide +kernel
theorem dX2_clean_1 : decode cX2_clean 1 = .ok (.istore 4, 2) := by decide +kernel
theorem dX2_clean_3 : decode cX2_clean 3 = .ok (.iload_n 2, 1) := by decide +kernel
theorem dX2_clean_4 : decode cX2_clean 4 = .ok (.istore 5, 2) := by decide +kernel
theorem dX2_clean_6 : decode cX2_clean 6 = .ok (.iload 5, 2) := by decide +kernel
theorem dX2_clean_8 : decode cX2_clean 8 = .ok (.iload_n 3, 1) := by decide +kernel
theorem dX2_clean_9 : decode cX2_clean 9 = .ok (.if_icmp .ge 37, 3) := by decide +kernel
theorem dX2_clean_12 : decode cX2_clean 12 = .ok (.aload_n 0, 1) := by decide +kernel
theorem dX2_clean_13 : decode cX2_clean 13 = .ok (.aload_n 1, 1) := by decide +kernel
theorem dX2_clean_14 : decode cX2_clean 14 = .ok (.iload 5, 2) := by decide +kernel
theorem dX2_clean_16 : decode cX2_clean 16 = .ok (.laload, 1) := by decide +kernel
theorem dX2_clean_17 : decode cX2_clean 17 = .ok (.invokevirtual 102, 3) := by decide +kernel
theorem dX2_clean_20 : decode cX2_clean 20 = .ok (.ifCond .eq 20, 3) := by decide +kernel
theorem dX2_clean_23 : decode cX2_clean 23 = .ok (.aload_n 1, 1) := by decide +kernel
theorem dX2_clean_24 : decode cX2_clean 24 = .ok (.iload 5, 2) := by decide +kernel
theorem dX2_clean_26 : decode cX2_clean 26 = .ok (.aload_n 1, 1) := by decide +kernel
theorem dX2_clean_27 : decode cX2_clean 27 = .ok (.iload 5, 2) := by decide +kernel
theorem dX2_clean_29 : decode cX2_clean 29 = .ok (.laload, 1) := by decide +kernel
theorem dX2_clean_30 : decode cX2_clean 30 = .ok (.invokestatic 105, 3) := by decide +kernel
theorem dX2_clean_33 : decode cX2_clean 33 = .ok (.invokestatic 71, 3) := by decide +kernel
theorem dX2_clean_36 : decode cX2_clean 36 = .ok (.lastore, 1) := by decide +kernel
theorem dX2_clean_37 : decode cX2_clean 37 = .ok (.iinc 4 1, 3) := by decide +kernel
theorem dX2_clean_40 : decode cX2_clean 40 = .ok (.iinc 5 1, 3) := by decide +kernel
theorem dX2_clean_43 : decode cX2_clean 43 = .ok (.goto (-37), 3) := by decide +kernel
theorem dX2_clean_46 : decode cX2_clean 46 = .ok (.iload 4, 2) := by decide +kernel
theorem dX2_clean_48 : decode cX2_clean 48 = .ok (.ireturn, 1) := by decide +kernel
theorem dX3_ofNumber_0 : decode cX3_ofNumber 0 = .ok (.iload_n 0, 1) := by decide +kernel
theorem dX3_ofNumber_1 : decode cX3_ofNumber 1 = .ok (.i2l, 1) := by decide +kernel
theorem dX3_ofNumber_2 : decode cX3_ofNumber 2 = .ok (.ldc2_w 11, 3) := by decide +kernel
theorem dX3_ofNumber_5 : decode cX3_ofNumber 5 = .ok (.land, 1) := by decide +kernel
theorem dX3_ofNumber_6 : decode cX3_ofNumber 6 = .ok (.lreturn, 1) := by decide +kernel
set_option maxRecDepth 20000 in
theorem ggX3_ofPointer_X3_ofNumber : GoodIn wsX3_ofPointer wsX3_ofNumber := goodIn_r _ [5, 6] (by decide +kernel) (by decide +kernel)
set_option maxRecDepth 20000 in
theorem gX3_ofPointer_X3_ofNumber : GoodIn wsX3_ofPointer (va_wsS RX3 13 yX3_ofNumber wsX3_ofNumber) := goodIn_app (goodIn_of _ (by decide +kernel)) ggX3_ofPointer_X3_ofNumber
theorem dX3_ofPointer_0 : decode cX3_ofPointer 0 = .ok (.iload_n 2, 1) := by decide +kernel
theorem dX3_ofPointer_1 : decode cX3_ofPointer 1 = .ok (.invokestatic 13, 3) := by decide +kernel
theorem dX3_ofPointer_4 : decode cX3_ofPointer 4 = .ok (.iload_n 0, 1) := by decide +kernel
theorem dX3_ofPointer_5 : decode cX3_ofPointer 5 = .ok (.i2l, 1) := by decide +kernel
theorem dX3_ofPointer_6 : decode cX3_ofPointer 6 = .ok (.bipush 32, 2) := by decide +kernel
theorem dX3_ofPointer_8 : decode cX3_ofPointer 8 = .ok (.lshl, 1) := by decide +kernel
theorem dX3_ofPointer_9 : decode cX3_ofPointer 9 = .ok (.lor, 1) := by decide +kernel
theorem dX3_ofPointer_10 : decode cX3_ofPointer 10 = .ok (.iload_n 1, 1) := by decide +kernel
theorem dX3_ofPointer_11 : decode cX3_ofPointer 11 = .ok (.i2l, 1) := by decide +kernel
theorem dX3_ofPointer_12 : decode cX3_ofPointer 12 = .ok (.bipush 41, 2) := by decide +kernel
theorem dX3_ofPointer_14 : decode cX3_ofPointer 14 = .ok (.lshl, 1) := by decide +kernel
theorem dX3_ofPointer_15 : decode cX3_ofPointer 15 = .ok (.lor, 1) := by decide +kernel
theorem dX3_ofPointer_16 : decode cX3_ofPointer 16 = .ok (.iload_n 3, 1) := by decide +kernel
theorem dX3_ofPointer_17 : decode cX3_ofPointer 17 = .ok (.i2l, 1) := by decide +kernel
theorem dX3_ofPointer_18 : decode cX3_ofPointer 18 = .ok (.bipush 50, 2) := by decide +kernel
theorem dX3_ofPointer_20 : decode cX3_ofPointer 20 = .ok (.lshl, 1) := by decide +kernel
theorem dX3_ofPointer_21 : decode cX3_ofPointer 21 = .ok (.lor, 1) := by decide +kernel
theorem dX3_ofPointer_22 : decode cX3_ofPointer 22 = .ok (.ldc2_w 17, 3) := by decide +kernel
theorem dX3_ofPointer_25 : decode cX3_ofPointer 25 = .ok (.lor, 1) := by decide +kernel
theorem dX3_ofPointer_26 : decode cX3_ofPointer 26 = .ok (.lreturn, 1) := by decide +kernel
theorem dX3_isPointer_0 : decode cX3_isPointer 0 = .ok (.lload_n 0, 1) := by decide +kernel
theorem dX3_isPointer_1 : decode cX3_isPointer 1 = .ok (.bipush 52, 2) := by decide +kernel
theorem dX3_isPointer_3 : decode cX3_isPointer 3 = .ok (.lushr, 1) := by decide +kernel
theorem dX3_isPointer_4 : decode cX3_isPointer 4 = .ok (.lconst 0, 1) := by decide +kernel
theorem dX3_isPointer_5 : decode cX3_isPointer 5 = .ok (.lcmp, 1) := by decide +kernel
theorem dX3_isPointer_6 : decode cX3_isPointer 6 = .ok (.ifCond .eq 7, 3) := by decide +kernel
theorem dX3_isPointer_9 : decode cX3_isPointer 9 = .ok (.iconst 1, 1) := by decide +kernel
theorem dX3_isPointer_10 : decode cX3_isPointer 10 = .ok (.goto 4, 3) := by decide +kernel
theorem dX3_isPointer_13 : decode cX3_isPointer 13 = .ok (.iconst 0, 1) := by decide +kernel
theorem dX3_isPointer_14 : decode cX3_isPointer 14 = .ok (.ireturn, 1) := by decide +kernel
theorem dX3_at_0 : decode cX3_at 0 = .ok (.lload_n 0, 1) := by decide +kernel
theorem dX3_at_1 : decode cX3_at 1 = .ok (.l2i, 1) := by decide +kernel
theorem dX3_at_2 : decode cX3_at 2 = .ok (.ireturn, 1) := by decide +kernel
theorem dX3_from_0 : decode cX3_from 0 = .ok (.lload_n 0, 1) := by decide +kernel
theorem dX3_from_1 : decode cX3_from 1 = .ok (.bipush 32, 2) := by decide +kernel
theorem dX3_from_3 : decode cX3_from 3 = .ok (.lushr, 1) := by decide +kernel
theorem dX3_from_4 : decode cX3_from 4 = .ok (.l2i, 1) := by decide +kernel
theorem dX3_from_5 : decode cX3_from 5 = .ok (.sipush 511, 3) := by decide +kernel
theorem dX3_from_8 : decode cX3_from 8 = .ok (.iand, 1) := by decide +kernel
theorem dX3_from_9 : decode cX3_from 9 = .ok (.ireturn, 1) := by decide +kernel
theorem dX3_to_0 : decode cX3_to 0 = .ok (.lload_n 0, 1) := by decide +kernel
theorem dX3_to_1 : decode cX3_to 1 = .ok (.bipush 41, 2) := by decide +kernel
theorem dX3_to_3 : decode cX3_to 3 = .ok (.lushr, 1) := by decide +kernel
theorem dX3_to_4 : decode cX3_to 4 = .ok (.l2i, 1) := by decide +kernel
theorem dX3_to_5 : decode cX3_to 5 = .ok (.sipush 511, 3) := by decide +kernel
theorem dX3_to_8 : decode cX3_to 8 = .ok (.iand, 1) := by decide +kernel
theorem dX3_to_9 : decode cX3_to 9 = .ok (.ireturn, 1) := by decide +kernel
theorem dX3_rights_0 : decode cX3_rights 0 = .ok (.lload_n 0, 1) := by decide +kernel
theorem dX3_rights_1 : decode cX3_rights 1 = .ok (.bipush 50, 2) := by decide +kernel
theorem dX3_rights_3 : decode cX3_rights 3 = .ok (.lushr, 1) := by decide +kernel
theorem dX3_rights_4 : decode cX3_rights 4 = .ok (.l2i, 1) := by decide +kernel
theorem dX3_rights_5 : decode cX3_rights 5 = .ok (.iconst 3, 1) := by decide +kernel
theorem dX3_rights_6 : decode cX3_rights 6 = .ok (.iand, 1) := by decide +kernel
theorem dX3_rights_7 : decode cX3_rights 7 = .ok (.ireturn, 1) := by decide +kernel
set_option maxRecDepth 20000 in
theorem ggX3_covers_X3_at : GoodIn wsX3_covers wsX3_at := goodIn_r _ [4] (by decide +kernel) (by decide +kernel)
set_option maxRecDepth 20000 in
theorem gX3_covers_X3_at : GoodIn wsX3_covers (va_wsS RX3 19 yX3_at wsX3_at) := goodIn_app (goodIn_of _ (by decide +kernel)) ggX3_covers_X3_at
set_option maxRecDepth 20000 in
theorem ggX3_covers_X3_from : GoodIn wsX3_covers wsX3_from := goodIn_r _ [7] (by decide +kernel) (by decide +kernel)
set_option maxRecDepth 20000 in
theorem gX3_covers_X3_from : GoodIn wsX3_covers (va_wsS RX3 23 yX3_from wsX3_from) := goodIn_app (goodIn_of _ (by decide +kernel)) ggX3_covers_X3_from
set_option maxRecDepth 20000 in
theorem ggX3_covers_X3_to : GoodIn wsX3_covers wsX3_to := goodIn_r _ [10] (by decide +kernel) (by decide +kernel)
set_option maxRecDepth 20000 in
theorem gX3_covers_X3_to : GoodIn wsX3_covers (va_wsS RX3 26 yX3_to wsX3_to) := goodIn_app (goodIn_of _ (by decide +kernel)) ggX3_covers_X3_to
theorem dX3_covers_0 : decode cX3_covers 0 = .ok (.lload_n 0, 1) := by decide +kernel
theorem dX3_covers_1 : decode cX3_covers 1 = .ok (.invokestatic 19, 3) := by decide +kernel
theorem dX3_covers_4 : decode cX3_covers 4 = .ok (.i2l, 1) := by decide +kernel
theorem dX3_covers_5 : decode cX3_covers 5 = .ok (.iload_n 2, 1) := by decide +kernel
theorem dX3_covers_6 : decode cX3_covers 6 = .ok (.i2l, 1) := by decide +kernel
theorem dX3_covers_7 : decode cX3_covers 7 = .ok (.ladd, 1) := by decide +kernel
theorem dX3_covers_8 : decode cX3_covers 8 = .ok (.lstore 4, 2) := by decide +kernel
theorem dX3_covers_10 : decode cX3_covers 10 = .ok (.lload 4, 2) := by decide +kernel
theorem dX3_covers_12 : decode cX3_covers 12 = .ok (.lload_n 0, 1) := by decide +kernel
theorem dX3_covers_13 : decode cX3_covers 13 = .ok (.invokestatic 23, 3) := by decide +kernel
theorem dX3_covers_16 : decode cX3_covers 16 = .ok (.i2l, 1) := by decide +kernel
theorem dX3_covers_17 : decode cX3_covers 17 = .ok (.lcmp, 1) := by decide +kernel
theorem dX3_covers_18 : decode cX3_covers 18 = .ok (.ifCond .lt 21, 3) := by decide +kernel
theorem dX3_covers_21 : decode cX3_covers 21 = .ok (.lload 4, 2) := by decide +kernel
theorem dX3_covers_23 : decode cX3_covers 23 = .ok (.iload_n 3, 1) := by decide +kernel
theorem dX3_covers_24 : decode cX3_covers 24 = .ok (.i2l, 1) := by decide +kernel
theorem dX3_covers_25 : decode cX3_covers 25 = .ok (.ladd, 1) := by decide +kernel
theorem dX3_covers_26 : decode cX3_covers 26 = .ok (.lload_n 0, 1) := by decide +kernel
theorem dX3_covers_27 : decode cX3_covers 27 = .ok (.invokestatic 26, 3) := by decide +kernel
theorem dX3_covers_30 : decode cX3_covers 30 = .ok (.i2l, 1) := by decide +kernel
theorem dX3_covers_31 : decode cX3_covers 31 = .ok (.lcmp, 1) := by decide +kernel
theorem dX3_covers_32 : decode cX3_covers 32 = .ok (.ifCond .gt 7, 3) := by decide +kernel
theorem dX3_covers_35 : decode cX3_covers 35 = .ok (.iconst 1, 1) := by decide +kernel
theorem dX3_covers_36 : decode cX3_covers 36 = .ok (.goto 4, 3) := by decide +kernel
theorem dX3_covers_39 : decode cX3_covers 39 = .ok (.iconst 0, 1) := by decide +kernel
theorem dX3_covers_40 : decode cX3_covers 40 = .ok (.ireturn, 1) := by decide +kernel
set_option maxRecDepth 20000 in
theorem ggX4_init_X2_init : GoodIn wsX4_init wsX2_init := goodIn_r _ [15, 16, 2, 3, 12, 17, 18, 19, 20, 21, 22, 23, 24, 25, 26, 27, 28, 29, 30, 31, 32, 33, 34, 43, 44, 45, 46, 47, 48, 49, 50, 51, 52, 59] (by decide +kernel) (by decide +kernel)
set_option maxRecDepth 20000 in
theorem gX4_init_X2_init_n11 : GoodIn wsX4_init (wsX2_init) := ggX4_init_X2_init
set_option maxRecDepth 20000 in
theorem ggX4_init_X1_init : GoodIn wsX4_init wsX1_init := goodIn_r _ [37, 38, 2, 3, 39, 40, 41, 42, 5, 6, 14, 15, 16, 12, 17, 18, 19, 20, 21, 22, 23, 24, 25, 26, 27, 28, 29, 30, 31, 32, 33, 34, 56, 57, 58, 43, 44, 45, 46, 47, 48, 49, 50, 51, 52, 59] (by decide +kernel) (by decide +kernel)
set_option maxRecDepth 20000 in
theorem gX4_init_X1_init : GoodIn wsX4_init (wsX1_init) := ggX4_init_X1_init
theorem dX4_init_0 : decode cX4_init 0 = .ok (.aload_n 0, 1) := by decide +kernel
theorem dX4_init_1 : decode cX4_init 1 = .ok (.invokespecial 3, 3) := by decide +kernel
theorem dX4_init_4 : decode cX4_init 4 = .ok (.aload_n 0, 1) := by decide +kernel
theorem dX4_init_5 : decode cX4_init 5 = .ok (.new 9, 3) := by decide +kernel
theorem dX4_init_8 : decode cX4_init 8 = .ok (.dup, 1) := by decide +kernel
theorem dX4_init_9 : decode cX4_init 9 = .ok (.invokespecial 11, 3) := by decide +kernel
theorem dX4_init_12 : decode cX4_init 12 = .ok (.putfield 12, 3) := by decide +kernel
theorem dX4_init_15 : decode cX4_init 15 = .ok (.aload_n 0, 1) := by decide +kernel
theorem dX4_init_16 : decode cX4_init 16 = .ok (.new 16, 3) := by decide +kernel
theorem dX4_init_19 : decode cX4_init 19 = .ok (.dup, 1) := by decide +kernel
theorem dX4_init_20 : decode cX4_init 20 = .ok (.invokespecial 18, 3) := by decide +kernel
theorem dX4_init_23 : decode cX4_init 23 = .ok (.putfield 19, 3) := by decide +kernel
theorem dX4_init_26 : decode cX4_init 26 = .ok (.aload_n 0, 1) := by decide +kernel
theorem dX4_init_27 : decode cX4_init 27 = .ok (.bipush 64, 2) := by decide +kernel
theorem dX4_init_29 : decode cX4_init 29 = .ok (.newarray .long, 2) := by decide +kernel
theorem dX4_init_31 : decode cX4_init 31 = .ok (.putfield 23, 3) := by decide +kernel
theorem dX4_init_34 : decode cX4_init 34 = .ok (.return_, 1) := by decide +kernel
set_option maxRecDepth 20000 in
theorem ggX4_give_X4_isRegister : GoodIn wsX4_give wsX4_isRegister := goodIn_r _ [7] (by decide +kernel) (by decide +kernel)
set_option maxRecDepth 20000 in
theorem gX4_give_X4_isRegister : GoodIn wsX4_give (va_wsS RX4 27 yX4_isRegister wsX4_isRegister) := goodIn_app (goodIn_of _ (by decide +kernel)) ggX4_give_X4_isRegister
set_option maxRecDepth 20000 in
theorem ggX4_give_X2_firstFreeRow : GoodIn wsX4_give wsX2_firstFreeRow := goodIn_r _ [12, 13, 14, 15, 11, 16, 17, 18, 19, 20, 21, 22, 23, 24, 25, 6, 26, 81, 82, 83, 84, 85, 86, 87, 88, 89, 90, 91] (by decide +kernel) (by decide +kernel)
set_option maxRecDepth 20000 in
theorem gX4_give_X2_firstFreeRow : GoodIn wsX4_give (wsV RX4 31 RX2 yX2_firstFreeRow wsX2_firstFreeRow) := goodIn_app (goodIn_of _ (by decide +kernel)) ggX4_give_X2_firstFreeRow
set_option maxRecDepth 20000 in
theorem ggX4_give_X1_keep : GoodIn wsX4_give wsX1_keep := goodIn_r _ [31, 32, 33, 34, 35, 36, 37, 38, 39, 40, 41, 11, 42, 43, 44, 45, 46, 47, 48, 49, 17, 18, 50, 51, 52, 53, 54, 55, 56, 57, 22, 58, 24, 59, 92, 93, 94, 81, 82, 83, 84, 85, 86, 87, 88, 89, 90, 91] (by decide +kernel) (by decide +kernel)
set_option maxRecDepth 20000 in
theorem gX4_give_X1_keep : GoodIn wsX4_give (wsV RX4 35 RX1 yX1_keep wsX1_keep) := goodIn_app (goodIn_of _ (by decide +kernel)) ggX4_give_X1_keep
set_option maxRecDepth 20000 in
theorem ggX4_give_X2_giveOut : GoodIn wsX4_give wsX2_giveOut := goodIn_r _ [63, 51, 17, 43, 64, 65, 66, 22, 67, 24, 25, 6, 26, 68, 69, 70, 71, 72, 81, 82, 83, 84, 85, 86, 87, 88, 89, 90, 91] (by decide +kernel) (by decide +kernel)
set_option maxRecDepth 20000 in
theorem gX4_give_X2_giveOut : GoodIn wsX4_give (wsV RX4 39 RX2 yX2_giveOut wsX2_giveOut) := goodIn_app (goodIn_of _ (by decide +kernel)) ggX4_give_X2_giveOut
set_option maxRecDepth 20000 in
theorem ggX4_give_X3_ofPointer : GoodIn wsX4_give wsX3_ofPointer := goodIn_r _ [75, 76, 77, 69, 70, 71, 72] (by decide +kernel) (by decide +kernel)
set_option maxRecDepth 20000 in
theorem gX4_give_X3_ofPointer : GoodIn wsX4_give (va_wsS RX4 46 yX3_ofPointer wsX3_ofPointer) := goodIn_app (goodIn_of _ (by decide +kernel)) ggX4_give_X3_ofPointer
theorem dX4_give_0 : decode cX4_give 0 = .ok (.iload_n 1, 1) := by decide +kernel
theorem dX4_give_1 : decode cX4_give 1 = .ok (.invokestatic 27, 3) := by decide +kernel
theorem dX4_give_4 : decode cX4_give 4 = .ok (.ifCond .eq 14, 3) := by decide +kernel
theorem dX4_give_7 : decode cX4_give 7 = .ok (.iload_n 2, 1) := by decide +kernel
theorem dX4_give_8 : decode cX4_give 8 = .ok (.iconst 1, 1) := by decide +kernel
theorem dX4_give_9 : decode cX4_give 9 = .ok (.if_icmp .lt 9, 3) := by decide +kernel
theorem dX4_give_12 : decode cX4_give 12 = .ok (.iload_n 2, 1) := by decide +kernel
theorem dX4_give_13 : decode cX4_give 13 = .ok (.bipush 64, 2) := by decide +kernel
theorem dX4_give_15 : decode cX4_give 15 = .ok (.if_icmp .le 5, 3) := by decide +kernel
theorem dX4_give_18 : decode cX4_give 18 = .ok (.iconst (-1), 1) := by decide +kernel
theorem dX4_give_19 : decode cX4_give 19 = .ok (.ireturn, 1) := by decide +kernel
theorem dX4_give_20 : decode cX4_give 20 = .ok (.aload_n 0, 1) := by decide +kernel
theorem dX4_give_21 : decode cX4_give 21 = .ok (.getfield 12, 3) := by decide +kernel
theorem dX4_give_24 : decode cX4_give 24 = .ok (.iload_n 2, 1) := by decide +kernel
theorem dX4_give_25 : decode cX4_give 25 = .ok (.invokevirtual 31, 3) := by decide +kernel
theorem dX4_give_28 : decode cX4_give 28 = .ok (.istore_n 3, 1) := by decide +kernel
theorem dX4_give_29 : decode cX4_give 29 = .ok (.iload_n 3, 1) := by decide +kernel
theorem dX4_give_30 : decode cX4_give 30 = .ok (.ifCond .ge 6, 3) := by decide +kernel
theorem dX4_give_33 : decode cX4_give 33 = .ok (.bipush (-3), 2) := by decide +kernel
theorem dX4_give_35 : decode cX4_give 35 = .ok (.ireturn, 1) := by decide +kernel
theorem dX4_give_36 : decode cX4_give 36 = .ok (.aload_n 0, 1) := by decide +kernel
theorem dX4_give_37 : decode cX4_give 37 = .ok (.getfield 19, 3) := by decide +kernel
theorem dX4_give_40 : decode cX4_give 40 = .ok (.aload_n 0, 1) := by decide +kernel
theorem dX4_give_41 : decode cX4_give 41 = .ok (.getfield 12, 3) := by decide +kernel
theorem dX4_give_44 : decode cX4_give 44 = .ok (.invokevirtual 35, 3) := by decide +kernel
theorem dX4_give_47 : decode cX4_give 47 = .ok (.aload_n 0, 1) := by decide +kernel
theorem dX4_give_48 : decode cX4_give 48 = .ok (.getfield 12, 3) := by decide +kernel
theorem dX4_give_51 : decode cX4_give 51 = .ok (.iload_n 3, 1) := by decide +kernel
theorem dX4_give_52 : decode cX4_give 52 = .ok (.iload_n 3, 1) := by decide +kernel
theorem dX4_give_53 : decode cX4_give 53 = .ok (.iload_n 2, 1) := by decide +kernel
theorem dX4_give_54 : decode cX4_give 54 = .ok (.iadd, 1) := by decide +kernel
theorem dX4_give_55 : decode cX4_give 55 = .ok (.invokevirtual 39, 3) := by decide +kernel
theorem dX4_give_58 : decode cX4_give 58 = .ok (.aload_n 0, 1) := by decide +kernel
theorem dX4_give_59 : decode cX4_give 59 = .ok (.getfield 12, 3) := by decide +kernel
theorem dX4_give_62 : decode cX4_give 62 = .ok (.getfield 43, 3) := by decide +kernel
theorem dX4_give_65 : decode cX4_give 65 = .ok (.iload_n 1, 1) := by decide +kernel
theorem dX4_give_66 : decode cX4_give 66 = .ok (.iload_n 3, 1) := by decide +kernel
theorem dX4_give_67 : decode cX4_give 67 = .ok (.iload_n 3, 1) := by decide +kernel
theorem dX4_give_68 : decode cX4_give 68 = .ok (.iload_n 2, 1) := by decide +kernel
theorem dX4_give_69 : decode cX4_give 69 = .ok (.iadd, 1) := by decide +kernel
theorem dX4_give_70 : decode cX4_give 70 = .ok (.iload_n 3, 1) := by decide +kernel
theorem dX4_give_71 : decode cX4_give 71 = .ok (.iconst 3, 1) := by decide +kernel
theorem dX4_give_72 : decode cX4_give 72 = .ok (.invokestatic 46, 3) := by decide +kernel
theorem dX4_give_75 : decode cX4_give 75 = .ok (.lastore, 1) := by decide +kernel
theorem dX4_give_76 : decode cX4_give 76 = .ok (.iload_n 3, 1) := by decide +kernel
theorem dX4_give_77 : decode cX4_give 77 = .ok (.ireturn, 1) := by decide +kernel
set_option maxRecDepth 20000 in
theorem ggX4_back_X4_isRegister : GoodIn wsX4_back wsX4_isRegister := goodIn_r _ [7] (by decide +kernel) (by decide +kernel)
set_option maxRecDepth 20000 in
theorem gX4_back_X4_isRegister : GoodIn wsX4_back (va_wsS RX4 27 yX4_isRegister wsX4_isRegister) := goodIn_app (goodIn_of _ (by decide +kernel)) ggX4_back_X4_isRegister
set_option maxRecDepth 20000 in
theorem ggX4_back_X3_isPointer : GoodIn wsX4_back wsX3_isPointer := goodIn_r _ [11] (by decide +kernel) (by decide +kernel)
set_option maxRecDepth 20000 in
theorem gX4_back_X3_isPointer : GoodIn wsX4_back (va_wsS RX4 52 yX3_isPointer wsX3_isPointer) := goodIn_app (goodIn_of _ (by decide +kernel)) ggX4_back_X3_isPointer
set_option maxRecDepth 20000 in
theorem ggX4_back_X3_from : GoodIn wsX4_back wsX3_from := goodIn_r _ [14] (by decide +kernel) (by decide +kernel)
set_option maxRecDepth 20000 in
theorem gX4_back_X3_from : GoodIn wsX4_back (va_wsS RX4 56 yX3_from wsX3_from) := goodIn_app (goodIn_of _ (by decide +kernel)) ggX4_back_X3_from
set_option maxRecDepth 20000 in
theorem ggX4_back_X3_to : GoodIn wsX4_back wsX3_to := goodIn_r _ [17] (by decide +kernel) (by decide +kernel)
set_option maxRecDepth 20000 in
theorem gX4_back_X3_to : GoodIn wsX4_back (va_wsS RX4 60 yX3_to wsX3_to) := goodIn_app (goodIn_of _ (by decide +kernel)) ggX4_back_X3_to
set_option maxRecDepth 20000 in
theorem ggX4_back_X2_isRange : GoodIn wsX4_back wsX2_isRange := goodIn_r _ [22, 23, 24, 25, 26, 27, 28, 29, 30, 31, 6, 32, 33, 34, 35, 21, 36, 86, 87, 88, 89, 90, 91, 92, 93, 94, 95, 96] (by decide +kernel) (by decide +kernel)
set_option maxRecDepth 20000 in
theorem gX4_back_X2_isRange : GoodIn wsX4_back (wsV RX4 63 RX2 yX2_isRange wsX2_isRange) := goodIn_app (goodIn_of _ (by decide +kernel)) ggX4_back_X2_isRange
set_option maxRecDepth 20000 in
theorem ggX4_back_X1_keep : GoodIn wsX4_back wsX1_keep := goodIn_r _ [41, 42, 43, 44, 45, 46, 47, 48, 49, 50, 51, 21, 52, 53, 54, 55, 56, 57, 58, 59, 23, 60, 61, 24, 62, 63, 64, 65, 66, 67, 28, 68, 30, 69, 97, 98, 99, 86, 87, 88, 89, 90, 91, 92, 93, 94, 95, 96] (by decide +kernel) (by decide +kernel)
set_option maxRecDepth 20000 in
theorem gX4_back_X1_keep : GoodIn wsX4_back (wsV RX4 35 RX1 yX1_keep wsX1_keep) := goodIn_app (goodIn_of _ (by decide +kernel)) ggX4_back_X1_keep
set_option maxRecDepth 20000 in
theorem ggX4_back_X2_giveBack : GoodIn wsX4_back wsX2_giveBack := goodIn_r _ [73, 24, 23, 60, 74, 75, 76, 28, 77, 30, 78, 31, 6, 32, 79, 80, 81, 82, 86, 87, 88, 89, 90, 91, 92, 93, 94, 95, 96] (by decide +kernel) (by decide +kernel)
set_option maxRecDepth 20000 in
theorem gX4_back_X2_giveBack : GoodIn wsX4_back (wsV RX4 67 RX2 yX2_giveBack wsX2_giveBack) := goodIn_app (goodIn_of _ (by decide +kernel)) ggX4_back_X2_giveBack
theorem dX4_back_0 : decode cX4_back 0 = .ok (.iload_n 1, 1) := by decide +kernel
theorem dX4_back_1 : decode cX4_back 1 = .ok (.invokestatic 27, 3) := by decide +kernel
theorem dX4_back_4 : decode cX4_back 4 = .ok (.ifCond .ne 5, 3) := by decide +kernel
theorem dX4_back_7 : decode cX4_back 7 = .ok (.iconst (-1), 1) := by decide +kernel
theorem dX4_back_8 : decode cX4_back 8 = .ok (.ireturn, 1) := by decide +kernel
theorem dX4_back_9 : decode cX4_back 9 = .ok (.aload_n 0, 1) := by decide +kernel
theorem dX4_back_10 : decode cX4_back 10 = .ok (.getfield 12, 3) := by decide +kernel
theorem dX4_back_13 : decode cX4_back 13 = .ok (.getfield 43, 3) := by decide +kernel
theorem dX4_back_16 : decode cX4_back 16 = .ok (.iload_n 1, 1) := by decide +kernel
theorem dX4_back_17 : decode cX4_back 17 = .ok (.laload, 1) := by decide +kernel
theorem dX4_back_18 : decode cX4_back 18 = .ok (.lstore_n 2, 1) := by decide +kernel
theorem dX4_back_19 : decode cX4_back 19 = .ok (.lload_n 2, 1) := by decide +kernel
theorem dX4_back_20 : decode cX4_back 20 = .ok (.invokestatic 52, 3) := by decide +kernel
theorem dX4_back_23 : decode cX4_back 23 = .ok (.ifCond .ne 6, 3) := by decide +kernel
theorem dX4_back_26 : decode cX4_back 26 = .ok (.bipush (-11), 2) := by decide +kernel
theorem dX4_back_28 : decode cX4_back 28 = .ok (.ireturn, 1) := by decide +kernel
theorem dX4_back_29 : decode cX4_back 29 = .ok (.lload_n 2, 1) := by decide +kernel
theorem dX4_back_30 : decode cX4_back 30 = .ok (.invokestatic 56, 3) := by decide +kernel
theorem dX4_back_33 : decode cX4_back 33 = .ok (.istore 4, 2) := by decide +kernel
theorem dX4_back_35 : decode cX4_back 35 = .ok (.lload_n 2, 1) := by decide +kernel
theorem dX4_back_36 : decode cX4_back 36 = .ok (.invokestatic 60, 3) := by decide +kernel
theorem dX4_back_39 : decode cX4_back 39 = .ok (.istore 5, 2) := by decide +kernel
theorem dX4_back_41 : decode cX4_back 41 = .ok (.aload_n 0, 1) := by decide +kernel
theorem dX4_back_42 : decode cX4_back 42 = .ok (.getfield 12, 3) := by decide +kernel
theorem dX4_back_45 : decode cX4_back 45 = .ok (.iload 4, 2) := by decide +kernel
theorem dX4_back_47 : decode cX4_back 47 = .ok (.iload 5, 2) := by decide +kernel
theorem dX4_back_49 : decode cX4_back 49 = .ok (.invokevirtual 63, 3) := by decide +kernel
theorem dX4_back_52 : decode cX4_back 52 = .ok (.ifCond .ne 6, 3) := by decide +kernel
theorem dX4_back_55 : decode cX4_back 55 = .ok (.bipush (-2), 2) := by decide +kernel
theorem dX4_back_57 : decode cX4_back 57 = .ok (.ireturn, 1) := by decide +kernel
theorem dX4_back_58 : decode cX4_back 58 = .ok (.aload_n 0, 1) := by decide +kernel
theorem dX4_back_59 : decode cX4_back 59 = .ok (.getfield 19, 3) := by decide +kernel
theorem dX4_back_62 : decode cX4_back 62 = .ok (.aload_n 0, 1) := by decide +kernel
theorem dX4_back_63 : decode cX4_back 63 = .ok (.getfield 12, 3) := by decide +kernel
theorem dX4_back_66 : decode cX4_back 66 = .ok (.invokevirtual 35, 3) := by decide +kernel
theorem dX4_back_69 : decode cX4_back 69 = .ok (.aload_n 0, 1) := by decide +kernel
theorem dX4_back_70 : decode cX4_back 70 = .ok (.getfield 12, 3) := by decide +kernel
theorem dX4_back_73 : decode cX4_back 73 = .ok (.iload 4, 2) := by decide +kernel
theorem dX4_back_75 : decode cX4_back 75 = .ok (.iload 5, 2) := by decide +kernel
theorem dX4_back_77 : decode cX4_back 77 = .ok (.invokevirtual 67, 3) := by decide +kernel
theorem dX4_back_80 : decode cX4_back 80 = .ok (.iload 5, 2) := by decide +kernel
theorem dX4_back_82 : decode cX4_back 82 = .ok (.iload 4, 2) := by decide +kernel
theorem dX4_back_84 : decode cX4_back 84 = .ok (.isub, 1) := by decide +kernel
theorem dX4_back_85 : decode cX4_back 85 = .ok (.ireturn, 1) := by decide +kernel
set_option maxRecDepth 20000 in
theorem ggX4_number_X4_isRegister : GoodIn wsX4_number wsX4_isRegister := goodIn_r _ [7] (by decide +kernel) (by decide +kernel)
set_option maxRecDepth 20000 in
theorem gX4_number_X4_isRegister : GoodIn wsX4_number (va_wsS RX4 27 yX4_isRegister wsX4_isRegister) := goodIn_app (goodIn_of _ (by decide +kernel)) ggX4_number_X4_isRegister
set_option maxRecDepth 20000 in
theorem ggX4_number_X1_keep : GoodIn wsX4_number wsX1_keep := goodIn_r _ [12, 13, 14, 15, 16, 17, 18, 19, 20, 21, 22, 23, 24, 25, 26, 27, 28, 29, 30, 31, 32, 33, 34, 35, 36, 37, 38, 39, 40, 41, 42, 43, 44, 45, 64, 65, 66, 54, 55, 56, 57, 58, 59, 60, 61, 62, 63, 67] (by decide +kernel) (by decide +kernel)
set_option maxRecDepth 20000 in
theorem gX4_number_X1_keep : GoodIn wsX4_number (wsV RX4 35 RX1 yX1_keep wsX1_keep) := goodIn_app (goodIn_of _ (by decide +kernel)) ggX4_number_X1_keep
set_option maxRecDepth 20000 in
theorem ggX4_number_X3_ofNumber : GoodIn wsX4_number wsX3_ofNumber := goodIn_r _ [49, 50] (by decide +kernel) (by decide +kernel)
set_option maxRecDepth 20000 in
theorem gX4_number_X3_ofNumber : GoodIn wsX4_number (va_wsS RX4 70 yX3_ofNumber wsX3_ofNumber) := goodIn_app (goodIn_of _ (by decide +kernel)) ggX4_number_X3_ofNumber
theorem dX4_number_0 : decode cX4_number 0 = .ok (.iload_n 1, 1) := by decide +kernel
theorem dX4_number_1 : decode cX4_number 1 = .ok (.invokestatic 27, 3) := by decide +kernel
theorem dX4_number_4 : decode cX4_number 4 = .ok (.ifCond .ne 5, 3) := by decide +kernel
theorem dX4_number_7 : decode cX4_number 7 = .ok (.iconst (-1), 1) := by decide +kernel
theorem dX4_number_8 : decode cX4_number 8 = .ok (.ireturn, 1) := by decide +kernel
theorem dX4_number_9 : decode cX4_number 9 = .ok (.aload_n 0, 1) := by decide +kernel
theorem dX4_number_10 : decode cX4_number 10 = .ok (.getfield 19, 3) := by decide +kernel
theorem dX4_number_13 : decode cX4_number 13 = .ok (.aload_n 0, 1) := by decide +kernel
theorem dX4_number_14 : decode cX4_number 14 = .ok (.getfield 12, 3) := by decide +kernel
theorem dX4_number_17 : decode cX4_number 17 = .ok (.invokevirtual 35, 3) := by decide +kernel
theorem dX4_number_20 : decode cX4_number 20 = .ok (.aload_n 0, 1) := by decide +kernel
theorem dX4_number_21 : decode cX4_number 21 = .ok (.getfield 12, 3) := by decide +kernel
theorem dX4_number_24 : decode cX4_number 24 = .ok (.getfield 43, 3) := by decide +kernel
theorem dX4_number_27 : decode cX4_number 27 = .ok (.iload_n 1, 1) := by decide +kernel
theorem dX4_number_28 : decode cX4_number 28 = .ok (.iload_n 2, 1) := by decide +kernel
theorem dX4_number_29 : decode cX4_number 29 = .ok (.invokestatic 70, 3) := by decide +kernel
theorem dX4_number_32 : decode cX4_number 32 = .ok (.lastore, 1) := by decide +kernel
theorem dX4_number_33 : decode cX4_number 33 = .ok (.iconst 0, 1) := by decide +kernel
theorem dX4_number_34 : decode cX4_number 34 = .ok (.ireturn, 1) := by decide +kernel
set_option maxRecDepth 20000 in
theorem ggX4_copy_X4_isRegister : GoodIn wsX4_copy wsX4_isRegister := goodIn_r _ [7] (by decide +kernel) (by decide +kernel)
set_option maxRecDepth 20000 in
theorem gX4_copy_X4_isRegister : GoodIn wsX4_copy (va_wsS RX4 27 yX4_isRegister wsX4_isRegister) := goodIn_app (goodIn_of _ (by decide +kernel)) ggX4_copy_X4_isRegister
set_option maxRecDepth 20000 in
theorem ggX4_copy_X1_keep : GoodIn wsX4_copy wsX1_keep := goodIn_r _ [12, 13, 14, 15, 16, 17, 18, 19, 20, 21, 22, 23, 24, 25, 26, 27, 28, 29, 30, 31, 32, 33, 34, 35, 36, 37, 38, 39, 40, 41, 42, 43, 44, 45, 59, 60, 61, 49, 50, 51, 52, 53, 54, 55, 56, 57, 58, 62] (by decide +kernel) (by decide +kernel)
set_option maxRecDepth 20000 in
theorem gX4_copy_X1_keep : GoodIn wsX4_copy (wsV RX4 35 RX1 yX1_keep wsX1_keep) := goodIn_app (goodIn_of _ (by decide +kernel)) ggX4_copy_X1_keep
theorem dX4_copy_0 : decode cX4_copy 0 = .ok (.iload_n 1, 1) := by decide +kernel
theorem dX4_copy_1 : decode cX4_copy 1 = .ok (.invokestatic 27, 3) := by decide +kernel
theorem dX4_copy_4 : decode cX4_copy 4 = .ok (.ifCond .eq 10, 3) := by decide +kernel
theorem dX4_copy_7 : decode cX4_copy 7 = .ok (.iload_n 2, 1) := by decide +kernel
theorem dX4_copy_8 : decode cX4_copy 8 = .ok (.invokestatic 27, 3) := by decide +kernel
theorem dX4_copy_11 : decode cX4_copy 11 = .ok (.ifCond .ne 5, 3) := by decide +kernel
theorem dX4_copy_14 : decode cX4_copy 14 = .ok (.iconst (-1), 1) := by decide +kernel
theorem dX4_copy_15 : decode cX4_copy 15 = .ok (.ireturn, 1) := by decide +kernel
theorem dX4_copy_16 : decode cX4_copy 16 = .ok (.aload_n 0, 1) := by decide +kernel
theorem dX4_copy_17 : decode cX4_copy 17 = .ok (.getfield 19, 3) := by decide +kernel
theorem dX4_copy_20 : decode cX4_copy 20 = .ok (.aload_n 0, 1) := by decide +kernel
theorem dX4_copy_21 : decode cX4_copy 21 = .ok (.getfield 12, 3) := by decide +kernel
theorem dX4_copy_24 : decode cX4_copy 24 = .ok (.invokevirtual 35, 3) := by decide +kernel
theorem dX4_copy_27 : decode cX4_copy 27 = .ok (.aload_n 0, 1) := by decide +kernel
theorem dX4_copy_28 : decode cX4_copy 28 = .ok (.getfield 12, 3) := by decide +kernel
theorem dX4_copy_31 : decode cX4_copy 31 = .ok (.getfield 43, 3) := by decide +kernel
theorem dX4_copy_34 : decode cX4_copy 34 = .ok (.iload_n 1, 1) := by decide +kernel
theorem dX4_copy_35 : decode cX4_copy 35 = .ok (.aload_n 0, 1) := by decide +kernel
theorem dX4_copy_36 : decode cX4_copy 36 = .ok (.getfield 12, 3) := by decide +kernel
theorem dX4_copy_39 : decode cX4_copy 39 = .ok (.getfield 43, 3) := by decide +kernel
theorem dX4_copy_42 : decode cX4_copy 42 = .ok (.iload_n 2, 1) := by decide +kernel
theorem dX4_copy_43 : decode cX4_copy 43 = .ok (.laload, 1) := by decide +kernel
theorem dX4_copy_44 : decode cX4_copy 44 = .ok (.lastore, 1) := by decide +kernel
theorem dX4_copy_45 : decode cX4_copy 45 = .ok (.iconst 0, 1) := by decide +kernel
theorem dX4_copy_46 : decode cX4_copy 46 = .ok (.ireturn, 1) := by decide +kernel
set_option maxRecDepth 20000 in
theorem ggX4_move_X4_isRegister : GoodIn wsX4_move wsX4_isRegister := goodIn_r _ [9] (by decide +kernel) (by decide +kernel)
set_option maxRecDepth 20000 in
theorem gX4_move_X4_isRegister : GoodIn wsX4_move (va_wsS RX4 27 yX4_isRegister wsX4_isRegister) := goodIn_app (goodIn_of _ (by decide +kernel)) ggX4_move_X4_isRegister
set_option maxRecDepth 20000 in
theorem ggX4_move_X3_isPointer : GoodIn wsX4_move wsX3_isPointer := goodIn_r _ [13] (by decide +kernel) (by decide +kernel)
set_option maxRecDepth 20000 in
theorem gX4_move_X3_isPointer : GoodIn wsX4_move (va_wsS RX4 52 yX3_isPointer wsX3_isPointer) := goodIn_app (goodIn_of _ (by decide +kernel)) ggX4_move_X3_isPointer
set_option maxRecDepth 20000 in
theorem ggX4_move_X1_keep : GoodIn wsX4_move wsX1_keep := goodIn_r _ [18, 19, 20, 21, 22, 23, 24, 25, 26, 27, 28, 29, 30, 31, 32, 33, 34, 35, 36, 37, 38, 39, 40, 41, 42, 43, 44, 45, 46, 47, 48, 49, 50, 51, 85, 86, 87, 75, 76, 77, 78, 79, 80, 81, 82, 83, 84, 88] (by decide +kernel) (by decide +kernel)
set_option maxRecDepth 20000 in
theorem gX4_move_X1_keep : GoodIn wsX4_move (wsV RX4 35 RX1 yX1_keep wsX1_keep) := goodIn_app (goodIn_of _ (by decide +kernel)) ggX4_move_X1_keep
set_option maxRecDepth 20000 in
theorem ggX4_move_X3_at : GoodIn wsX4_move wsX3_at := goodIn_r _ [54] (by decide +kernel) (by decide +kernel)
set_option maxRecDepth 20000 in
theorem gX4_move_X3_at : GoodIn wsX4_move (va_wsS RX4 76 yX3_at wsX3_at) := goodIn_app (goodIn_of _ (by decide +kernel)) ggX4_move_X3_at
set_option maxRecDepth 20000 in
theorem ggX4_move_X3_from : GoodIn wsX4_move wsX3_from := goodIn_r _ [57] (by decide +kernel) (by decide +kernel)
set_option maxRecDepth 20000 in
theorem gX4_move_X3_from : GoodIn wsX4_move (va_wsS RX4 56 yX3_from wsX3_from) := goodIn_app (goodIn_of _ (by decide +kernel)) ggX4_move_X3_from
set_option maxRecDepth 20000 in
theorem ggX4_move_X3_to : GoodIn wsX4_move wsX3_to := goodIn_r _ [60] (by decide +kernel) (by decide +kernel)
set_option maxRecDepth 20000 in
theorem gX4_move_X3_to : GoodIn wsX4_move (va_wsS RX4 60 yX3_to wsX3_to) := goodIn_app (goodIn_of _ (by decide +kernel)) ggX4_move_X3_to
set_option maxRecDepth 20000 in
theorem ggX4_move_X3_rights : GoodIn wsX4_move wsX3_rights := goodIn_r _ [63] (by decide +kernel) (by decide +kernel)
set_option maxRecDepth 20000 in
theorem gX4_move_X3_rights : GoodIn wsX4_move (va_wsS RX4 79 yX3_rights wsX3_rights) := goodIn_app (goodIn_of _ (by decide +kernel)) ggX4_move_X3_rights
set_option maxRecDepth 20000 in
theorem ggX4_move_X3_ofPointer : GoodIn wsX4_move wsX3_ofPointer := goodIn_r _ [66, 67, 68, 69, 12, 70, 71] (by decide +kernel) (by decide +kernel)
set_option maxRecDepth 20000 in
theorem gX4_move_X3_ofPointer : GoodIn wsX4_move (va_wsS RX4 46 yX3_ofPointer wsX3_ofPointer) := goodIn_app (goodIn_of _ (by decide +kernel)) ggX4_move_X3_ofPointer
theorem dX4_move_0 : decode cX4_move 0 = .ok (.iload_n 1, 1) := by decide +kernel
theorem dX4_move_1 : decode cX4_move 1 = .ok (.invokestatic 27, 3) := by decide +kernel
theorem dX4_move_4 : decode cX4_move 4 = .ok (.ifCond .ne 6, 3) := by decide +kernel
theorem dX4_move_7 : decode cX4_move 7 = .ok (.ldc 74, 2) := by decide +kernel
theorem dX4_move_9 : decode cX4_move 9 = .ok (.ireturn, 1) := by decide +kernel
theorem dX4_move_10 : decode cX4_move 10 = .ok (.aload_n 0, 1) := by decide +kernel
theorem dX4_move_11 : decode cX4_move 11 = .ok (.getfield 12, 3) := by decide +kernel
theorem dX4_move_14 : decode cX4_move 14 = .ok (.getfield 43, 3) := by decide +kernel
theorem dX4_move_17 : decode cX4_move 17 = .ok (.iload_n 1, 1) := by decide +kernel
theorem dX4_move_18 : decode cX4_move 18 = .ok (.laload, 1) := by decide +kernel
theorem dX4_move_19 : decode cX4_move 19 = .ok (.lstore_n 3, 1) := by decide +kernel
theorem dX4_move_20 : decode cX4_move 20 = .ok (.lload_n 3, 1) := by decide +kernel
theorem dX4_move_21 : decode cX4_move 21 = .ok (.invokestatic 52, 3) := by decide +kernel
theorem dX4_move_24 : decode cX4_move 24 = .ok (.ifCond .ne 6, 3) := by decide +kernel
theorem dX4_move_27 : decode cX4_move 27 = .ok (.ldc 75, 2) := by decide +kernel
theorem dX4_move_29 : decode cX4_move 29 = .ok (.ireturn, 1) := by decide +kernel
theorem dX4_move_30 : decode cX4_move 30 = .ok (.aload_n 0, 1) := by decide +kernel
theorem dX4_move_31 : decode cX4_move 31 = .ok (.getfield 19, 3) := by decide +kernel
theorem dX4_move_34 : decode cX4_move 34 = .ok (.aload_n 0, 1) := by decide +kernel
theorem dX4_move_35 : decode cX4_move 35 = .ok (.getfield 12, 3) := by decide +kernel
theorem dX4_move_38 : decode cX4_move 38 = .ok (.invokevirtual 35, 3) := by decide +kernel
theorem dX4_move_41 : decode cX4_move 41 = .ok (.lload_n 3, 1) := by decide +kernel
theorem dX4_move_42 : decode cX4_move 42 = .ok (.invokestatic 76, 3) := by decide +kernel
theorem dX4_move_45 : decode cX4_move 45 = .ok (.iload_n 2, 1) := by decide +kernel
theorem dX4_move_46 : decode cX4_move 46 = .ok (.iadd, 1) := by decide +kernel
theorem dX4_move_47 : decode cX4_move 47 = .ok (.istore 5, 2) := by decide +kernel
theorem dX4_move_49 : decode cX4_move 49 = .ok (.aload_n 0, 1) := by decide +kernel
theorem dX4_move_50 : decode cX4_move 50 = .ok (.getfield 12, 3) := by decide +kernel
theorem dX4_move_53 : decode cX4_move 53 = .ok (.getfield 43, 3) := by decide +kernel
theorem dX4_move_56 : decode cX4_move 56 = .ok (.iload_n 1, 1) := by decide +kernel
theorem dX4_move_57 : decode cX4_move 57 = .ok (.lload_n 3, 1) := by decide +kernel
theorem dX4_move_58 : decode cX4_move 58 = .ok (.invokestatic 56, 3) := by decide +kernel
theorem dX4_move_61 : decode cX4_move 61 = .ok (.lload_n 3, 1) := by decide +kernel
theorem dX4_move_62 : decode cX4_move 62 = .ok (.invokestatic 60, 3) := by decide +kernel
theorem dX4_move_65 : decode cX4_move 65 = .ok (.iload 5, 2) := by decide +kernel
theorem dX4_move_67 : decode cX4_move 67 = .ok (.lload_n 3, 1) := by decide +kernel
theorem dX4_move_68 : decode cX4_move 68 = .ok (.invokestatic 79, 3) := by decide +kernel
theorem dX4_move_71 : decode cX4_move 71 = .ok (.invokestatic 46, 3) := by decide +kernel
theorem dX4_move_74 : decode cX4_move 74 = .ok (.lastore, 1) := by decide +kernel
theorem dX4_move_75 : decode cX4_move 75 = .ok (.iload 5, 2) := by decide +kernel
theorem dX4_move_77 : decode cX4_move 77 = .ok (.ireturn, 1) := by decide +kernel
set_option maxRecDepth 20000 in
theorem ggX4_narrow_X4_isRegister : GoodIn wsX4_narrow wsX4_isRegister := goodIn_r _ [7] (by decide +kernel) (by decide +kernel)
set_option maxRecDepth 20000 in
theorem gX4_narrow_X4_isRegister : GoodIn wsX4_narrow (va_wsS RX4 27 yX4_isRegister wsX4_isRegister) := goodIn_app (goodIn_of _ (by decide +kernel)) ggX4_narrow_X4_isRegister
set_option maxRecDepth 20000 in
theorem ggX4_narrow_X3_isPointer : GoodIn wsX4_narrow wsX3_isPointer := goodIn_r _ [11] (by decide +kernel) (by decide +kernel)
set_option maxRecDepth 20000 in
theorem gX4_narrow_X3_isPointer : GoodIn wsX4_narrow (va_wsS RX4 52 yX3_isPointer wsX3_isPointer) := goodIn_app (goodIn_of _ (by decide +kernel)) ggX4_narrow_X3_isPointer
set_option maxRecDepth 20000 in
theorem ggX4_narrow_X3_covers : GoodIn wsX4_narrow wsX3_covers := goodIn_r _ [14, 15, 16, 10, 17, 18, 19, 20, 21, 22, 23] (by decide +kernel) (by decide +kernel)
set_option maxRecDepth 20000 in
theorem gX4_narrow_X3_covers : GoodIn wsX4_narrow (va_wsS RX4 82 yX3_covers wsX3_covers) := goodIn_app (goodIn_of _ (by decide +kernel)) ggX4_narrow_X3_covers
set_option maxRecDepth 20000 in
theorem ggX4_narrow_X1_keep : GoodIn wsX4_narrow wsX1_keep := goodIn_r _ [28, 29, 30, 31, 32, 33, 34, 35, 36, 37, 38, 39, 40, 41, 42, 43, 44, 45, 46, 47, 48, 49, 50, 51, 52, 53, 54, 55, 56, 57, 58, 59, 60, 61, 87, 88, 89, 77, 78, 79, 80, 81, 82, 83, 84, 85, 86, 90] (by decide +kernel) (by decide +kernel)
set_option maxRecDepth 20000 in
theorem gX4_narrow_X1_keep : GoodIn wsX4_narrow (wsV RX4 35 RX1 yX1_keep wsX1_keep) := goodIn_app (goodIn_of _ (by decide +kernel)) ggX4_narrow_X1_keep
set_option maxRecDepth 20000 in
theorem ggX4_narrow_X3_at : GoodIn wsX4_narrow wsX3_at := goodIn_r _ [17] (by decide +kernel) (by decide +kernel)
set_option maxRecDepth 20000 in
theorem gX4_narrow_X3_at : GoodIn wsX4_narrow (va_wsS RX4 76 yX3_at wsX3_at) := goodIn_app (goodIn_of _ (by decide +kernel)) ggX4_narrow_X3_at
set_option maxRecDepth 20000 in
theorem ggX4_narrow_X3_rights : GoodIn wsX4_narrow wsX3_rights := goodIn_r _ [65] (by decide +kernel) (by decide +kernel)
set_option maxRecDepth 20000 in
theorem gX4_narrow_X3_rights : GoodIn wsX4_narrow (va_wsS RX4 79 yX3_rights wsX3_rights) := goodIn_app (goodIn_of _ (by decide +kernel)) ggX4_narrow_X3_rights
set_option maxRecDepth 20000 in
theorem ggX4_narrow_X3_ofPointer : GoodIn wsX4_narrow wsX3_ofPointer := goodIn_r _ [68, 69, 70, 71, 10, 72, 73] (by decide +kernel) (by decide +kernel)
set_option maxRecDepth 20000 in
theorem gX4_narrow_X3_ofPointer : GoodIn wsX4_narrow (va_wsS RX4 46 yX3_ofPointer wsX3_ofPointer) := goodIn_app (goodIn_of _ (by decide +kernel)) ggX4_narrow_X3_ofPointer
theorem dX4_narrow_0 : decode cX4_narrow 0 = .ok (.iload_n 1, 1) := by decide +kernel
theorem dX4_narrow_1 : decode cX4_narrow 1 = .ok (.invokestatic 27, 3) := by decide +kernel
theorem dX4_narrow_4 : decode cX4_narrow 4 = .ok (.ifCond .eq 26, 3) := by decide +kernel
theorem dX4_narrow_7 : decode cX4_narrow 7 = .ok (.iload_n 2, 1) := by decide +kernel
theorem dX4_narrow_8 : decode cX4_narrow 8 = .ok (.invokestatic 27, 3) := by decide +kernel
theorem dX4_narrow_11 : decode cX4_narrow 11 = .ok (.ifCond .eq 19, 3) := by decide +kernel
theorem dX4_narrow_14 : decode cX4_narrow 14 = .ok (.iload_n 3, 1) := by decide +kernel
theorem dX4_narrow_15 : decode cX4_narrow 15 = .ok (.iconst 1, 1) := by decide +kernel
theorem dX4_narrow_16 : decode cX4_narrow 16 = .ok (.if_icmp .lt 14, 3) := by decide +kernel
theorem dX4_narrow_19 : decode cX4_narrow 19 = .ok (.iload 4, 2) := by decide +kernel
theorem dX4_narrow_21 : decode cX4_narrow 21 = .ok (.ifCond .lt 9, 3) := by decide +kernel
theorem dX4_narrow_24 : decode cX4_narrow 24 = .ok (.iload 4, 2) := by decide +kernel
theorem dX4_narrow_26 : decode cX4_narrow 26 = .ok (.iconst 3, 1) := by decide +kernel
theorem dX4_narrow_27 : decode cX4_narrow 27 = .ok (.if_icmp .le 5, 3) := by decide +kernel
theorem dX4_narrow_30 : decode cX4_narrow 30 = .ok (.iconst (-1), 1) := by decide +kernel
theorem dX4_narrow_31 : decode cX4_narrow 31 = .ok (.ireturn, 1) := by decide +kernel
theorem dX4_narrow_32 : decode cX4_narrow 32 = .ok (.aload_n 0, 1) := by decide +kernel
theorem dX4_narrow_33 : decode cX4_narrow 33 = .ok (.getfield 12, 3) := by decide +kernel
theorem dX4_narrow_36 : decode cX4_narrow 36 = .ok (.getfield 43, 3) := by decide +kernel
theorem dX4_narrow_39 : decode cX4_narrow 39 = .ok (.iload_n 2, 1) := by decide +kernel
theorem dX4_narrow_40 : decode cX4_narrow 40 = .ok (.laload, 1) := by decide +kernel
theorem dX4_narrow_41 : decode cX4_narrow 41 = .ok (.lstore 5, 2) := by decide +kernel
theorem dX4_narrow_43 : decode cX4_narrow 43 = .ok (.lload 5, 2) := by decide +kernel
theorem dX4_narrow_45 : decode cX4_narrow 45 = .ok (.invokestatic 52, 3) := by decide +kernel
theorem dX4_narrow_48 : decode cX4_narrow 48 = .ok (.ifCond .ne 6, 3) := by decide +kernel
theorem dX4_narrow_51 : decode cX4_narrow 51 = .ok (.bipush (-11), 2) := by decide +kernel
theorem dX4_narrow_53 : decode cX4_narrow 53 = .ok (.ireturn, 1) := by decide +kernel
theorem dX4_narrow_54 : decode cX4_narrow 54 = .ok (.lload 5, 2) := by decide +kernel
theorem dX4_narrow_56 : decode cX4_narrow 56 = .ok (.iconst 0, 1) := by decide +kernel
theorem dX4_narrow_57 : decode cX4_narrow 57 = .ok (.iload_n 3, 1) := by decide +kernel
theorem dX4_narrow_58 : decode cX4_narrow 58 = .ok (.invokestatic 82, 3) := by decide +kernel
theorem dX4_narrow_61 : decode cX4_narrow 61 = .ok (.ifCond .ne 6, 3) := by decide +kernel
theorem dX4_narrow_64 : decode cX4_narrow 64 = .ok (.bipush (-13), 2) := by decide +kernel
theorem dX4_narrow_66 : decode cX4_narrow 66 = .ok (.ireturn, 1) := by decide +kernel
theorem dX4_narrow_67 : decode cX4_narrow 67 = .ok (.aload_n 0, 1) := by decide +kernel
theorem dX4_narrow_68 : decode cX4_narrow 68 = .ok (.getfield 19, 3) := by decide +kernel
theorem dX4_narrow_71 : decode cX4_narrow 71 = .ok (.aload_n 0, 1) := by decide +kernel
theorem dX4_narrow_72 : decode cX4_narrow 72 = .ok (.getfield 12, 3) := by decide +kernel
theorem dX4_narrow_75 : decode cX4_narrow 75 = .ok (.invokevirtual 35, 3) := by decide +kernel
theorem dX4_narrow_78 : decode cX4_narrow 78 = .ok (.lload 5, 2) := by decide +kernel
theorem dX4_narrow_80 : decode cX4_narrow 80 = .ok (.invokestatic 76, 3) := by decide +kernel
theorem dX4_narrow_83 : decode cX4_narrow 83 = .ok (.istore 7, 2) := by decide +kernel
theorem dX4_narrow_85 : decode cX4_narrow 85 = .ok (.aload_n 0, 1) := by decide +kernel
theorem dX4_narrow_86 : decode cX4_narrow 86 = .ok (.getfield 12, 3) := by decide +kernel
theorem dX4_narrow_89 : decode cX4_narrow 89 = .ok (.getfield 43, 3) := by decide +kernel
theorem dX4_narrow_92 : decode cX4_narrow 92 = .ok (.iload_n 1, 1) := by decide +kernel
theorem dX4_narrow_93 : decode cX4_narrow 93 = .ok (.iload 7, 2) := by decide +kernel
theorem dX4_narrow_95 : decode cX4_narrow 95 = .ok (.iload 7, 2) := by decide +kernel
theorem dX4_narrow_97 : decode cX4_narrow 97 = .ok (.iload_n 3, 1) := by decide +kernel
theorem dX4_narrow_98 : decode cX4_narrow 98 = .ok (.iadd, 1) := by decide +kernel
theorem dX4_narrow_99 : decode cX4_narrow 99 = .ok (.iload 7, 2) := by decide +kernel
theorem dX4_narrow_101 : decode cX4_narrow 101 = .ok (.lload 5, 2) := by decide +kernel
theorem dX4_narrow_103 : decode cX4_narrow 103 = .ok (.invokestatic 79, 3) := by decide +kernel
theorem dX4_narrow_106 : decode cX4_narrow 106 = .ok (.iload 4, 2) := by decide +kernel
theorem dX4_narrow_108 : decode cX4_narrow 108 = .ok (.iand, 1) := by decide +kernel
theorem dX4_narrow_109 : decode cX4_narrow 109 = .ok (.invokestatic 46, 3) := by decide +kernel
theorem dX4_narrow_112 : decode cX4_narrow 112 = .ok (.lastore, 1) := by decide +kernel
theorem dX4_narrow_113 : decode cX4_narrow 113 = .ok (.iload 7, 2) := by decide +kernel
theorem dX4_narrow_115 : decode cX4_narrow 115 = .ok (.ireturn, 1) := by decide +kernel
set_option maxRecDepth 20000 in
theorem ggX4_look_X4_isRegister : GoodIn wsX4_look wsX4_isRegister := goodIn_r _ [7] (by decide +kernel) (by decide +kernel)
set_option maxRecDepth 20000 in
theorem gX4_look_X4_isRegister : GoodIn wsX4_look (va_wsS RX4 27 yX4_isRegister wsX4_isRegister) := goodIn_app (goodIn_of _ (by decide +kernel)) ggX4_look_X4_isRegister
set_option maxRecDepth 20000 in
theorem ggX4_look_X4_faultOf : GoodIn wsX4_look wsX4_faultOf := goodIn_r _ [10, 11, 12, 13, 14, 15, 16, 17, 18, 19, 20, 21, 22, 23, 24, 25, 26, 27, 28, 29] (by decide +kernel) (by decide +kernel)
set_option maxRecDepth 20000 in
theorem gX4_look_X4_faultOf : GoodIn wsX4_look (va_wsS RX4 86 yX4_faultOf wsX4_faultOf) := goodIn_app (goodIn_of _ (by decide +kernel)) ggX4_look_X4_faultOf
set_option maxRecDepth 20000 in
theorem ggX4_look_X1_keep : GoodIn wsX4_look wsX1_keep := goodIn_r _ [34, 35, 36, 37, 38, 39, 40, 41, 42, 43, 44, 45, 46, 47, 48, 49, 50, 51, 52, 53, 54, 55, 56, 57, 58, 59, 60, 61, 62, 63, 64, 65, 66, 67, 116, 117, 118, 106, 107, 108, 109, 110, 111, 112, 113, 114, 115, 119] (by decide +kernel) (by decide +kernel)
set_option maxRecDepth 20000 in
theorem gX4_look_X1_keep : GoodIn wsX4_look (wsV RX4 35 RX1 yX1_keep wsX1_keep) := goodIn_app (goodIn_of _ (by decide +kernel)) ggX4_look_X1_keep
set_option maxRecDepth 20000 in
theorem ggX4_look_X3_at : GoodIn wsX4_look wsX3_at := goodIn_r _ [23] (by decide +kernel) (by decide +kernel)
set_option maxRecDepth 20000 in
theorem gX4_look_X3_at : GoodIn wsX4_look (va_wsS RX4 76 yX3_at wsX3_at) := goodIn_app (goodIn_of _ (by decide +kernel)) ggX4_look_X3_at
set_option maxRecDepth 20000 in
theorem ggX4_look_X2_lookUp : GoodIn wsX4_look wsX2_lookUp := goodIn_r _ [72, 47, 53, 73, 74, 75, 45, 76, 56, 77, 12, 13, 14, 78, 25, 26, 79, 28, 29, 80, 81, 82, 64, 83, 66, 84, 85, 86, 87, 88, 89, 90, 91, 92, 93, 94, 95, 22, 23, 96, 97, 98, 99, 106, 107, 108, 109, 110, 111, 112, 113, 114, 115, 119] (by decide +kernel) (by decide +kernel)
set_option maxRecDepth 20000 in
theorem gX4_look_X2_lookUp : GoodIn wsX4_look (wsV RX4 90 RX2 yX2_lookUp wsX2_lookUp) := goodIn_app (goodIn_of _ (by decide +kernel)) ggX4_look_X2_lookUp
set_option maxRecDepth 20000 in
theorem ggX4_look_X3_isPointer : GoodIn wsX4_look wsX3_isPointer := goodIn_r _ [14] (by decide +kernel) (by decide +kernel)
set_option maxRecDepth 20000 in
theorem gX4_look_X3_isPointer : GoodIn wsX4_look (va_wsS RX4 52 yX3_isPointer wsX3_isPointer) := goodIn_app (goodIn_of _ (by decide +kernel)) ggX4_look_X3_isPointer
set_option maxRecDepth 20000 in
theorem ggX4_look_X4_oneIf : GoodIn wsX4_look wsX4_oneIf := goodIn_r _ [102] (by decide +kernel) (by decide +kernel)
set_option maxRecDepth 20000 in
theorem gX4_look_X4_oneIf : GoodIn wsX4_look (va_wsS RX4 93 yX4_oneIf wsX4_oneIf) := goodIn_app (goodIn_of _ (by decide +kernel)) ggX4_look_X4_oneIf
theorem dX4_look_0 : decode cX4_look 0 = .ok (.iload_n 1, 1) := by decide +kernel
theorem dX4_look_1 : decode cX4_look 1 = .ok (.invokestatic 27, 3) := by decide +kernel
theorem dX4_look_4 : decode cX4_look 4 = .ok (.ifCond .eq 10, 3) := by decide +kernel
theorem dX4_look_7 : decode cX4_look 7 = .ok (.iload_n 2, 1) := by decide +kernel
theorem dX4_look_8 : decode cX4_look 8 = .ok (.invokestatic 27, 3) := by decide +kernel
theorem dX4_look_11 : decode cX4_look 11 = .ok (.ifCond .ne 5, 3) := by decide +kernel
theorem dX4_look_14 : decode cX4_look 14 = .ok (.iconst (-1), 1) := by decide +kernel
theorem dX4_look_15 : decode cX4_look 15 = .ok (.ireturn, 1) := by decide +kernel
theorem dX4_look_16 : decode cX4_look 16 = .ok (.aload_n 0, 1) := by decide +kernel
theorem dX4_look_17 : decode cX4_look 17 = .ok (.getfield 12, 3) := by decide +kernel
theorem dX4_look_20 : decode cX4_look 20 = .ok (.getfield 43, 3) := by decide +kernel
theorem dX4_look_23 : decode cX4_look 23 = .ok (.iload_n 2, 1) := by decide +kernel
theorem dX4_look_24 : decode cX4_look 24 = .ok (.laload, 1) := by decide +kernel
theorem dX4_look_25 : decode cX4_look 25 = .ok (.lstore 4, 2) := by decide +kernel
theorem dX4_look_27 : decode cX4_look 27 = .ok (.lload 4, 2) := by decide +kernel
theorem dX4_look_29 : decode cX4_look 29 = .ok (.iconst 1, 1) := by decide +kernel
theorem dX4_look_30 : decode cX4_look 30 = .ok (.iload_n 3, 1) := by decide +kernel
theorem dX4_look_31 : decode cX4_look 31 = .ok (.iconst 1, 1) := by decide +kernel
theorem dX4_look_32 : decode cX4_look 32 = .ok (.invokestatic 86, 3) := by decide +kernel
theorem dX4_look_35 : decode cX4_look 35 = .ok (.istore 6, 2) := by decide +kernel
theorem dX4_look_37 : decode cX4_look 37 = .ok (.iload 6, 2) := by decide +kernel
theorem dX4_look_39 : decode cX4_look 39 = .ok (.ifCond .eq 6, 3) := by decide +kernel
theorem dX4_look_42 : decode cX4_look 42 = .ok (.iload 6, 2) := by decide +kernel
theorem dX4_look_44 : decode cX4_look 44 = .ok (.ireturn, 1) := by decide +kernel
theorem dX4_look_45 : decode cX4_look 45 = .ok (.aload_n 0, 1) := by decide +kernel
theorem dX4_look_46 : decode cX4_look 46 = .ok (.getfield 19, 3) := by decide +kernel
theorem dX4_look_49 : decode cX4_look 49 = .ok (.aload_n 0, 1) := by decide +kernel
theorem dX4_look_50 : decode cX4_look 50 = .ok (.getfield 12, 3) := by decide +kernel
theorem dX4_look_53 : decode cX4_look 53 = .ok (.invokevirtual 35, 3) := by decide +kernel
theorem dX4_look_56 : decode cX4_look 56 = .ok (.aload_n 0, 1) := by decide +kernel
theorem dX4_look_57 : decode cX4_look 57 = .ok (.getfield 12, 3) := by decide +kernel
theorem dX4_look_60 : decode cX4_look 60 = .ok (.lload 4, 2) := by decide +kernel
theorem dX4_look_62 : decode cX4_look 62 = .ok (.invokestatic 76, 3) := by decide +kernel
theorem dX4_look_65 : decode cX4_look 65 = .ok (.iload_n 3, 1) := by decide +kernel
theorem dX4_look_66 : decode cX4_look 66 = .ok (.iadd, 1) := by decide +kernel
theorem dX4_look_67 : decode cX4_look 67 = .ok (.invokevirtual 90, 3) := by decide +kernel
theorem dX4_look_70 : decode cX4_look 70 = .ok (.lstore 7, 2) := by decide +kernel
theorem dX4_look_72 : decode cX4_look 72 = .ok (.aload_n 0, 1) := by decide +kernel
theorem dX4_look_73 : decode cX4_look 73 = .ok (.getfield 12, 3) := by decide +kernel
theorem dX4_look_76 : decode cX4_look 76 = .ok (.getfield 43, 3) := by decide +kernel
theorem dX4_look_79 : decode cX4_look 79 = .ok (.iload_n 1, 1) := by decide +kernel
theorem dX4_look_80 : decode cX4_look 80 = .ok (.lload 7, 2) := by decide +kernel
theorem dX4_look_82 : decode cX4_look 82 = .ok (.lastore, 1) := by decide +kernel
theorem dX4_look_83 : decode cX4_look 83 = .ok (.lload 7, 2) := by decide +kernel
theorem dX4_look_85 : decode cX4_look 85 = .ok (.invokestatic 52, 3) := by decide +kernel
theorem dX4_look_88 : decode cX4_look 88 = .ok (.invokestatic 93, 3) := by decide +kernel
theorem dX4_look_91 : decode cX4_look 91 = .ok (.ireturn, 1) := by decide +kernel
set_option maxRecDepth 20000 in
theorem ggX4_lay_X4_isRegister : GoodIn wsX4_lay wsX4_isRegister := goodIn_r _ [7] (by decide +kernel) (by decide +kernel)
set_option maxRecDepth 20000 in
theorem gX4_lay_X4_isRegister : GoodIn wsX4_lay (va_wsS RX4 27 yX4_isRegister wsX4_isRegister) := goodIn_app (goodIn_of _ (by decide +kernel)) ggX4_lay_X4_isRegister
set_option maxRecDepth 20000 in
theorem ggX4_lay_X4_faultOf : GoodIn wsX4_lay wsX4_faultOf := goodIn_r _ [10, 11, 12, 13, 14, 15, 16, 17, 18, 19, 20, 21, 22, 23, 24, 25, 26, 27, 28, 29] (by decide +kernel) (by decide +kernel)
set_option maxRecDepth 20000 in
theorem gX4_lay_X4_faultOf : GoodIn wsX4_lay (va_wsS RX4 86 yX4_faultOf wsX4_faultOf) := goodIn_app (goodIn_of _ (by decide +kernel)) ggX4_lay_X4_faultOf
set_option maxRecDepth 20000 in
theorem ggX4_lay_X1_keep : GoodIn wsX4_lay wsX1_keep := goodIn_r _ [34, 35, 36, 37, 38, 39, 40, 41, 42, 43, 44, 45, 46, 47, 48, 49, 50, 51, 52, 53, 54, 55, 56, 57, 58, 59, 60, 61, 62, 63, 64, 65, 66, 67, 91, 92, 93, 81, 82, 83, 84, 85, 86, 87, 88, 89, 90, 94] (by decide +kernel) (by decide +kernel)
set_option maxRecDepth 20000 in
theorem gX4_lay_X1_keep : GoodIn wsX4_lay (wsV RX4 35 RX1 yX1_keep wsX1_keep) := goodIn_app (goodIn_of _ (by decide +kernel)) ggX4_lay_X1_keep
set_option maxRecDepth 20000 in
theorem ggX4_lay_X3_at : GoodIn wsX4_lay wsX3_at := goodIn_r _ [23] (by decide +kernel) (by decide +kernel)
set_option maxRecDepth 20000 in
theorem gX4_lay_X3_at : GoodIn wsX4_lay (va_wsS RX4 76 yX3_at wsX3_at) := goodIn_app (goodIn_of _ (by decide +kernel)) ggX4_lay_X3_at
set_option maxRecDepth 20000 in
theorem ggX4_lay_X2_layDown : GoodIn wsX4_lay wsX2_layDown := goodIn_r _ [72, 47, 60, 73, 12, 13, 14, 74, 75, 76, 45, 77, 59, 81, 82, 83, 84, 85, 86, 87, 88, 89, 90] (by decide +kernel) (by decide +kernel)
set_option maxRecDepth 20000 in
theorem gX4_lay_X2_layDown : GoodIn wsX4_lay (wsV RX4 97 RX2 yX2_layDown wsX2_layDown) := goodIn_app (goodIn_of _ (by decide +kernel)) ggX4_lay_X2_layDown
theorem dX4_lay_0 : decode cX4_lay 0 = .ok (.iload_n 1, 1) := by decide +kernel
theorem dX4_lay_1 : decode cX4_lay 1 = .ok (.invokestatic 27, 3) := by decide +kernel
theorem dX4_lay_4 : decode cX4_lay 4 = .ok (.ifCond .eq 10, 3) := by decide +kernel
theorem dX4_lay_7 : decode cX4_lay 7 = .ok (.iload_n 3, 1) := by decide +kernel
theorem dX4_lay_8 : decode cX4_lay 8 = .ok (.invokestatic 27, 3) := by decide +kernel
theorem dX4_lay_11 : decode cX4_lay 11 = .ok (.ifCond .ne 5, 3) := by decide +kernel
theorem dX4_lay_14 : decode cX4_lay 14 = .ok (.iconst (-1), 1) := by decide +kernel
theorem dX4_lay_15 : decode cX4_lay 15 = .ok (.ireturn, 1) := by decide +kernel
theorem dX4_lay_16 : decode cX4_lay 16 = .ok (.aload_n 0, 1) := by decide +kernel
theorem dX4_lay_17 : decode cX4_lay 17 = .ok (.getfield 12, 3) := by decide +kernel
theorem dX4_lay_20 : decode cX4_lay 20 = .ok (.getfield 43, 3) := by decide +kernel
theorem dX4_lay_23 : decode cX4_lay 23 = .ok (.iload_n 1, 1) := by decide +kernel
theorem dX4_lay_24 : decode cX4_lay 24 = .ok (.laload, 1) := by decide +kernel
theorem dX4_lay_25 : decode cX4_lay 25 = .ok (.lstore 4, 2) := by decide +kernel
theorem dX4_lay_27 : decode cX4_lay 27 = .ok (.lload 4, 2) := by decide +kernel
theorem dX4_lay_29 : decode cX4_lay 29 = .ok (.iconst 2, 1) := by decide +kernel
theorem dX4_lay_30 : decode cX4_lay 30 = .ok (.iload_n 2, 1) := by decide +kernel
theorem dX4_lay_31 : decode cX4_lay 31 = .ok (.iconst 1, 1) := by decide +kernel
theorem dX4_lay_32 : decode cX4_lay 32 = .ok (.invokestatic 86, 3) := by decide +kernel
theorem dX4_lay_35 : decode cX4_lay 35 = .ok (.istore 6, 2) := by decide +kernel
theorem dX4_lay_37 : decode cX4_lay 37 = .ok (.iload 6, 2) := by decide +kernel
theorem dX4_lay_39 : decode cX4_lay 39 = .ok (.ifCond .eq 6, 3) := by decide +kernel
theorem dX4_lay_42 : decode cX4_lay 42 = .ok (.iload 6, 2) := by decide +kernel
theorem dX4_lay_44 : decode cX4_lay 44 = .ok (.ireturn, 1) := by decide +kernel
theorem dX4_lay_45 : decode cX4_lay 45 = .ok (.aload_n 0, 1) := by decide +kernel
theorem dX4_lay_46 : decode cX4_lay 46 = .ok (.getfield 19, 3) := by decide +kernel
theorem dX4_lay_49 : decode cX4_lay 49 = .ok (.aload_n 0, 1) := by decide +kernel
theorem dX4_lay_50 : decode cX4_lay 50 = .ok (.getfield 12, 3) := by decide +kernel
theorem dX4_lay_53 : decode cX4_lay 53 = .ok (.invokevirtual 35, 3) := by decide +kernel
theorem dX4_lay_56 : decode cX4_lay 56 = .ok (.lload 4, 2) := by decide +kernel
theorem dX4_lay_58 : decode cX4_lay 58 = .ok (.invokestatic 76, 3) := by decide +kernel
theorem dX4_lay_61 : decode cX4_lay 61 = .ok (.iload_n 2, 1) := by decide +kernel
theorem dX4_lay_62 : decode cX4_lay 62 = .ok (.iadd, 1) := by decide +kernel
theorem dX4_lay_63 : decode cX4_lay 63 = .ok (.istore 7, 2) := by decide +kernel
theorem dX4_lay_65 : decode cX4_lay 65 = .ok (.aload_n 0, 1) := by decide +kernel
theorem dX4_lay_66 : decode cX4_lay 66 = .ok (.getfield 12, 3) := by decide +kernel
theorem dX4_lay_69 : decode cX4_lay 69 = .ok (.iload 7, 2) := by decide +kernel
theorem dX4_lay_71 : decode cX4_lay 71 = .ok (.aload_n 0, 1) := by decide +kernel
theorem dX4_lay_72 : decode cX4_lay 72 = .ok (.getfield 12, 3) := by decide +kernel
theorem dX4_lay_75 : decode cX4_lay 75 = .ok (.getfield 43, 3) := by decide +kernel
theorem dX4_lay_78 : decode cX4_lay 78 = .ok (.iload_n 3, 1) := by decide +kernel
theorem dX4_lay_79 : decode cX4_lay 79 = .ok (.laload, 1) := by decide +kernel
theorem dX4_lay_80 : decode cX4_lay 80 = .ok (.invokevirtual 97, 3) := by decide +kernel
theorem dX4_lay_83 : decode cX4_lay 83 = .ok (.iload 7, 2) := by decide +kernel
theorem dX4_lay_85 : decode cX4_lay 85 = .ok (.ireturn, 1) := by decide +kernel
set_option maxRecDepth 20000 in
theorem ggX4_block_X4_isRegister : GoodIn wsX4_block wsX4_isRegister := goodIn_r _ [7] (by decide +kernel) (by decide +kernel)
set_option maxRecDepth 20000 in
theorem gX4_block_X4_isRegister : GoodIn wsX4_block (va_wsS RX4 27 yX4_isRegister wsX4_isRegister) := goodIn_app (goodIn_of _ (by decide +kernel)) ggX4_block_X4_isRegister
set_option maxRecDepth 20000 in
theorem ggX4_block_X4_faultOf : GoodIn wsX4_block wsX4_faultOf := goodIn_r _ [10, 11, 12, 13, 14, 15, 16, 17, 18, 19, 20, 21, 22, 23, 24, 25, 26, 27, 28, 29] (by decide +kernel) (by decide +kernel)
set_option maxRecDepth 20000 in
theorem gX4_block_X4_faultOf : GoodIn wsX4_block (va_wsS RX4 86 yX4_faultOf wsX4_faultOf) := goodIn_app (goodIn_of _ (by decide +kernel)) ggX4_block_X4_faultOf
set_option maxRecDepth 20000 in
theorem ggX4_block_X1_keep : GoodIn wsX4_block wsX1_keep := goodIn_r _ [34, 35, 36, 37, 38, 39, 40, 41, 42, 43, 44, 45, 46, 47, 48, 49, 50, 51, 52, 53, 54, 55, 56, 57, 58, 59, 60, 61, 62, 63, 64, 65, 66, 67, 126, 127, 128, 116, 117, 118, 119, 120, 121, 122, 123, 124, 125, 129] (by decide +kernel) (by decide +kernel)
set_option maxRecDepth 20000 in
theorem gX4_block_X1_keep : GoodIn wsX4_block (wsV RX4 35 RX1 yX1_keep wsX1_keep) := goodIn_app (goodIn_of _ (by decide +kernel)) ggX4_block_X1_keep
set_option maxRecDepth 20000 in
theorem ggX4_block_X3_at : GoodIn wsX4_block wsX3_at := goodIn_r _ [23] (by decide +kernel) (by decide +kernel)
set_option maxRecDepth 20000 in
theorem gX4_block_X3_at : GoodIn wsX4_block (va_wsS RX4 76 yX3_at wsX3_at) := goodIn_app (goodIn_of _ (by decide +kernel)) ggX4_block_X3_at
set_option maxRecDepth 20000 in
theorem ggX4_block_X4_carry : GoodIn wsX4_block wsX4_carry := goodIn_r _ [72, 73, 1, 74, 75, 76, 45, 77, 47, 53, 78, 79, 80, 81, 56, 82, 12, 13, 14, 83, 25, 26, 84, 28, 29, 85, 86, 87, 64, 88, 66, 89, 90, 91, 92, 93, 94, 95, 96, 97, 98, 99, 100, 22, 23, 101, 102, 103, 104, 105, 106, 107, 108, 60, 109, 110, 111, 112, 59, 113, 114, 115, 116, 117, 118, 119, 120, 121, 122, 123, 124, 125, 129] (by decide +kernel) (by decide +kernel)
set_option maxRecDepth 20000 in
theorem gX4_block_X4_carry : GoodIn wsX4_block (wsV RX4 101 RX4 yX4_carry wsX4_carry) := goodIn_app (goodIn_of _ (by decide +kernel)) ggX4_block_X4_carry
theorem dX4_block_0 : decode cX4_block 0 = .ok (.iload_n 1, 1) := by decide +kernel
theorem dX4_block_1 : decode cX4_block 1 = .ok (.invokestatic 27, 3) := by decide +kernel
theorem dX4_block_4 : decode cX4_block 4 = .ok (.ifCond .eq 23, 3) := by decide +kernel
theorem dX4_block_7 : decode cX4_block 7 = .ok (.iload_n 3, 1) := by decide +kernel
theorem dX4_block_8 : decode cX4_block 8 = .ok (.invokestatic 27, 3) := by decide +kernel
theorem dX4_block_11 : decode cX4_block 11 = .ok (.ifCond .eq 16, 3) := by decide +kernel
theorem dX4_block_14 : decode cX4_block 14 = .ok (.iload 5, 2) := by decide +kernel
theorem dX4_block_16 : decode cX4_block 16 = .ok (.iconst 1, 1) := by decide +kernel
theorem dX4_block_17 : decode cX4_block 17 = .ok (.if_icmp .lt 10, 3) := by decide +kernel
theorem dX4_block_20 : decode cX4_block 20 = .ok (.iload 5, 2) := by decide +kernel
theorem dX4_block_22 : decode cX4_block 22 = .ok (.bipush 64, 2) := by decide +kernel
theorem dX4_block_24 : decode cX4_block 24 = .ok (.if_icmp .le 5, 3) := by decide +kernel
theorem dX4_block_27 : decode cX4_block 27 = .ok (.iconst (-1), 1) := by decide +kernel
theorem dX4_block_28 : decode cX4_block 28 = .ok (.ireturn, 1) := by decide +kernel
theorem dX4_block_29 : decode cX4_block 29 = .ok (.aload_n 0, 1) := by decide +kernel
theorem dX4_block_30 : decode cX4_block 30 = .ok (.getfield 12, 3) := by decide +kernel
theorem dX4_block_33 : decode cX4_block 33 = .ok (.getfield 43, 3) := by decide +kernel
theorem dX4_block_36 : decode cX4_block 36 = .ok (.iload_n 1, 1) := by decide +kernel
theorem dX4_block_37 : decode cX4_block 37 = .ok (.laload, 1) := by decide +kernel
theorem dX4_block_38 : decode cX4_block 38 = .ok (.lstore 6, 2) := by decide +kernel
theorem dX4_block_40 : decode cX4_block 40 = .ok (.lload 6, 2) := by decide +kernel
theorem dX4_block_42 : decode cX4_block 42 = .ok (.iconst 2, 1) := by decide +kernel
theorem dX4_block_43 : decode cX4_block 43 = .ok (.iload_n 2, 1) := by decide +kernel
theorem dX4_block_44 : decode cX4_block 44 = .ok (.iload 5, 2) := by decide +kernel
theorem dX4_block_46 : decode cX4_block 46 = .ok (.invokestatic 86, 3) := by decide +kernel
theorem dX4_block_49 : decode cX4_block 49 = .ok (.istore 8, 2) := by decide +kernel
theorem dX4_block_51 : decode cX4_block 51 = .ok (.iload 8, 2) := by decide +kernel
theorem dX4_block_53 : decode cX4_block 53 = .ok (.ifCond .eq 6, 3) := by decide +kernel
theorem dX4_block_56 : decode cX4_block 56 = .ok (.iload 8, 2) := by decide +kernel
theorem dX4_block_58 : decode cX4_block 58 = .ok (.ireturn, 1) := by decide +kernel
theorem dX4_block_59 : decode cX4_block 59 = .ok (.aload_n 0, 1) := by decide +kernel
theorem dX4_block_60 : decode cX4_block 60 = .ok (.getfield 12, 3) := by decide +kernel
theorem dX4_block_63 : decode cX4_block 63 = .ok (.getfield 43, 3) := by decide +kernel
theorem dX4_block_66 : decode cX4_block 66 = .ok (.iload_n 3, 1) := by decide +kernel
theorem dX4_block_67 : decode cX4_block 67 = .ok (.laload, 1) := by decide +kernel
theorem dX4_block_68 : decode cX4_block 68 = .ok (.lstore 9, 2) := by decide +kernel
theorem dX4_block_70 : decode cX4_block 70 = .ok (.lload 9, 2) := by decide +kernel
theorem dX4_block_72 : decode cX4_block 72 = .ok (.iconst 1, 1) := by decide +kernel
theorem dX4_block_73 : decode cX4_block 73 = .ok (.iload 4, 2) := by decide +kernel
theorem dX4_block_75 : decode cX4_block 75 = .ok (.iload 5, 2) := by decide +kernel
theorem dX4_block_77 : decode cX4_block 77 = .ok (.invokestatic 86, 3) := by decide +kernel
theorem dX4_block_80 : decode cX4_block 80 = .ok (.istore 8, 2) := by decide +kernel
theorem dX4_block_82 : decode cX4_block 82 = .ok (.iload 8, 2) := by decide +kernel
theorem dX4_block_84 : decode cX4_block 84 = .ok (.ifCond .eq 6, 3) := by decide +kernel
theorem dX4_block_87 : decode cX4_block 87 = .ok (.iload 8, 2) := by decide +kernel
theorem dX4_block_89 : decode cX4_block 89 = .ok (.ireturn, 1) := by decide +kernel
theorem dX4_block_90 : decode cX4_block 90 = .ok (.aload_n 0, 1) := by decide +kernel
theorem dX4_block_91 : decode cX4_block 91 = .ok (.getfield 19, 3) := by decide +kernel
theorem dX4_block_94 : decode cX4_block 94 = .ok (.aload_n 0, 1) := by decide +kernel
theorem dX4_block_95 : decode cX4_block 95 = .ok (.getfield 12, 3) := by decide +kernel
theorem dX4_block_98 : decode cX4_block 98 = .ok (.invokevirtual 35, 3) := by decide +kernel
theorem dX4_block_101 : decode cX4_block 101 = .ok (.aload_n 0, 1) := by decide +kernel
theorem dX4_block_102 : decode cX4_block 102 = .ok (.lload 6, 2) := by decide +kernel
theorem dX4_block_104 : decode cX4_block 104 = .ok (.invokestatic 76, 3) := by decide +kernel
theorem dX4_block_107 : decode cX4_block 107 = .ok (.iload_n 2, 1) := by decide +kernel
theorem dX4_block_108 : decode cX4_block 108 = .ok (.iadd, 1) := by decide +kernel
theorem dX4_block_109 : decode cX4_block 109 = .ok (.lload 9, 2) := by decide +kernel
theorem dX4_block_111 : decode cX4_block 111 = .ok (.invokestatic 76, 3) := by decide +kernel
theorem dX4_block_114 : decode cX4_block 114 = .ok (.iload 4, 2) := by decide +kernel
theorem dX4_block_116 : decode cX4_block 116 = .ok (.iadd, 1) := by decide +kernel
theorem dX4_block_117 : decode cX4_block 117 = .ok (.iload 5, 2) := by decide +kernel
theorem dX4_block_119 : decode cX4_block 119 = .ok (.invokevirtual 101, 3) := by decide +kernel
theorem dX4_block_122 : decode cX4_block 122 = .ok (.iload 5, 2) := by decide +kernel
theorem dX4_block_124 : decode cX4_block 124 = .ok (.ireturn, 1) := by decide +kernel
set_option maxRecDepth 20000 in
theorem ggX4_sweep_X1_keep : GoodIn wsX4_sweep wsX1_keep := goodIn_r _ [8, 9, 10, 11, 12, 13, 14, 15, 16, 17, 18, 19, 20, 21, 22, 23, 24, 25, 26, 27, 28, 29, 30, 31, 32, 33, 34, 35, 36, 37, 38, 39, 40, 41, 78, 79, 80, 68, 69, 70, 71, 72, 73, 74, 75, 76, 77, 81] (by decide +kernel) (by decide +kernel)
set_option maxRecDepth 20000 in
theorem gX4_sweep_X1_keep : GoodIn wsX4_sweep (wsV RX4 35 RX1 yX1_keep wsX1_keep) := goodIn_app (goodIn_of _ (by decide +kernel)) ggX4_sweep_X1_keep
set_option maxRecDepth 20000 in
theorem ggX4_sweep_X2_beginSweep : GoodIn wsX4_sweep wsX2_beginSweep := goodIn_r _ [45, 32, 30, 29, 35, 36, 37, 38, 39, 40, 41, 23, 24, 25, 46, 47, 48, 49, 50, 51, 52, 53, 54, 55, 56, 57, 58, 59, 60, 61, 62, 63, 64, 68, 69, 70, 71, 72, 73, 74, 75, 76, 77, 81] (by decide +kernel) (by decide +kernel)
set_option maxRecDepth 20000 in
theorem gX4_sweep_X2_beginSweep : GoodIn wsX4_sweep (wsV RX4 109 RX2 yX2_beginSweep wsX2_beginSweep) := goodIn_app (goodIn_of _ (by decide +kernel)) ggX4_sweep_X2_beginSweep
theorem dX4_sweep_0 : decode cX4_sweep 0 = .ok (.aload_n 0, 1) := by decide +kernel
theorem dX4_sweep_1 : decode cX4_sweep 1 = .ok (.getfield 12, 3) := by decide +kernel
theorem dX4_sweep_4 : decode cX4_sweep 4 = .ok (.getfield 105, 3) := by decide +kernel
theorem dX4_sweep_7 : decode cX4_sweep 7 = .ok (.ifCond .eq 6, 3) := by decide +kernel
theorem dX4_sweep_10 : decode cX4_sweep 10 = .ok (.bipush (-2), 2) := by decide +kernel
theorem dX4_sweep_12 : decode cX4_sweep 12 = .ok (.ireturn, 1) := by decide +kernel
theorem dX4_sweep_13 : decode cX4_sweep 13 = .ok (.aload_n 0, 1) := by decide +kernel
theorem dX4_sweep_14 : decode cX4_sweep 14 = .ok (.getfield 19, 3) := by decide +kernel
theorem dX4_sweep_17 : decode cX4_sweep 17 = .ok (.aload_n 0, 1) := by decide +kernel
theorem dX4_sweep_18 : decode cX4_sweep 18 = .ok (.getfield 12, 3) := by decide +kernel
theorem dX4_sweep_21 : decode cX4_sweep 21 = .ok (.invokevirtual 35, 3) := by decide +kernel
theorem dX4_sweep_24 : decode cX4_sweep 24 = .ok (.aload_n 0, 1) := by decide +kernel
theorem dX4_sweep_25 : decode cX4_sweep 25 = .ok (.getfield 12, 3) := by decide +kernel
theorem dX4_sweep_28 : decode cX4_sweep 28 = .ok (.invokevirtual 109, 3) := by decide +kernel
theorem dX4_sweep_31 : decode cX4_sweep 31 = .ok (.ireturn, 1) := by decide +kernel
set_option maxRecDepth 20000 in
theorem ggX4_step_X1_keep : GoodIn wsX4_step wsX1_keep := goodIn_r _ [8, 9, 10, 11, 12, 13, 14, 15, 16, 17, 18, 19, 20, 21, 22, 23, 24, 25, 26, 27, 28, 29, 30, 31, 32, 33, 34, 35, 36, 37, 38, 39, 40, 41, 104, 105, 106, 94, 95, 96, 97, 98, 99, 100, 101, 102, 103, 107] (by decide +kernel) (by decide +kernel)
set_option maxRecDepth 20000 in
theorem gX4_step_X1_keep : GoodIn wsX4_step (wsV RX4 35 RX1 yX1_keep wsX1_keep) := goodIn_app (goodIn_of _ (by decide +kernel)) ggX4_step_X1_keep
set_option maxRecDepth 20000 in
theorem ggX4_step_X2_lookAtNextPages : GoodIn wsX4_step wsX2_lookAtNextPages := goodIn_r _ [45, 33, 46, 13, 14, 15, 27, 47, 48, 49, 19, 50, 21, 51, 52, 53, 54, 55, 56, 57, 58, 30, 59, 60, 61, 62, 63, 64, 65, 66, 67, 68, 69, 70, 71, 38, 72, 40, 73, 74, 75, 76, 77, 78, 79, 80, 81, 82, 83, 84, 85, 86, 87, 88, 89, 90, 94, 95, 96, 97, 98, 99, 100, 101, 102, 103, 107] (by decide +kernel) (by decide +kernel)
set_option maxRecDepth 20000 in
theorem gX4_step_X2_lookAtNextPages : GoodIn wsX4_step (wsV RX4 113 RX2 yX2_lookAtNextPages wsX2_lookAtNextPages) := goodIn_app (goodIn_of _ (by decide +kernel)) ggX4_step_X2_lookAtNextPages
theorem dX4_step_0 : decode cX4_step 0 = .ok (.iload_n 1, 1) := by decide +kernel
theorem dX4_step_1 : decode cX4_step 1 = .ok (.iconst 1, 1) := by decide +kernel
theorem dX4_step_2 : decode cX4_step 2 = .ok (.if_icmp .lt 9, 3) := by decide +kernel
theorem dX4_step_5 : decode cX4_step 5 = .ok (.iload_n 1, 1) := by decide +kernel
theorem dX4_step_6 : decode cX4_step 6 = .ok (.bipush 16, 2) := by decide +kernel
theorem dX4_step_8 : decode cX4_step 8 = .ok (.if_icmp .le 5, 3) := by decide +kernel
theorem dX4_step_11 : decode cX4_step 11 = .ok (.iconst (-1), 1) := by decide +kernel
theorem dX4_step_12 : decode cX4_step 12 = .ok (.ireturn, 1) := by decide +kernel
theorem dX4_step_13 : decode cX4_step 13 = .ok (.aload_n 0, 1) := by decide +kernel
theorem dX4_step_14 : decode cX4_step 14 = .ok (.getfield 12, 3) := by decide +kernel
theorem dX4_step_17 : decode cX4_step 17 = .ok (.getfield 105, 3) := by decide +kernel
theorem dX4_step_20 : decode cX4_step 20 = .ok (.ifCond .ne 6, 3) := by decide +kernel
theorem dX4_step_23 : decode cX4_step 23 = .ok (.bipush (-2), 2) := by decide +kernel
theorem dX4_step_25 : decode cX4_step 25 = .ok (.ireturn, 1) := by decide +kernel
theorem dX4_step_26 : decode cX4_step 26 = .ok (.aload_n 0, 1) := by decide +kernel
theorem dX4_step_27 : decode cX4_step 27 = .ok (.getfield 19, 3) := by decide +kernel
theorem dX4_step_30 : decode cX4_step 30 = .ok (.aload_n 0, 1) := by decide +kernel
theorem dX4_step_31 : decode cX4_step 31 = .ok (.getfield 12, 3) := by decide +kernel
theorem dX4_step_34 : decode cX4_step 34 = .ok (.invokevirtual 35, 3) := by decide +kernel
theorem dX4_step_37 : decode cX4_step 37 = .ok (.aload_n 0, 1) := by decide +kernel
theorem dX4_step_38 : decode cX4_step 38 = .ok (.getfield 12, 3) := by decide +kernel
theorem dX4_step_41 : decode cX4_step 41 = .ok (.iload_n 1, 1) := by decide +kernel
theorem dX4_step_42 : decode cX4_step 42 = .ok (.invokevirtual 113, 3) := by decide +kernel
theorem dX4_step_45 : decode cX4_step 45 = .ok (.ireturn, 1) := by decide +kernel
set_option maxRecDepth 20000 in
theorem ggX4_end_X1_keep : GoodIn wsX4_end wsX1_keep := goodIn_r _ [9, 10, 11, 12, 13, 14, 15, 16, 17, 18, 19, 20, 21, 22, 23, 24, 25, 26, 27, 28, 29, 30, 31, 32, 33, 34, 35, 36, 37, 38, 39, 40, 41, 42, 117, 118, 119, 107, 108, 109, 110, 111, 112, 113, 114, 115, 116, 120] (by decide +kernel) (by decide +kernel)
set_option maxRecDepth 20000 in
theorem gX4_end_X1_keep : GoodIn wsX4_end (wsV RX4 35 RX1 yX1_keep wsX1_keep) := goodIn_app (goodIn_of _ (by decide +kernel)) ggX4_end_X1_keep
set_option maxRecDepth 20000 in
theorem ggX4_end_X2_finishSweep : GoodIn wsX4_end wsX2_finishSweep := goodIn_r _ [46, 28, 27, 31, 30, 33, 34, 35, 47, 48, 49, 20, 50, 51, 52, 53, 54, 22, 55, 56, 57, 58, 59, 60, 61, 62, 63, 64, 65, 66, 67, 68, 69, 70, 71, 72, 73, 74, 75, 39, 76, 41, 77, 78, 79, 80, 81, 82, 83, 84, 85, 86, 87, 88, 89, 90, 91, 92, 93, 94, 95, 96, 97, 98, 99, 100, 101, 102, 103, 107, 108, 109, 110, 111, 112, 113, 114, 115, 116, 120] (by decide +kernel) (by decide +kernel)
set_option maxRecDepth 20000 in
theorem gX4_end_X2_finishSweep : GoodIn wsX4_end (wsV RX4 120 RX2 yX2_finishSweep wsX2_finishSweep) := goodIn_app (goodIn_of _ (by decide +kernel)) ggX4_end_X2_finishSweep
theorem dX4_end_0 : decode cX4_end 0 = .ok (.aload_n 0, 1) := by decide +kernel
theorem dX4_end_1 : decode cX4_end 1 = .ok (.getfield 12, 3) := by decide +kernel
theorem dX4_end_4 : decode cX4_end 4 = .ok (.getfield 105, 3) := by decide +kernel
theorem dX4_end_7 : decode cX4_end 7 = .ok (.ifCond .eq 15, 3) := by decide +kernel
theorem dX4_end_10 : decode cX4_end 10 = .ok (.aload_n 0, 1) := by decide +kernel
theorem dX4_end_11 : decode cX4_end 11 = .ok (.getfield 12, 3) := by decide +kernel
theorem dX4_end_14 : decode cX4_end 14 = .ok (.getfield 116, 3) := by decide +kernel
theorem dX4_end_17 : decode cX4_end 17 = .ok (.bipush 16, 2) := by decide +kernel
theorem dX4_end_19 : decode cX4_end 19 = .ok (.if_icmp .ge 6, 3) := by decide +kernel
theorem dX4_end_22 : decode cX4_end 22 = .ok (.bipush (-2), 2) := by decide +kernel
theorem dX4_end_24 : decode cX4_end 24 = .ok (.ireturn, 1) := by decide +kernel
theorem dX4_end_25 : decode cX4_end 25 = .ok (.aload_n 0, 1) := by decide +kernel
theorem dX4_end_26 : decode cX4_end 26 = .ok (.getfield 19, 3) := by decide +kernel
theorem dX4_end_29 : decode cX4_end 29 = .ok (.aload_n 0, 1) := by decide +kernel
theorem dX4_end_30 : decode cX4_end 30 = .ok (.getfield 12, 3) := by decide +kernel
theorem dX4_end_33 : decode cX4_end 33 = .ok (.invokevirtual 35, 3) := by decide +kernel
theorem dX4_end_36 : decode cX4_end 36 = .ok (.aload_n 0, 1) := by decide +kernel
theorem dX4_end_37 : decode cX4_end 37 = .ok (.getfield 12, 3) := by decide +kernel
theorem dX4_end_40 : decode cX4_end 40 = .ok (.invokevirtual 120, 3) := by decide +kernel
theorem dX4_end_43 : decode cX4_end 43 = .ok (.ireturn, 1) := by decide +kernel
set_option maxRecDepth 20000 in
theorem ggX4_told_X4_isRegister : GoodIn wsX4_told wsX4_isRegister := goodIn_r _ [8] (by decide +kernel) (by decide +kernel)
set_option maxRecDepth 20000 in
theorem gX4_told_X4_isRegister : GoodIn wsX4_told (va_wsS RX4 27 yX4_isRegister wsX4_isRegister) := goodIn_app (goodIn_of _ (by decide +kernel)) ggX4_told_X4_isRegister
set_option maxRecDepth 20000 in
theorem ggX4_told_X4_toldOf : GoodIn wsX4_told wsX4_toldOf := goodIn_r _ [12, 1, 4, 13, 14, 15, 16, 17, 18, 7, 19, 20, 21, 22, 23, 24, 25, 26, 27, 28, 29, 30, 31, 32, 33, 34, 35, 36, 37, 38, 39, 40, 41, 42, 43, 44, 45, 46, 47, 48, 49, 50, 51, 52, 53, 54, 55, 56, 57, 71, 72, 73, 74, 75, 76, 77, 78, 79, 80, 81, 82, 83, 84] (by decide +kernel) (by decide +kernel)
set_option maxRecDepth 20000 in
theorem gX4_told_X4_toldOf : GoodIn wsX4_told (wsV RX4 123 RX4 yX4_toldOf wsX4_toldOf) := goodIn_app (goodIn_of _ (by decide +kernel)) ggX4_told_X4_toldOf
set_option maxRecDepth 20000 in
theorem ggX4_told_X4_isCell : GoodIn wsX4_told wsX4_isCell := goodIn_r _ [60] (by decide +kernel) (by decide +kernel)
set_option maxRecDepth 20000 in
theorem gX4_told_X4_isCell : GoodIn wsX4_told (va_wsS RX4 127 yX4_isCell wsX4_isCell) := goodIn_app (goodIn_of _ (by decide +kernel)) ggX4_told_X4_isCell
set_option maxRecDepth 20000 in
theorem ggX4_told_X2_useOf : GoodIn wsX4_told wsX2_useOf := goodIn_r _ [64, 65, 66, 67, 68, 69, 44, 70, 46, 59, 7, 60, 74, 75, 76, 77, 78, 79, 80, 81, 82, 83, 84] (by decide +kernel) (by decide +kernel)
set_option maxRecDepth 20000 in
theorem gX4_told_X2_useOf : GoodIn wsX4_told (wsV RX4 133 RX2 yX2_useOf wsX2_useOf) := goodIn_app (goodIn_of _ (by decide +kernel)) ggX4_told_X2_useOf
theorem dX4_told_0 : decode cX4_told 0 = .ok (.iload_n 1, 1) := by decide +kernel
theorem dX4_told_1 : decode cX4_told 1 = .ok (.ifCond .ne 26, 3) := by decide +kernel
theorem dX4_told_4 : decode cX4_told 4 = .ok (.iload_n 2, 1) := by decide +kernel
theorem dX4_told_5 : decode cX4_told 5 = .ok (.invokestatic 27, 3) := by decide +kernel
theorem dX4_told_8 : decode cX4_told 8 = .ok (.ifCond .eq 19, 3) := by decide +kernel
theorem dX4_told_11 : decode cX4_told 11 = .ok (.aload_n 0, 1) := by decide +kernel
theorem dX4_told_12 : decode cX4_told 12 = .ok (.aload_n 0, 1) := by decide +kernel
theorem dX4_told_13 : decode cX4_told 13 = .ok (.getfield 12, 3) := by decide +kernel
theorem dX4_told_16 : decode cX4_told 16 = .ok (.getfield 43, 3) := by decide +kernel
theorem dX4_told_19 : decode cX4_told 19 = .ok (.iload_n 2, 1) := by decide +kernel
theorem dX4_told_20 : decode cX4_told 20 = .ok (.laload, 1) := by decide +kernel
theorem dX4_told_21 : decode cX4_told 21 = .ok (.iconst 0, 1) := by decide +kernel
theorem dX4_told_22 : decode cX4_told 22 = .ok (.iload_n 3, 1) := by decide +kernel
theorem dX4_told_23 : decode cX4_told 23 = .ok (.invokevirtual 123, 3) := by decide +kernel
theorem dX4_told_26 : decode cX4_told 26 = .ok (.ireturn, 1) := by decide +kernel
theorem dX4_told_27 : decode cX4_told 27 = .ok (.iload_n 1, 1) := by decide +kernel
theorem dX4_told_28 : decode cX4_told 28 = .ok (.iconst 1, 1) := by decide +kernel
theorem dX4_told_29 : decode cX4_told 29 = .ok (.if_icmp .ne 33, 3) := by decide +kernel
theorem dX4_told_32 : decode cX4_told 32 = .ok (.iload_n 2, 1) := by decide +kernel
theorem dX4_told_33 : decode cX4_told 33 = .ok (.invokestatic 127, 3) := by decide +kernel
theorem dX4_told_36 : decode cX4_told 36 = .ok (.ifCond .eq 26, 3) := by decide +kernel
theorem dX4_told_39 : decode cX4_told 39 = .ok (.aload_n 0, 1) := by decide +kernel
theorem dX4_told_40 : decode cX4_told 40 = .ok (.aload_n 0, 1) := by decide +kernel
theorem dX4_told_41 : decode cX4_told 41 = .ok (.getfield 12, 3) := by decide +kernel
theorem dX4_told_44 : decode cX4_told 44 = .ok (.getfield 130, 3) := by decide +kernel
theorem dX4_told_47 : decode cX4_told 47 = .ok (.iload_n 2, 1) := by decide +kernel
theorem dX4_told_48 : decode cX4_told 48 = .ok (.laload, 1) := by decide +kernel
theorem dX4_told_49 : decode cX4_told 49 = .ok (.aload_n 0, 1) := by decide +kernel
theorem dX4_told_50 : decode cX4_told 50 = .ok (.getfield 12, 3) := by decide +kernel
theorem dX4_told_53 : decode cX4_told 53 = .ok (.iload_n 2, 1) := by decide +kernel
theorem dX4_told_54 : decode cX4_told 54 = .ok (.invokevirtual 133, 3) := by decide +kernel
theorem dX4_told_57 : decode cX4_told 57 = .ok (.iload_n 3, 1) := by decide +kernel
theorem dX4_told_58 : decode cX4_told 58 = .ok (.invokevirtual 123, 3) := by decide +kernel
theorem dX4_told_61 : decode cX4_told 61 = .ok (.ireturn, 1) := by decide +kernel
theorem dX4_told_62 : decode cX4_told 62 = .ok (.ldc 74, 2) := by decide +kernel
theorem dX4_told_64 : decode cX4_told 64 = .ok (.ireturn, 1) := by decide +kernel
set_option maxRecDepth 20000 in
theorem ggX4_page_X2_isSeen : GoodIn wsX4_page wsX2_isSeen := goodIn_r _ [8, 9, 48, 49, 50, 51, 52, 53, 54, 55, 56, 57] (by decide +kernel) (by decide +kernel)
set_option maxRecDepth 20000 in
theorem gX4_page_X2_isSeen : GoodIn wsX4_page (wsV RX4 136 RX2 yX2_isSeen wsX2_isSeen) := goodIn_app (goodIn_of _ (by decide +kernel)) ggX4_page_X2_isSeen
set_option maxRecDepth 20000 in
theorem ggX4_page_X4_oneIf : GoodIn wsX4_page wsX4_oneIf := goodIn_r _ [13] (by decide +kernel) (by decide +kernel)
set_option maxRecDepth 20000 in
theorem gX4_page_X4_oneIf : GoodIn wsX4_page (va_wsS RX4 93 yX4_oneIf wsX4_oneIf) := goodIn_app (goodIn_of _ (by decide +kernel)) ggX4_page_X4_oneIf
set_option maxRecDepth 20000 in
theorem ggX4_page_X2_isDirty : GoodIn wsX4_page wsX2_isDirty := goodIn_r _ [17, 18, 48, 49, 50, 51, 52, 53, 54, 55, 56, 57] (by decide +kernel) (by decide +kernel)
set_option maxRecDepth 20000 in
theorem gX4_page_X2_isDirty : GoodIn wsX4_page (wsV RX4 139 RX2 yX2_isDirty wsX2_isDirty) := goodIn_app (goodIn_of _ (by decide +kernel)) ggX4_page_X2_isDirty
set_option maxRecDepth 20000 in
theorem ggX4_page_X2_pointersIn : GoodIn wsX4_page wsX2_pointersIn := goodIn_r _ [22, 23, 24, 25, 26, 27, 11, 12, 13, 48, 49, 50, 51, 52, 53, 54, 55, 56, 57] (by decide +kernel) (by decide +kernel)
set_option maxRecDepth 20000 in
theorem gX4_page_X2_pointersIn : GoodIn wsX4_page (wsV RX4 142 RX2 yX2_pointersIn wsX2_pointersIn) := goodIn_app (goodIn_of _ (by decide +kernel)) ggX4_page_X2_pointersIn
set_option maxRecDepth 20000 in
theorem ggX4_page_X0_sizeWithin : GoodIn wsX4_page wsX0_sizeWithin := goodIn_r _ [32, 33, 34, 35, 36, 31, 37, 38, 39, 40, 41, 42, 43, 44, 58] (by decide +kernel) (by decide +kernel)
set_option maxRecDepth 20000 in
theorem gX4_page_X0_sizeWithin : GoodIn wsX4_page (wsV RX4 150 RX0 yX0_sizeWithin wsX0_sizeWithin) := goodIn_app (goodIn_of _ (by decide +kernel)) ggX4_page_X0_sizeWithin
theorem dX4_page_0 : decode cX4_page 0 = .ok (.iload_n 1, 1) := by decide +kernel
theorem dX4_page_1 : decode cX4_page 1 = .ok (.ifCond .lt 9, 3) := by decide +kernel
theorem dX4_page_4 : decode cX4_page 4 = .ok (.iload_n 1, 1) := by decide +kernel
theorem dX4_page_5 : decode cX4_page 5 = .ok (.bipush 16, 2) := by decide +kernel
theorem dX4_page_7 : decode cX4_page 7 = .ok (.if_icmp .lt 5, 3) := by decide +kernel
theorem dX4_page_10 : decode cX4_page 10 = .ok (.iconst (-1), 1) := by decide +kernel
theorem dX4_page_11 : decode cX4_page 11 = .ok (.ireturn, 1) := by decide +kernel
theorem dX4_page_12 : decode cX4_page 12 = .ok (.iload_n 1, 1) := by decide +kernel
theorem dX4_page_13 : decode cX4_page 13 = .ok (.bipush 16, 2) := by decide +kernel
theorem dX4_page_15 : decode cX4_page 15 = .ok (.imul, 1) := by decide +kernel
theorem dX4_page_16 : decode cX4_page 16 = .ok (.istore_n 3, 1) := by decide +kernel
theorem dX4_page_17 : decode cX4_page 17 = .ok (.iload_n 3, 1) := by decide +kernel
theorem dX4_page_18 : decode cX4_page 18 = .ok (.bipush 16, 2) := by decide +kernel
theorem dX4_page_20 : decode cX4_page 20 = .ok (.iadd, 1) := by decide +kernel
theorem dX4_page_21 : decode cX4_page 21 = .ok (.istore 4, 2) := by decide +kernel
theorem dX4_page_23 : decode cX4_page 23 = .ok (.iload_n 2, 1) := by decide +kernel
theorem dX4_page_24 : decode cX4_page 24 = .ok (.tableswitch 99 0 4 #[36, 48, 60, 71, 85], 36) := by decide +kernel
theorem dX4_page_60 : decode cX4_page 60 = .ok (.aload_n 0, 1) := by decide +kernel
theorem dX4_page_61 : decode cX4_page 61 = .ok (.getfield 12, 3) := by decide +kernel
theorem dX4_page_64 : decode cX4_page 64 = .ok (.iload_n 1, 1) := by decide +kernel
theorem dX4_page_65 : decode cX4_page 65 = .ok (.invokevirtual 136, 3) := by decide +kernel
theorem dX4_page_68 : decode cX4_page 68 = .ok (.invokestatic 93, 3) := by decide +kernel
theorem dX4_page_71 : decode cX4_page 71 = .ok (.ireturn, 1) := by decide +kernel
theorem dX4_page_72 : decode cX4_page 72 = .ok (.aload_n 0, 1) := by decide +kernel
theorem dX4_page_73 : decode cX4_page 73 = .ok (.getfield 12, 3) := by decide +kernel
theorem dX4_page_76 : decode cX4_page 76 = .ok (.iload_n 1, 1) := by decide +kernel
theorem dX4_page_77 : decode cX4_page 77 = .ok (.invokevirtual 139, 3) := by decide +kernel
theorem dX4_page_80 : decode cX4_page 80 = .ok (.invokestatic 93, 3) := by decide +kernel
theorem dX4_page_83 : decode cX4_page 83 = .ok (.ireturn, 1) := by decide +kernel
theorem dX4_page_84 : decode cX4_page 84 = .ok (.aload_n 0, 1) := by decide +kernel
theorem dX4_page_85 : decode cX4_page 85 = .ok (.getfield 12, 3) := by decide +kernel
theorem dX4_page_88 : decode cX4_page 88 = .ok (.iload_n 3, 1) := by decide +kernel
theorem dX4_page_89 : decode cX4_page 89 = .ok (.iload 4, 2) := by decide +kernel
theorem dX4_page_91 : decode cX4_page 91 = .ok (.invokevirtual 142, 3) := by decide +kernel
theorem dX4_page_94 : decode cX4_page 94 = .ok (.ireturn, 1) := by decide +kernel
theorem dX4_page_95 : decode cX4_page 95 = .ok (.aload_n 0, 1) := by decide +kernel
theorem dX4_page_96 : decode cX4_page 96 = .ok (.getfield 12, 3) := by decide +kernel
theorem dX4_page_99 : decode cX4_page 99 = .ok (.getfield 146, 3) := by decide +kernel
theorem dX4_page_102 : decode cX4_page 102 = .ok (.iload_n 3, 1) := by decide +kernel
theorem dX4_page_103 : decode cX4_page 103 = .ok (.iload 4, 2) := by decide +kernel
theorem dX4_page_105 : decode cX4_page 105 = .ok (.invokevirtual 150, 3) := by decide +kernel
theorem dX4_page_108 : decode cX4_page 108 = .ok (.ireturn, 1) := by decide +kernel
theorem dX4_page_109 : decode cX4_page 109 = .ok (.aload_n 0, 1) := by decide +kernel
theorem dX4_page_110 : decode cX4_page 110 = .ok (.getfield 12, 3) := by decide +kernel
theorem dX4_page_113 : decode cX4_page 113 = .ok (.getfield 155, 3) := by decide +kernel
theorem dX4_page_116 : decode cX4_page 116 = .ok (.iload_n 3, 1) := by decide +kernel
theorem dX4_page_117 : decode cX4_page 117 = .ok (.iload 4, 2) := by decide +kernel
theorem dX4_page_119 : decode cX4_page 119 = .ok (.invokevirtual 150, 3) := by decide +kernel
theorem dX4_page_122 : decode cX4_page 122 = .ok (.ireturn, 1) := by decide +kernel
theorem dX4_page_123 : decode cX4_page 123 = .ok (.iconst (-1), 1) := by decide +kernel
theorem dX4_page_124 : decode cX4_page 124 = .ok (.ireturn, 1) := by decide +kernel
set_option maxRecDepth 20000 in
theorem ggX4_range_X4_isCell : GoodIn wsX4_range wsX4_isCell := goodIn_r _ [6] (by decide +kernel) (by decide +kernel)
set_option maxRecDepth 20000 in
theorem gX4_range_X4_isCell : GoodIn wsX4_range (va_wsS RX4 127 yX4_isCell wsX4_isCell) := goodIn_app (goodIn_of _ (by decide +kernel)) ggX4_range_X4_isCell
set_option maxRecDepth 20000 in
theorem ggX4_range_X0_has : GoodIn wsX4_range wsX0_has := goodIn_r _ [11, 12, 4, 5, 6, 38] (by decide +kernel) (by decide +kernel)
set_option maxRecDepth 20000 in
theorem gX4_range_X0_has : GoodIn wsX4_range (wsV RX4 158 RX0 yX0_has wsX0_has) := goodIn_app (goodIn_of _ (by decide +kernel)) ggX4_range_X0_has
set_option maxRecDepth 20000 in
theorem ggX4_range_X2_rangeFrom : GoodIn wsX4_range wsX2_rangeFrom := goodIn_r _ [17, 18, 19, 8, 9, 10, 11, 12, 4, 5, 6, 28, 29, 30, 31, 32, 33, 34, 35, 36, 37, 38] (by decide +kernel) (by decide +kernel)
set_option maxRecDepth 20000 in
theorem gX4_range_X2_rangeFrom : GoodIn wsX4_range (wsV RX4 161 RX2 yX2_rangeFrom wsX2_rangeFrom) := goodIn_app (goodIn_of _ (by decide +kernel)) ggX4_range_X2_rangeFrom
set_option maxRecDepth 20000 in
theorem ggX4_range_X2_rangeTo : GoodIn wsX4_range wsX2_rangeTo := goodIn_r _ [23, 24, 18, 19, 8, 9, 10, 11, 12, 4, 5, 6, 28, 29, 30, 31, 32, 33, 34, 35, 36, 37, 38] (by decide +kernel) (by decide +kernel)
set_option maxRecDepth 20000 in
theorem gX4_range_X2_rangeTo : GoodIn wsX4_range (wsV RX4 164 RX2 yX2_rangeTo wsX2_rangeTo) := goodIn_app (goodIn_of _ (by decide +kernel)) ggX4_range_X2_rangeTo
theorem dX4_range_0 : decode cX4_range 0 = .ok (.iload_n 1, 1) := by decide +kernel
theorem dX4_range_1 : decode cX4_range 1 = .ok (.invokestatic 127, 3) := by decide +kernel
theorem dX4_range_4 : decode cX4_range 4 = .ok (.ifCond .eq 12, 3) := by decide +kernel
theorem dX4_range_7 : decode cX4_range 7 = .ok (.iload_n 2, 1) := by decide +kernel
theorem dX4_range_8 : decode cX4_range 8 = .ok (.ifCond .lt 8, 3) := by decide +kernel
theorem dX4_range_11 : decode cX4_range 11 = .ok (.iload_n 2, 1) := by decide +kernel
theorem dX4_range_12 : decode cX4_range 12 = .ok (.iconst 1, 1) := by decide +kernel
theorem dX4_range_13 : decode cX4_range 13 = .ok (.if_icmp .le 5, 3) := by decide +kernel
theorem dX4_range_16 : decode cX4_range 16 = .ok (.iconst (-1), 1) := by decide +kernel
theorem dX4_range_17 : decode cX4_range 17 = .ok (.ireturn, 1) := by decide +kernel
theorem dX4_range_18 : decode cX4_range 18 = .ok (.aload_n 0, 1) := by decide +kernel
theorem dX4_range_19 : decode cX4_range 19 = .ok (.getfield 12, 3) := by decide +kernel
theorem dX4_range_22 : decode cX4_range 22 = .ok (.getfield 146, 3) := by decide +kernel
theorem dX4_range_25 : decode cX4_range 25 = .ok (.iload_n 1, 1) := by decide +kernel
theorem dX4_range_26 : decode cX4_range 26 = .ok (.invokevirtual 158, 3) := by decide +kernel
theorem dX4_range_29 : decode cX4_range 29 = .ok (.ifCond .ne 6, 3) := by decide +kernel
theorem dX4_range_32 : decode cX4_range 32 = .ok (.bipush (-4), 2) := by decide +kernel
theorem dX4_range_34 : decode cX4_range 34 = .ok (.ireturn, 1) := by decide +kernel
theorem dX4_range_35 : decode cX4_range 35 = .ok (.aload_n 0, 1) := by decide +kernel
theorem dX4_range_36 : decode cX4_range 36 = .ok (.getfield 12, 3) := by decide +kernel
theorem dX4_range_39 : decode cX4_range 39 = .ok (.iload_n 1, 1) := by decide +kernel
theorem dX4_range_40 : decode cX4_range 40 = .ok (.invokevirtual 161, 3) := by decide +kernel
theorem dX4_range_43 : decode cX4_range 43 = .ok (.istore_n 3, 1) := by decide +kernel
theorem dX4_range_44 : decode cX4_range 44 = .ok (.iload_n 2, 1) := by decide +kernel
theorem dX4_range_45 : decode cX4_range 45 = .ok (.ifCond .ne 7, 3) := by decide +kernel
theorem dX4_range_48 : decode cX4_range 48 = .ok (.iload_n 3, 1) := by decide +kernel
theorem dX4_range_49 : decode cX4_range 49 = .ok (.goto 13, 3) := by decide +kernel
theorem dX4_range_52 : decode cX4_range 52 = .ok (.aload_n 0, 1) := by decide +kernel
theorem dX4_range_53 : decode cX4_range 53 = .ok (.getfield 12, 3) := by decide +kernel
theorem dX4_range_56 : decode cX4_range 56 = .ok (.iload_n 1, 1) := by decide +kernel
theorem dX4_range_57 : decode cX4_range 57 = .ok (.invokevirtual 164, 3) := by decide +kernel
theorem dX4_range_60 : decode cX4_range 60 = .ok (.iload_n 3, 1) := by decide +kernel
theorem dX4_range_61 : decode cX4_range 61 = .ok (.isub, 1) := by decide +kernel
theorem dX4_range_62 : decode cX4_range 62 = .ok (.ireturn, 1) := by decide +kernel
set_option maxRecDepth 20000 in
theorem ggX4_undo_X1_takeBack : GoodIn wsX4_undo wsX1_takeBack := goodIn_r _ [8, 9, 10, 11, 12, 13, 14, 15, 16, 17, 18, 19, 20, 21, 22, 23, 24, 25, 26, 27, 28, 29, 30, 31, 32, 33, 34, 35, 36, 37, 41, 42, 43, 44, 45, 46, 47, 48, 49, 50, 51, 52, 53, 54] (by decide +kernel) (by decide +kernel)
set_option maxRecDepth 20000 in
theorem gX4_undo_X1_takeBack : GoodIn wsX4_undo (wsV RX4 170 RX1 yX1_takeBack wsX1_takeBack) := goodIn_app (goodIn_of _ (by decide +kernel)) ggX4_undo_X1_takeBack
theorem dX4_undo_0 : decode cX4_undo 0 = .ok (.aload_n 0, 1) := by decide +kernel
theorem dX4_undo_1 : decode cX4_undo 1 = .ok (.getfield 19, 3) := by decide +kernel
theorem dX4_undo_4 : decode cX4_undo 4 = .ok (.getfield 167, 3) := by decide +kernel
theorem dX4_undo_7 : decode cX4_undo 7 = .ok (.ifCond .ne 6, 3) := by decide +kernel
theorem dX4_undo_10 : decode cX4_undo 10 = .ok (.bipush (-2), 2) := by decide +kernel
theorem dX4_undo_12 : decode cX4_undo 12 = .ok (.ireturn, 1) := by decide +kernel
theorem dX4_undo_13 : decode cX4_undo 13 = .ok (.aload_n 0, 1) := by decide +kernel
theorem dX4_undo_14 : decode cX4_undo 14 = .ok (.getfield 19, 3) := by decide +kernel
theorem dX4_undo_17 : decode cX4_undo 17 = .ok (.aload_n 0, 1) := by decide +kernel
theorem dX4_undo_18 : decode cX4_undo 18 = .ok (.getfield 12, 3) := by decide +kernel
theorem dX4_undo_21 : decode cX4_undo 21 = .ok (.invokevirtual 170, 3) := by decide +kernel
theorem dX4_undo_24 : decode cX4_undo 24 = .ok (.iconst 1, 1) := by decide +kernel
theorem dX4_undo_25 : decode cX4_undo 25 = .ok (.ireturn, 1) := by decide +kernel
set_option maxRecDepth 20000 in
theorem ggX4_count_X0_size : GoodIn wsX4_count wsX0_size := goodIn_r _ [14, 15, 16, 17, 13, 18, 19, 20, 21, 22, 23, 24, 25, 26, 27, 28, 29, 30, 51] (by decide +kernel) (by decide +kernel)
set_option maxRecDepth 20000 in
theorem gX4_count_X0_size : GoodIn wsX4_count (wsV RX4 177 RX0 yX0_size wsX0_size) := goodIn_app (goodIn_of _ (by decide +kernel)) ggX4_count_X0_size
set_option maxRecDepth 20000 in
theorem ggX4_count_X4_oneIf : GoodIn wsX4_count wsX4_oneIf := goodIn_r _ [34] (by decide +kernel) (by decide +kernel)
set_option maxRecDepth 20000 in
theorem gX4_count_X4_oneIf : GoodIn wsX4_count (va_wsS RX4 93 yX4_oneIf wsX4_oneIf) := goodIn_app (goodIn_of _ (by decide +kernel)) ggX4_count_X4_oneIf
theorem dX4_count_0 : decode cX4_count 0 = .ok (.iload_n 1, 1) := by decide +kernel
theorem dX4_count_1 : decode cX4_count 1 = .ok (.iconst 5, 1) := by decide +kernel
theorem dX4_count_2 : decode cX4_count 2 = .ok (.if_icmp .lt 21, 3) := by decide +kernel
theorem dX4_count_5 : decode cX4_count 5 = .ok (.iload_n 1, 1) := by decide +kernel
theorem dX4_count_6 : decode cX4_count 6 = .ok (.bipush 12, 2) := by decide +kernel
theorem dX4_count_8 : decode cX4_count 8 = .ok (.if_icmp .ge 15, 3) := by decide +kernel
theorem dX4_count_11 : decode cX4_count 11 = .ok (.aload_n 0, 1) := by decide +kernel
theorem dX4_count_12 : decode cX4_count 12 = .ok (.getfield 12, 3) := by decide +kernel
theorem dX4_count_15 : decode cX4_count 15 = .ok (.getfield 173, 3) := by decide +kernel
theorem dX4_count_18 : decode cX4_count 18 = .ok (.iload_n 1, 1) := by decide +kernel
theorem dX4_count_19 : decode cX4_count 19 = .ok (.iconst 5, 1) := by decide +kernel
theorem dX4_count_20 : decode cX4_count 20 = .ok (.isub, 1) := by decide +kernel
theorem dX4_count_21 : decode cX4_count 21 = .ok (.iaload, 1) := by decide +kernel
theorem dX4_count_22 : decode cX4_count 22 = .ok (.ireturn, 1) := by decide +kernel
theorem dX4_count_23 : decode cX4_count 23 = .ok (.aload_n 0, 1) := by decide +kernel
theorem dX4_count_24 : decode cX4_count 24 = .ok (.getfield 12, 3) := by decide +kernel
theorem dX4_count_27 : decode cX4_count 27 = .ok (.getfield 146, 3) := by decide +kernel
theorem dX4_count_30 : decode cX4_count 30 = .ok (.invokevirtual 177, 3) := by decide +kernel
theorem dX4_count_33 : decode cX4_count 33 = .ok (.istore_n 2, 1) := by decide +kernel
theorem dX4_count_34 : decode cX4_count 34 = .ok (.aload_n 0, 1) := by decide +kernel
theorem dX4_count_35 : decode cX4_count 35 = .ok (.getfield 12, 3) := by decide +kernel
theorem dX4_count_38 : decode cX4_count 38 = .ok (.getfield 155, 3) := by decide +kernel
theorem dX4_count_41 : decode cX4_count 41 = .ok (.invokevirtual 177, 3) := by decide +kernel
theorem dX4_count_44 : decode cX4_count 44 = .ok (.istore_n 3, 1) := by decide +kernel
theorem dX4_count_45 : decode cX4_count 45 = .ok (.iload_n 1, 1) := by decide +kernel
theorem dX4_count_46 : decode cX4_count 46 = .ok (.tableswitch 123 0 13 #[70, 78, 80, 82, 93, 123, 123, 123, 123, 123, 123, 123, 104, 115], 70) := by decide +kernel
theorem dX4_count_116 : decode cX4_count 116 = .ok (.sipush 256, 3) := by decide +kernel
theorem dX4_count_119 : decode cX4_count 119 = .ok (.iload_n 2, 1) := by decide +kernel
theorem dX4_count_120 : decode cX4_count 120 = .ok (.isub, 1) := by decide +kernel
theorem dX4_count_121 : decode cX4_count 121 = .ok (.iload_n 3, 1) := by decide +kernel
theorem dX4_count_122 : decode cX4_count 122 = .ok (.isub, 1) := by decide +kernel
theorem dX4_count_123 : decode cX4_count 123 = .ok (.ireturn, 1) := by decide +kernel
theorem dX4_count_124 : decode cX4_count 124 = .ok (.iload_n 2, 1) := by decide +kernel
theorem dX4_count_125 : decode cX4_count 125 = .ok (.ireturn, 1) := by decide +kernel
theorem dX4_count_126 : decode cX4_count 126 = .ok (.iload_n 3, 1) := by decide +kernel
theorem dX4_count_127 : decode cX4_count 127 = .ok (.ireturn, 1) := by decide +kernel
theorem dX4_count_128 : decode cX4_count 128 = .ok (.aload_n 0, 1) := by decide +kernel
theorem dX4_count_129 : decode cX4_count 129 = .ok (.getfield 12, 3) := by decide +kernel
theorem dX4_count_132 : decode cX4_count 132 = .ok (.getfield 179, 3) := by decide +kernel
theorem dX4_count_135 : decode cX4_count 135 = .ok (.invokevirtual 177, 3) := by decide +kernel
theorem dX4_count_138 : decode cX4_count 138 = .ok (.ireturn, 1) := by decide +kernel
theorem dX4_count_139 : decode cX4_count 139 = .ok (.aload_n 0, 1) := by decide +kernel
theorem dX4_count_140 : decode cX4_count 140 = .ok (.getfield 12, 3) := by decide +kernel
theorem dX4_count_143 : decode cX4_count 143 = .ok (.getfield 182, 3) := by decide +kernel
theorem dX4_count_146 : decode cX4_count 146 = .ok (.invokevirtual 177, 3) := by decide +kernel
theorem dX4_count_149 : decode cX4_count 149 = .ok (.ireturn, 1) := by decide +kernel
theorem dX4_count_150 : decode cX4_count 150 = .ok (.aload_n 0, 1) := by decide +kernel
theorem dX4_count_151 : decode cX4_count 151 = .ok (.getfield 12, 3) := by decide +kernel
theorem dX4_count_154 : decode cX4_count 154 = .ok (.getfield 105, 3) := by decide +kernel
theorem dX4_count_157 : decode cX4_count 157 = .ok (.invokestatic 93, 3) := by decide +kernel
theorem dX4_count_160 : decode cX4_count 160 = .ok (.ireturn, 1) := by decide +kernel
theorem dX4_count_161 : decode cX4_count 161 = .ok (.aload_n 0, 1) := by decide +kernel
theorem dX4_count_162 : decode cX4_count 162 = .ok (.getfield 19, 3) := by decide +kernel
theorem dX4_count_165 : decode cX4_count 165 = .ok (.getfield 167, 3) := by decide +kernel
theorem dX4_count_168 : decode cX4_count 168 = .ok (.ireturn, 1) := by decide +kernel
theorem dX4_count_169 : decode cX4_count 169 = .ok (.iconst (-1), 1) := by decide +kernel
theorem dX4_count_170 : decode cX4_count 170 = .ok (.ireturn, 1) := by decide +kernel
set_option maxRecDepth 20000 in
theorem ggX4_carry_X2_lookUp : GoodIn wsX4_carry wsX2_lookUp := goodIn_r _ [7, 8, 9, 10, 11, 12, 6, 13, 14, 15, 16, 17, 18, 19, 20, 21, 22, 23, 24, 25, 26, 27, 28, 29, 30, 31, 32, 33, 34, 35, 36, 37, 38, 39, 40, 41, 42, 43, 44, 45, 46, 47, 48, 62, 63, 64, 65, 66, 67, 68, 69, 70, 71, 72] (by decide +kernel) (by decide +kernel)
set_option maxRecDepth 20000 in
theorem gX4_carry_X2_lookUp : GoodIn wsX4_carry (wsV RX4 90 RX2 yX2_lookUp wsX2_lookUp) := goodIn_app (goodIn_of _ (by decide +kernel)) ggX4_carry_X2_lookUp
set_option maxRecDepth 20000 in
theorem ggX4_carry_X2_layDown : GoodIn wsX4_carry wsX2_layDown := goodIn_r _ [52, 8, 53, 15, 16, 17, 18, 54, 55, 56, 6, 57, 58, 62, 63, 64, 65, 66, 67, 68, 69, 70, 71] (by decide +kernel) (by decide +kernel)
set_option maxRecDepth 20000 in
theorem gX4_carry_X2_layDown : GoodIn wsX4_carry (wsV RX4 97 RX2 yX2_layDown wsX2_layDown) := goodIn_app (goodIn_of _ (by decide +kernel)) ggX4_carry_X2_layDown
theorem dX4_carry_0 : decode cX4_carry 0 = .ok (.iconst 0, 1) := by decide +kernel
theorem dX4_carry_1 : decode cX4_carry 1 = .ok (.istore 4, 2) := by decide +kernel
theorem dX4_carry_3 : decode cX4_carry 3 = .ok (.iload 4, 2) := by decide +kernel
theorem dX4_carry_5 : decode cX4_carry 5 = .ok (.iload_n 3, 1) := by decide +kernel
theorem dX4_carry_6 : decode cX4_carry 6 = .ok (.if_icmp .ge 27, 3) := by decide +kernel
theorem dX4_carry_9 : decode cX4_carry 9 = .ok (.aload_n 0, 1) := by decide +kernel
theorem dX4_carry_10 : decode cX4_carry 10 = .ok (.getfield 23, 3) := by decide +kernel
theorem dX4_carry_13 : decode cX4_carry 13 = .ok (.iload 4, 2) := by decide +kernel
theorem dX4_carry_15 : decode cX4_carry 15 = .ok (.aload_n 0, 1) := by decide +kernel
theorem dX4_carry_16 : decode cX4_carry 16 = .ok (.getfield 12, 3) := by decide +kernel
theorem dX4_carry_19 : decode cX4_carry 19 = .ok (.iload_n 2, 1) := by decide +kernel
theorem dX4_carry_20 : decode cX4_carry 20 = .ok (.iload 4, 2) := by decide +kernel
theorem dX4_carry_22 : decode cX4_carry 22 = .ok (.iadd, 1) := by decide +kernel
theorem dX4_carry_23 : decode cX4_carry 23 = .ok (.invokevirtual 90, 3) := by decide +kernel
theorem dX4_carry_26 : decode cX4_carry 26 = .ok (.lastore, 1) := by decide +kernel
theorem dX4_carry_27 : decode cX4_carry 27 = .ok (.iinc 4 1, 3) := by decide +kernel
theorem dX4_carry_30 : decode cX4_carry 30 = .ok (.goto (-27), 3) := by decide +kernel
theorem dX4_carry_33 : decode cX4_carry 33 = .ok (.iconst 0, 1) := by decide +kernel
theorem dX4_carry_34 : decode cX4_carry 34 = .ok (.istore 4, 2) := by decide +kernel
theorem dX4_carry_36 : decode cX4_carry 36 = .ok (.iload 4, 2) := by decide +kernel
theorem dX4_carry_38 : decode cX4_carry 38 = .ok (.iload_n 3, 1) := by decide +kernel
theorem dX4_carry_39 : decode cX4_carry 39 = .ok (.if_icmp .ge 27, 3) := by decide +kernel
theorem dX4_carry_42 : decode cX4_carry 42 = .ok (.aload_n 0, 1) := by decide +kernel
theorem dX4_carry_43 : decode cX4_carry 43 = .ok (.getfield 12, 3) := by decide +kernel
theorem dX4_carry_46 : decode cX4_carry 46 = .ok (.iload_n 1, 1) := by decide +kernel
theorem dX4_carry_47 : decode cX4_carry 47 = .ok (.iload 4, 2) := by decide +kernel
theorem dX4_carry_49 : decode cX4_carry 49 = .ok (.iadd, 1) := by decide +kernel
theorem dX4_carry_50 : decode cX4_carry 50 = .ok (.aload_n 0, 1) := by decide +kernel
theorem dX4_carry_51 : decode cX4_carry 51 = .ok (.getfield 23, 3) := by decide +kernel
theorem dX4_carry_54 : decode cX4_carry 54 = .ok (.iload 4, 2) := by decide +kernel
theorem dX4_carry_56 : decode cX4_carry 56 = .ok (.laload, 1) := by decide +kernel
theorem dX4_carry_57 : decode cX4_carry 57 = .ok (.invokevirtual 97, 3) := by decide +kernel
theorem dX4_carry_60 : decode cX4_carry 60 = .ok (.iinc 4 1, 3) := by decide +kernel
theorem dX4_carry_63 : decode cX4_carry 63 = .ok (.goto (-27), 3) := by decide +kernel
theorem dX4_carry_66 : decode cX4_carry 66 = .ok (.return_, 1) := by decide +kernel
set_option maxRecDepth 20000 in
theorem ggX4_toldOf_X3_isPointer : GoodIn wsX4_toldOf wsX3_isPointer := goodIn_r _ [6] (by decide +kernel) (by decide +kernel)
set_option maxRecDepth 20000 in
theorem gX4_toldOf_X3_isPointer : GoodIn wsX4_toldOf (va_wsS RX4 52 yX3_isPointer wsX3_isPointer) := goodIn_app (goodIn_of _ (by decide +kernel)) ggX4_toldOf_X3_isPointer
set_option maxRecDepth 20000 in
theorem ggX4_toldOf_X4_oneIf : GoodIn wsX4_toldOf wsX4_oneIf := goodIn_r _ [10] (by decide +kernel) (by decide +kernel)
set_option maxRecDepth 20000 in
theorem gX4_toldOf_X4_oneIf : GoodIn wsX4_toldOf (va_wsS RX4 93 yX4_oneIf wsX4_oneIf) := goodIn_app (goodIn_of _ (by decide +kernel)) ggX4_toldOf_X4_oneIf
set_option maxRecDepth 20000 in
theorem ggX4_toldOf_X3_at : GoodIn wsX4_toldOf wsX3_at := goodIn_r _ [13] (by decide +kernel) (by decide +kernel)
set_option maxRecDepth 20000 in
theorem gX4_toldOf_X3_at : GoodIn wsX4_toldOf (va_wsS RX4 76 yX3_at wsX3_at) := goodIn_app (goodIn_of _ (by decide +kernel)) ggX4_toldOf_X3_at
set_option maxRecDepth 20000 in
theorem ggX4_toldOf_X3_from : GoodIn wsX4_toldOf wsX3_from := goodIn_r _ [16] (by decide +kernel) (by decide +kernel)
set_option maxRecDepth 20000 in
theorem gX4_toldOf_X3_from : GoodIn wsX4_toldOf (va_wsS RX4 56 yX3_from wsX3_from) := goodIn_app (goodIn_of _ (by decide +kernel)) ggX4_toldOf_X3_from
set_option maxRecDepth 20000 in
theorem ggX4_toldOf_X3_to : GoodIn wsX4_toldOf wsX3_to := goodIn_r _ [19] (by decide +kernel) (by decide +kernel)
set_option maxRecDepth 20000 in
theorem gX4_toldOf_X3_to : GoodIn wsX4_toldOf (va_wsS RX4 60 yX3_to wsX3_to) := goodIn_app (goodIn_of _ (by decide +kernel)) ggX4_toldOf_X3_to
set_option maxRecDepth 20000 in
theorem ggX4_toldOf_X3_rights : GoodIn wsX4_toldOf wsX3_rights := goodIn_r _ [22] (by decide +kernel) (by decide +kernel)
set_option maxRecDepth 20000 in
theorem gX4_toldOf_X3_rights : GoodIn wsX4_toldOf (va_wsS RX4 79 yX3_rights wsX3_rights) := goodIn_app (goodIn_of _ (by decide +kernel)) ggX4_toldOf_X3_rights
set_option maxRecDepth 20000 in
theorem ggX4_toldOf_X2_isStale : GoodIn wsX4_toldOf wsX2_isStale := goodIn_r _ [27, 28, 29, 4, 5, 6, 30, 15, 16, 31, 18, 19, 32, 33, 34, 35, 36, 37, 38, 39, 40, 41, 42, 43, 44, 45, 46, 47, 48, 52, 53, 54, 55, 56, 57, 58, 59, 60, 61, 62] (by decide +kernel) (by decide +kernel)
set_option maxRecDepth 20000 in
theorem gX4_toldOf_X2_isStale : GoodIn wsX4_toldOf (wsV RX4 185 RX2 yX2_isStale wsX2_isStale) := goodIn_app (goodIn_of _ (by decide +kernel)) ggX4_toldOf_X2_isStale
theorem dX4_toldOf_0 : decode cX4_toldOf 0 = .ok (.iload 4, 2) := by decide +kernel
theorem dX4_toldOf_2 : decode cX4_toldOf 2 = .ok (.tableswitch 84 0 6 #[42, 50, 55, 60, 65, 70, 72], 42) := by decide +kernel
theorem dX4_toldOf_44 : decode cX4_toldOf 44 = .ok (.lload_n 1, 1) := by decide +kernel
theorem dX4_toldOf_45 : decode cX4_toldOf 45 = .ok (.invokestatic 52, 3) := by decide +kernel
theorem dX4_toldOf_48 : decode cX4_toldOf 48 = .ok (.invokestatic 93, 3) := by decide +kernel
theorem dX4_toldOf_51 : decode cX4_toldOf 51 = .ok (.ireturn, 1) := by decide +kernel
theorem dX4_toldOf_52 : decode cX4_toldOf 52 = .ok (.lload_n 1, 1) := by decide +kernel
theorem dX4_toldOf_53 : decode cX4_toldOf 53 = .ok (.invokestatic 76, 3) := by decide +kernel
theorem dX4_toldOf_56 : decode cX4_toldOf 56 = .ok (.ireturn, 1) := by decide +kernel
theorem dX4_toldOf_57 : decode cX4_toldOf 57 = .ok (.lload_n 1, 1) := by decide +kernel
theorem dX4_toldOf_58 : decode cX4_toldOf 58 = .ok (.invokestatic 56, 3) := by decide +kernel
theorem dX4_toldOf_61 : decode cX4_toldOf 61 = .ok (.ireturn, 1) := by decide +kernel
theorem dX4_toldOf_62 : decode cX4_toldOf 62 = .ok (.lload_n 1, 1) := by decide +kernel
theorem dX4_toldOf_63 : decode cX4_toldOf 63 = .ok (.invokestatic 60, 3) := by decide +kernel
theorem dX4_toldOf_66 : decode cX4_toldOf 66 = .ok (.ireturn, 1) := by decide +kernel
theorem dX4_toldOf_67 : decode cX4_toldOf 67 = .ok (.lload_n 1, 1) := by decide +kernel
theorem dX4_toldOf_68 : decode cX4_toldOf 68 = .ok (.invokestatic 79, 3) := by decide +kernel
theorem dX4_toldOf_71 : decode cX4_toldOf 71 = .ok (.ireturn, 1) := by decide +kernel
theorem dX4_toldOf_72 : decode cX4_toldOf 72 = .ok (.iload_n 3, 1) := by decide +kernel
theorem dX4_toldOf_73 : decode cX4_toldOf 73 = .ok (.ireturn, 1) := by decide +kernel
theorem dX4_toldOf_74 : decode cX4_toldOf 74 = .ok (.aload_n 0, 1) := by decide +kernel
theorem dX4_toldOf_75 : decode cX4_toldOf 75 = .ok (.getfield 12, 3) := by decide +kernel
theorem dX4_toldOf_78 : decode cX4_toldOf 78 = .ok (.lload_n 1, 1) := by decide +kernel
theorem dX4_toldOf_79 : decode cX4_toldOf 79 = .ok (.invokevirtual 185, 3) := by decide +kernel
theorem dX4_toldOf_82 : decode cX4_toldOf 82 = .ok (.invokestatic 93, 3) := by decide +kernel
theorem dX4_toldOf_85 : decode cX4_toldOf 85 = .ok (.ireturn, 1) := by decide +kernel
theorem dX4_toldOf_86 : decode cX4_toldOf 86 = .ok (.ldc 74, 2) := by decide +kernel
theorem dX4_toldOf_88 : decode cX4_toldOf 88 = .ok (.ireturn, 1) := by decide +kernel
set_option maxRecDepth 20000 in
theorem ggX4_faultOf_X3_isPointer : GoodIn wsX4_faultOf wsX3_isPointer := goodIn_r _ [4] (by decide +kernel) (by decide +kernel)
set_option maxRecDepth 20000 in
theorem gX4_faultOf_X3_isPointer : GoodIn wsX4_faultOf (va_wsS RX4 52 yX3_isPointer wsX3_isPointer) := goodIn_app (goodIn_of _ (by decide +kernel)) ggX4_faultOf_X3_isPointer
set_option maxRecDepth 20000 in
theorem ggX4_faultOf_X3_rights : GoodIn wsX4_faultOf wsX3_rights := goodIn_r _ [7] (by decide +kernel) (by decide +kernel)
set_option maxRecDepth 20000 in
theorem gX4_faultOf_X3_rights : GoodIn wsX4_faultOf (va_wsS RX4 79 yX3_rights wsX3_rights) := goodIn_app (goodIn_of _ (by decide +kernel)) ggX4_faultOf_X3_rights
set_option maxRecDepth 20000 in
theorem ggX4_faultOf_X3_covers : GoodIn wsX4_faultOf wsX3_covers := goodIn_r _ [10, 11, 12, 3, 13, 14, 15, 16, 17, 18, 19] (by decide +kernel) (by decide +kernel)
set_option maxRecDepth 20000 in
theorem gX4_faultOf_X3_covers : GoodIn wsX4_faultOf (va_wsS RX4 82 yX3_covers wsX3_covers) := goodIn_app (goodIn_of _ (by decide +kernel)) ggX4_faultOf_X3_covers
theorem dX4_faultOf_0 : decode cX4_faultOf 0 = .ok (.lload_n 0, 1) := by decide +kernel
theorem dX4_faultOf_1 : decode cX4_faultOf 1 = .ok (.invokestatic 52, 3) := by decide +kernel
theorem dX4_faultOf_4 : decode cX4_faultOf 4 = .ok (.ifCond .ne 6, 3) := by decide +kernel
theorem dX4_faultOf_7 : decode cX4_faultOf 7 = .ok (.bipush (-11), 2) := by decide +kernel
theorem dX4_faultOf_9 : decode cX4_faultOf 9 = .ok (.ireturn, 1) := by decide +kernel
theorem dX4_faultOf_10 : decode cX4_faultOf 10 = .ok (.lload_n 0, 1) := by decide +kernel
theorem dX4_faultOf_11 : decode cX4_faultOf 11 = .ok (.invokestatic 79, 3) := by decide +kernel
theorem dX4_faultOf_14 : decode cX4_faultOf 14 = .ok (.iload_n 2, 1) := by decide +kernel
theorem dX4_faultOf_15 : decode cX4_faultOf 15 = .ok (.iand, 1) := by decide +kernel
theorem dX4_faultOf_16 : decode cX4_faultOf 16 = .ok (.ifCond .ne 6, 3) := by decide +kernel
theorem dX4_faultOf_19 : decode cX4_faultOf 19 = .ok (.bipush (-12), 2) := by decide +kernel
theorem dX4_faultOf_21 : decode cX4_faultOf 21 = .ok (.ireturn, 1) := by decide +kernel
theorem dX4_faultOf_22 : decode cX4_faultOf 22 = .ok (.lload_n 0, 1) := by decide +kernel
theorem dX4_faultOf_23 : decode cX4_faultOf 23 = .ok (.iload_n 3, 1) := by decide +kernel
theorem dX4_faultOf_24 : decode cX4_faultOf 24 = .ok (.iload 4, 2) := by decide +kernel
theorem dX4_faultOf_26 : decode cX4_faultOf 26 = .ok (.invokestatic 82, 3) := by decide +kernel
theorem dX4_faultOf_29 : decode cX4_faultOf 29 = .ok (.ifCond .eq 7, 3) := by decide +kernel
theorem dX4_faultOf_32 : decode cX4_faultOf 32 = .ok (.iconst 0, 1) := by decide +kernel
theorem dX4_faultOf_33 : decode cX4_faultOf 33 = .ok (.goto 5, 3) := by decide +kernel
theorem dX4_faultOf_36 : decode cX4_faultOf 36 = .ok (.bipush (-13), 2) := by decide +kernel
theorem dX4_faultOf_38 : decode cX4_faultOf 38 = .ok (.ireturn, 1) := by decide +kernel
theorem dX4_isRegister_0 : decode cX4_isRegister 0 = .ok (.iload_n 0, 1) := by decide +kernel
theorem dX4_isRegister_1 : decode cX4_isRegister 1 = .ok (.ifCond .lt 13, 3) := by decide +kernel
theorem dX4_isRegister_4 : decode cX4_isRegister 4 = .ok (.iload_n 0, 1) := by decide +kernel
theorem dX4_isRegister_5 : decode cX4_isRegister 5 = .ok (.bipush 8, 2) := by decide +kernel
theorem dX4_isRegister_7 : decode cX4_isRegister 7 = .ok (.if_icmp .ge 7, 3) := by decide +kernel
theorem dX4_isRegister_10 : decode cX4_isRegister 10 = .ok (.iconst 1, 1) := by decide +kernel
theorem dX4_isRegister_11 : decode cX4_isRegister 11 = .ok (.goto 4, 3) := by decide +kernel
theorem dX4_isRegister_14 : decode cX4_isRegister 14 = .ok (.iconst 0, 1) := by decide +kernel
theorem dX4_isRegister_15 : decode cX4_isRegister 15 = .ok (.ireturn, 1) := by decide +kernel
theorem dX4_isCell_0 : decode cX4_isCell 0 = .ok (.iload_n 0, 1) := by decide +kernel
theorem dX4_isCell_1 : decode cX4_isCell 1 = .ok (.ifCond .lt 14, 3) := by decide +kernel
theorem dX4_isCell_4 : decode cX4_isCell 4 = .ok (.iload_n 0, 1) := by decide +kernel
theorem dX4_isCell_5 : decode cX4_isCell 5 = .ok (.sipush 256, 3) := by decide +kernel
theorem dX4_isCell_8 : decode cX4_isCell 8 = .ok (.if_icmp .ge 7, 3) := by decide +kernel
theorem dX4_isCell_11 : decode cX4_isCell 11 = .ok (.iconst 1, 1) := by decide +kernel
theorem dX4_isCell_12 : decode cX4_isCell 12 = .ok (.goto 4, 3) := by decide +kernel
theorem dX4_isCell_15 : decode cX4_isCell 15 = .ok (.iconst 0, 1) := by decide +kernel
theorem dX4_isCell_16 : decode cX4_isCell 16 = .ok (.ireturn, 1) := by decide +kernel
theorem dX4_oneIf_0 : decode cX4_oneIf 0 = .ok (.iload_n 0, 1) := by decide +kernel
theorem dX4_oneIf_1 : decode cX4_oneIf 1 = .ok (.ifCond .eq 7, 3) := by decide +kernel
theorem dX4_oneIf_4 : decode cX4_oneIf 4 = .ok (.iconst 1, 1) := by decide +kernel
theorem dX4_oneIf_5 : decode cX4_oneIf 5 = .ok (.goto 4, 3) := by decide +kernel
theorem dX4_oneIf_8 : decode cX4_oneIf 8 = .ok (.iconst 0, 1) := by decide +kernel
theorem dX4_oneIf_9 : decode cX4_oneIf 9 = .ok (.ireturn, 1) := by decide +kernel
theorem dJ13_bitCount_95d88_0 : decode cJ13_bitCount_95d88 0 = .ok (.lload_n 0, 1) := by decide +kernel
theorem dJ13_bitCount_95d88_1 : decode cJ13_bitCount_95d88 1 = .ok (.lload_n 0, 1) := by decide +kernel
theorem dJ13_bitCount_95d88_2 : decode cJ13_bitCount_95d88 2 = .ok (.iconst 1, 1) := by decide +kernel
theorem dJ13_bitCount_95d88_3 : decode cJ13_bitCount_95d88 3 = .ok (.lushr, 1) := by decide +kernel
theorem dJ13_bitCount_95d88_4 : decode cJ13_bitCount_95d88 4 = .ok (.ldc2_w 314, 3) := by decide +kernel
theorem dJ13_bitCount_95d88_7 : decode cJ13_bitCount_95d88 7 = .ok (.land, 1) := by decide +kernel
theorem dJ13_bitCount_95d88_8 : decode cJ13_bitCount_95d88 8 = .ok (.lsub, 1) := by decide +kernel
theorem dJ13_bitCount_95d88_9 : decode cJ13_bitCount_95d88 9 = .ok (.lstore_n 0, 1) := by decide +kernel
theorem dJ13_bitCount_95d88_10 : decode cJ13_bitCount_95d88 10 = .ok (.lload_n 0, 1) := by decide +kernel
theorem dJ13_bitCount_95d88_11 : decode cJ13_bitCount_95d88 11 = .ok (.ldc2_w 316, 3) := by decide +kernel
theorem dJ13_bitCount_95d88_14 : decode cJ13_bitCount_95d88 14 = .ok (.land, 1) := by decide +kernel
theorem dJ13_bitCount_95d88_15 : decode cJ13_bitCount_95d88 15 = .ok (.lload_n 0, 1) := by decide +kernel
theorem dJ13_bitCount_95d88_16 : decode cJ13_bitCount_95d88 16 = .ok (.iconst 2, 1) := by decide +kernel
theorem dJ13_bitCount_95d88_17 : decode cJ13_bitCount_95d88 17 = .ok (.lushr, 1) := by decide +kernel
theorem dJ13_bitCount_95d88_18 : decode cJ13_bitCount_95d88 18 = .ok (.ldc2_w 316, 3) := by decide +kernel
theorem dJ13_bitCount_95d88_21 : decode cJ13_bitCount_95d88 21 = .ok (.land, 1) := by decide +kernel
theorem dJ13_bitCount_95d88_22 : decode cJ13_bitCount_95d88 22 = .ok (.ladd, 1) := by decide +kernel
theorem dJ13_bitCount_95d88_23 : decode cJ13_bitCount_95d88 23 = .ok (.lstore_n 0, 1) := by decide +kernel
theorem dJ13_bitCount_95d88_24 : decode cJ13_bitCount_95d88 24 = .ok (.lload_n 0, 1) := by decide +kernel
theorem dJ13_bitCount_95d88_25 : decode cJ13_bitCount_95d88 25 = .ok (.lload_n 0, 1) := by decide +kernel
theorem dJ13_bitCount_95d88_26 : decode cJ13_bitCount_95d88 26 = .ok (.iconst 4, 1) := by decide +kernel
theorem dJ13_bitCount_95d88_27 : decode cJ13_bitCount_95d88 27 = .ok (.lushr, 1) := by decide +kernel
theorem dJ13_bitCount_95d88_28 : decode cJ13_bitCount_95d88 28 = .ok (.ladd, 1) := by decide +kernel
theorem dJ13_bitCount_95d88_29 : decode cJ13_bitCount_95d88 29 = .ok (.ldc2_w 318, 3) := by decide +kernel
theorem dJ13_bitCount_95d88_32 : decode cJ13_bitCount_95d88 32 = .ok (.land, 1) := by decide +kernel
theorem dJ13_bitCount_95d88_33 : decode cJ13_bitCount_95d88 33 = .ok (.lstore_n 0, 1) := by decide +kernel
theorem dJ13_bitCount_95d88_34 : decode cJ13_bitCount_95d88 34 = .ok (.lload_n 0, 1) := by decide +kernel
theorem dJ13_bitCount_95d88_35 : decode cJ13_bitCount_95d88 35 = .ok (.lload_n 0, 1) := by decide +kernel
theorem dJ13_bitCount_95d88_36 : decode cJ13_bitCount_95d88 36 = .ok (.bipush 8, 2) := by decide +kernel
theorem dJ13_bitCount_95d88_38 : decode cJ13_bitCount_95d88 38 = .ok (.lushr, 1) := by decide +kernel
theorem dJ13_bitCount_95d88_39 : decode cJ13_bitCount_95d88 39 = .ok (.ladd, 1) := by decide +kernel
theorem dJ13_bitCount_95d88_40 : decode cJ13_bitCount_95d88 40 = .ok (.lstore_n 0, 1) := by decide +kernel
theorem dJ13_bitCount_95d88_41 : decode cJ13_bitCount_95d88 41 = .ok (.lload_n 0, 1) := by decide +kernel
theorem dJ13_bitCount_95d88_42 : decode cJ13_bitCount_95d88 42 = .ok (.lload_n 0, 1) := by decide +kernel
theorem dJ13_bitCount_95d88_43 : decode cJ13_bitCount_95d88 43 = .ok (.bipush 16, 2) := by decide +kernel
theorem dJ13_bitCount_95d88_45 : decode cJ13_bitCount_95d88 45 = .ok (.lushr, 1) := by decide +kernel
theorem dJ13_bitCount_95d88_46 : decode cJ13_bitCount_95d88 46 = .ok (.ladd, 1) := by decide +kernel
theorem dJ13_bitCount_95d88_47 : decode cJ13_bitCount_95d88 47 = .ok (.lstore_n 0, 1) := by decide +kernel
theorem dJ13_bitCount_95d88_48 : decode cJ13_bitCount_95d88 48 = .ok (.lload_n 0, 1) := by decide +kernel
theorem dJ13_bitCount_95d88_49 : decode cJ13_bitCount_95d88 49 = .ok (.lload_n 0, 1) := by decide +kernel
theorem dJ13_bitCount_95d88_50 : decode cJ13_bitCount_95d88 50 = .ok (.bipush 32, 2) := by decide +kernel
theorem dJ13_bitCount_95d88_52 : decode cJ13_bitCount_95d88 52 = .ok (.lushr, 1) := by decide +kernel
theorem dJ13_bitCount_95d88_53 : decode cJ13_bitCount_95d88 53 = .ok (.ladd, 1) := by decide +kernel
theorem dJ13_bitCount_95d88_54 : decode cJ13_bitCount_95d88 54 = .ok (.lstore_n 0, 1) := by decide +kernel
theorem dJ13_bitCount_95d88_55 : decode cJ13_bitCount_95d88 55 = .ok (.lload_n 0, 1) := by decide +kernel
theorem dJ13_bitCount_95d88_56 : decode cJ13_bitCount_95d88 56 = .ok (.l2i, 1) := by decide +kernel
theorem dJ13_bitCount_95d88_57 : decode cJ13_bitCount_95d88 57 = .ok (.bipush 127, 2) := by decide +kernel
theorem dJ13_bitCount_95d88_59 : decode cJ13_bitCount_95d88 59 = .ok (.iand, 1) := by decide +kernel
theorem dJ13_bitCount_95d88_60 : decode cJ13_bitCount_95d88 60 = .ok (.ireturn, 1) := by decide +kernel
theorem dJ9_min_7cf53_0 : decode cJ9_min_7cf53 0 = .ok (.iload_n 0, 1) := by decide +kernel
theorem dJ9_min_7cf53_1 : decode cJ9_min_7cf53 1 = .ok (.iload_n 1, 1) := by decide +kernel
theorem dJ9_min_7cf53_2 : decode cJ9_min_7cf53 2 = .ok (.if_icmp .gt 7, 3) := by decide +kernel
theorem dJ9_min_7cf53_5 : decode cJ9_min_7cf53 5 = .ok (.iload_n 0, 1) := by decide +kernel
theorem dJ9_min_7cf53_6 : decode cJ9_min_7cf53 6 = .ok (.goto 4, 3) := by decide +kernel
theorem dJ9_min_7cf53_9 : decode cJ9_min_7cf53 9 = .ok (.iload_n 1, 1) := by decide +kernel
theorem dJ9_min_7cf53_10 : decode cJ9_min_7cf53 10 = .ok (.ireturn, 1) := by decide +kernel
end
section
/-! rows on bits, shifts and unsigned numbers, to paste: each family out of a closed proof of our own, whole with what it rests on; each by itself clean at Lean in its own claim (generation 39, form 5). Take a family whole -/
/-! ===== Int32 by its bits: bt x i ===== -/
def bt (x : Int32) (i : Nat) : Bool := x.toBitVec.getLsbD i
theorem b_ext {x y : Int32} (h : ∀ i, i < 32 → bt x i = bt y i) : x = y := Int32.toBitVec_inj.mp (BitVec.eq_of_getLsbD_eq (fun i hi => h i hi))
theorem b_or (x y : Int32) (i : Nat) : bt (x ||| y) i = (bt x i || bt y i) := by unfold bt; rw [Int32.toBitVec_or, BitVec.getLsbD_or]
theorem b_and (x y : Int32) (i : Nat) : bt (x &&& y) i = (bt x i && bt y i) := by unfold bt; rw [Int32.toBitVec_and, BitVec.getLsbD_and]
theorem b_xor (x y : Int32) (i : Nat) : bt (x ^^^ y) i = (bt x i ^^ bt y i) := by unfold bt; rw [Int32.toBitVec_xor, BitVec.getLsbD_xor]
theorem b_big {x : Int32} {i : Nat} (h : 32 ≤ i) : bt x i = false := BitVec.getLsbD_of_ge _ _ h
theorem b_255 (i : Nat) : bt 255 i = decide (i < 8) := by
  rcases Nat.lt_or_ge i 32 with h | h
  · exact (by decide +kernel : ∀ i, i < 32 → bt 255 i = decide (i < 8)) i h
  · rw [b_big h, decide_eq_false (by omega)]
theorem b_65535 (i : Nat) : bt 65535 i = decide (i < 16) := by
  rcases Nat.lt_or_ge i 32 with h | h
  · exact (by decide +kernel : ∀ i, i < 32 → bt 65535 i = decide (i < 16)) i h
  · rw [b_big h, decide_eq_false (by omega)]
theorem b_m1 : ∀ i, i < 32 → bt (-1) i = true := by decide +kernel
theorem b_0 (i : Nat) : bt 0 i = false := BitVec.getLsbD_zero
theorem s_l : ∀ n, n < 32 → ((nI n &&& 31).toBitVec.smod 32).toNat = n := by decide +kernel
theorem s_u : ∀ n, n < 32 → (((nI n).toUInt32 &&& Int32.toUInt32 31).toBitVec % 32).toNat = n := by decide +kernel
theorem b_shl (n : Nat) (hn : n < 32) (x : Int32) {i : Nat} (hi : i < 32) : bt (x <<< (nI n &&& 31)) i = (decide (n ≤ i) && bt x (i - n)) := by
  unfold bt
  rw [Int32.toBitVec_shiftLeft]
  show (x.toBitVec <<< ((nI n &&& 31).toBitVec.smod 32).toNat).getLsbD i = _
  rw [s_l n hn, BitVec.getLsbD_shiftLeft]
  rcases Nat.lt_or_ge i n with h | h
  · simp [h, Nat.not_le.mpr h]
  · simp [hi, h, Nat.not_lt.mpr h]
theorem b_ushr (n : Nat) (hn : n < 32) (x : Int32) (i : Nat) : bt ((x.toUInt32 >>> ((nI n).toUInt32 &&& Int32.toUInt32 31)).toInt32) i = bt x (n + i) := by
  show (x.toUInt32 >>> ((nI n).toUInt32 &&& Int32.toUInt32 31)).toBitVec.getLsbD i = x.toUInt32.toBitVec.getLsbD (n + i)
  rw [UInt32.toBitVec_shiftRight]
  show (x.toUInt32.toBitVec >>> (((nI n).toUInt32 &&& Int32.toUInt32 31).toBitVec % 32).toNat).getLsbD i = _
  rw [s_u n hn, BitVec.getLsbD_ushiftRight]
theorem b_sshr (n : Nat) (hn : n < 32) (x : Int32) {i : Nat} (hi : i < 32) : bt (x >>> (nI n &&& 31)) i = if n + i < 32 then bt x (n + i) else bt x 31 := by
  unfold bt
  rw [Int32.toBitVec_shiftRight]
  show (x.toBitVec.sshiftRight ((nI n &&& 31).toBitVec.smod 32).toNat).getLsbD i = _
  rw [s_l n hn, BitVec.getLsbD_sshiftRight, BitVec.msb_eq_getLsbD_last]
  simp [hi]
theorem b_shl8 (x : Int32) {i : Nat} (hi : i < 32) : bt (x <<< ((8 : Int32) &&& 31)) i = (decide (8 ≤ i) && bt x (i - 8)) := b_shl 8 (by omega) x hi
theorem b_shl16 (x : Int32) {i : Nat} (hi : i < 32) : bt (x <<< ((16 : Int32) &&& 31)) i = (decide (16 ≤ i) && bt x (i - 16)) := b_shl 16 (by omega) x hi
theorem b_shl24 (x : Int32) {i : Nat} (hi : i < 32) : bt (x <<< ((24 : Int32) &&& 31)) i = (decide (24 ≤ i) && bt x (i - 24)) := b_shl 24 (by omega) x hi
theorem b_sshr8 (x : Int32) {i : Nat} (hi : i < 32) : bt (x >>> ((8 : Int32) &&& 31)) i = if 8 + i < 32 then bt x (8 + i) else bt x 31 := b_sshr 8 (by omega) x hi
/-! ===== nI under and, xor, >>>, one bit, 65535 ===== -/
theorem nx_and (a b : Nat) : nI a &&& nI b = nI (a &&& b) := by
  apply Int32.toBitVec_inj.1
  show BitVec.ofNat 32 a &&& BitVec.ofNat 32 b = BitVec.ofNat 32 (a &&& b)
  apply BitVec.eq_of_getLsbD_eq
  intro i hi
  simp [hi]
theorem nx_xor (a b : Nat) : nI a ^^^ nI b = nI (a ^^^ b) := by
  apply Int32.toBitVec_inj.1
  show BitVec.ofNat 32 a ^^^ BitVec.ofNat 32 b = BitVec.ofNat 32 (a ^^^ b)
  apply BitVec.eq_of_getLsbD_eq
  intro i hi
  simp [hi]
theorem nx_cnt : ∀ j : Fin 32, (UInt32.ofNat j.val &&& Int32.toUInt32 31).toNat % 32 = j.val := by decide +kernel
theorem nx_ush {k j : Nat} (hk : k < 65536) (hj : j < 32) : ((nI k).toUInt32 >>> ((nI j).toUInt32 &&& Int32.toUInt32 31)).toInt32 = nI (k >>> j) := by
  have hs : k >>> j ≤ k := by
    rw [Nat.shiftRight_eq_div_pow]
    exact Nat.div_le_self _ _
  have e2 : UInt32.ofNat k >>> (UInt32.ofNat j &&& Int32.toUInt32 31) = UInt32.ofNat (k >>> j) := by
    apply UInt32.toNat_inj.1
    have h1 : (UInt32.ofNat k).toNat = k := Nat.mod_eq_of_lt (by omega)
    have h2 : (UInt32.ofNat (k >>> j)).toNat = k >>> j := Nat.mod_eq_of_lt (by omega)
    rw [UInt32.toNat_shiftRight, nx_cnt ⟨j, hj⟩, h1, h2]
  show (UInt32.ofNat k >>> (UInt32.ofNat j &&& Int32.toUInt32 31)).toInt32 = _
  rw [e2]
  rfl
theorem nx_bit {k j : Nat} (hk : k < 65536) (hj : j < 16) : (((nI k).toUInt32 >>> ((nI j).toUInt32 &&& Int32.toUInt32 31)).toInt32 &&& 1) = 0 ↔ k.testBit j = false := by
  rw [nx_ush hk (by omega)]
  show nI (k >>> j) &&& nI 1 = 0 ↔ _
  rw [nx_and, Nat.and_one_is_mod, ← nI_0, nI_eq (by omega) (by omega), Nat.testBit_eq_decide_div_mod_eq, Nat.shiftRight_eq_div_pow, decide_eq_false_iff_not]
  generalize k / 2 ^ j = z
  omega
theorem nx_mod (k : Nat) : nI k &&& 65535 = nI (k % 65536) := by
  show nI k &&& nI 65535 = _
  rw [nx_and, show (65535 : Nat) = 2 ^ 16 - 1 from rfl, Nat.and_two_pow_sub_one_eq_mod]
theorem nx_m16 {k : Nat} (h : k < 65536) : nI k &&& 65535 = nI k := by rw [nx_mod, Nat.mod_eq_of_lt h]
theorem nx_mask (x : Int32) : ∃ k, k < 65536 ∧ x &&& 65535 = nI k := by
  have e : x = nI x.toBitVec.toNat := by
    apply Int32.toBitVec_inj.1
    show x.toBitVec = BitVec.ofNat 32 x.toBitVec.toNat
    simp
  refine ⟨x.toBitVec.toNat % 65536, Nat.mod_lt _ (by omega), ?_⟩
  rw [← nx_mod, ← e]
/-! ===== Int32 as a set of bits: test, set ===== -/
def nf_M (m : Int32) : Nat := 4294967296 - m.toBitVec.toNat
theorem nf_sh : ∀ l, l < 32 → ((1 : Int32) <<< (nI l &&& 31)).toBitVec = BitVec.twoPow 32 l := by decide +kernel
theorem nf_sl : ∀ l, l < 32 → (((nI l).toUInt32 &&& Int32.toUInt32 31).toBitVec % 32).toNat = l := by decide +kernel
theorem nf_tp : ∀ l, l < 32 → BitVec.twoPow 32 l ≠ 0#32 := by decide +kernel
theorem nf_bit (m : Int32) (l : Nat) (hl : l < 32) : ((m.toUInt32 >>> ((nI l).toUInt32 &&& Int32.toUInt32 31)).toInt32 &&& 1) = 0 ↔ (m &&& ((1 : Int32) <<< (nI l &&& 31))) = 0 := by
  have e : ((m.toUInt32 >>> ((nI l).toUInt32 &&& Int32.toUInt32 31)).toInt32).toBitVec = m.toBitVec >>> l := by
    show m.toBitVec >>> (((nI l).toUInt32 &&& Int32.toUInt32 31).toBitVec % 32) = m.toBitVec >>> l
    rw [BitVec.ushiftRight_eq', nf_sl l hl]
  rw [← Int32.toBitVec_inj, ← Int32.toBitVec_inj, Int32.toBitVec_and, Int32.toBitVec_and, nf_sh l hl, e, BitVec.and_twoPow]
  show (m.toBitVec >>> l &&& 1#32) = 0#32 ↔ _ = 0#32
  rw [BitVec.and_one_eq_setWidth_ofBool_getLsbD, BitVec.getLsbD_ushiftRight, Nat.add_zero]
  cases hb : m.toBitVec.getLsbD l
  · exact ⟨fun _ => by simp, fun _ => by decide⟩
  · exact ⟨fun z => absurd z (by decide), fun z => absurd ((if_pos rfl).symm.trans z) (nf_tp l hl)⟩
theorem nf_gr (m k : Int32) (h : m &&& k = 0) (hk : k ≠ 0) : nf_M (m ||| k) < nf_M m := by
  have hm := m.toBitVec.isLt
  have hm' := (m ||| k).toBitVec.isLt
  have h1 : m.toBitVec.toNat ≤ (m ||| k).toBitVec.toNat := by
    rw [Int32.toBitVec_or, BitVec.toNat_or]
    exact Nat.left_le_or
  have h2 : m.toBitVec.toNat ≠ (m ||| k).toBitVec.toNat := by
    intro e
    have e2 : m = m ||| k := Int32.toBitVec_inj.mp (BitVec.eq_of_toNat_eq e)
    apply hk
    apply Int32.toBitVec_inj.mp
    show k.toBitVec = 0#32
    apply BitVec.eq_of_getLsbD_eq
    intro i hi
    have a : m.toBitVec.getLsbD i = (m.toBitVec.getLsbD i || k.toBitVec.getLsbD i) := by rw [← BitVec.getLsbD_or, ← Int32.toBitVec_or, ← e2]
    have b : (m.toBitVec.getLsbD i && k.toBitVec.getLsbD i) = false := by
      rw [← BitVec.getLsbD_and, ← Int32.toBitVec_and, h]
      exact BitVec.getLsbD_zero
    rw [BitVec.getLsbD_zero]
    revert a b
    cases m.toBitVec.getLsbD i <;> cases k.toBitVec.getLsbD i <;> simp
  unfold nf_M
  omega
/-! ===== a byte read unsigned ===== -/
theorem bp_b (x : Int32) : x.toInt8.toInt32 &&& 255 = x &&& 255 := by
  apply Int32.toBitVec_inj.mp
  rw [Int32.toBitVec_and, Int32.toBitVec_and, Int8.toBitVec_toInt32, Int32.toBitVec_toInt8]
  apply BitVec.eq_of_getLsbD_eq
  intro i hi
  rw [BitVec.getLsbD_and, BitVec.getLsbD_and]
  have hm : ∀ i < 32, 8 ≤ i → (255 : Int32).toBitVec.getLsbD i = false := by decide
  rcases Nat.lt_or_ge i 8 with z | z
  · rw [BitVec.getLsbD_signExtend, BitVec.getLsbD_signExtend, if_pos z, if_pos hi]
    simp only [z, hi, decide_true, Bool.true_and]
  · rw [hm i hi z]; simp
/-! ===== the char cast and 65535 ===== -/
/-! ===== Int64 as a set of bits: test, set, clear ===== -/
theorem ts_nf {x : Bool} (h : ¬ x = false) : x = true := by cases x <;> first | rfl | exact absurd rfl h
theorem ts_nt {x : Bool} (h : ¬ x = true) : x = false := by cases x <;> first | rfl | exact absurd rfl h
theorem ts_bit {w : Int64} {s : UInt64} {j : Nat} (hj : j < 64) (hs : s.toNat = j) : ((w.toUInt64 >>> s).toInt64 &&& 1) = 0 ↔ w.toBitVec.getLsbD j = false := by
  have e : (w.toUInt64 >>> s).toInt64.toBitVec = w.toBitVec >>> j := by
    apply BitVec.eq_of_toNat_eq
    show (w.toUInt64 >>> s).toNat = _
    rw [UInt64.toNat_shiftRight, hs, Nat.mod_eq_of_lt hj, BitVec.toNat_ushiftRight]
    rfl
  rw [← Int64.toBitVec_inj, Int64.toBitVec_and, e]
  show w.toBitVec >>> j &&& 1#64 = 0#64 ↔ _
  constructor
  · intro h
    have t := congrArg (fun x => x.getLsbD 0) h
    simpa using t
  · intro h
    apply BitVec.eq_of_getLsbD_eq
    intro i hi
    cases i with
    | zero => simp [h]
    | succ i => simp
theorem ts_or {w m : Int64} {j : Nat} (hj : j < 64) (hm : m.toBitVec = BitVec.twoPow 64 j) : (w ||| m) = w ↔ w.toBitVec.getLsbD j = true := by
  rw [← Int64.toBitVec_inj, Int64.toBitVec_or, hm]
  constructor
  · intro h
    have t := congrArg (fun x => x.getLsbD j) h
    simp only [BitVec.getLsbD_or, BitVec.getLsbD_twoPow] at t
    simpa [hj] using t.symm
  · intro h
    apply BitVec.eq_of_getLsbD_eq
    intro i hi
    rw [BitVec.getLsbD_or, BitVec.getLsbD_twoPow]
    by_cases e : j = i
    · subst e; rw [h, Bool.true_or]
    · simp [e]
theorem ts_and {w m : Int64} {j : Nat} (hj : j < 64) (hm : m.toBitVec = BitVec.twoPow 64 j) : (w &&& (m ^^^ (-1))) = w ↔ w.toBitVec.getLsbD j = false := by
  have ha : (-1 : Int64).toBitVec = BitVec.allOnes 64 := by decide
  rw [← Int64.toBitVec_inj, Int64.toBitVec_and, Int64.toBitVec_xor, hm, ha]
  constructor
  · intro h
    have t := congrArg (fun x => x.getLsbD j) h
    simp only [BitVec.getLsbD_and, BitVec.getLsbD_xor, BitVec.getLsbD_twoPow, BitVec.getLsbD_allOnes] at t
    simpa [hj] using t.symm
  · intro h
    apply BitVec.eq_of_getLsbD_eq
    intro i hi
    rw [BitVec.getLsbD_and, BitVec.getLsbD_xor, BitVec.getLsbD_twoPow, BitVec.getLsbD_allOnes]
    by_cases e : j = i
    · subst e; rw [h, Bool.false_and]
    · simp [e, hi]
/-! ===== lN n to 2^64: shifts, and, or, masks, one bit ===== -/
theorem wb_tb (n : Nat) : (lN n).toBitVec = BitVec.ofNat 64 n := rfl
theorem wb_inj {a b : Int64} (h : a.toBitVec = b.toBitVec) : a = b := Int64.toBitVec_inj.mp h
theorem wb_tn {n : Nat} (h : n < 2 ^ 64) : (lN n).toBitVec.toNat = n := by rw [wb_tb, BitVec.toNat_ofNat, Nat.mod_eq_of_lt h]
theorem wb_of (x : Int64) : ∃ n, n < 2 ^ 64 ∧ x = lN n := ⟨x.toBitVec.toNat, x.toBitVec.isLt, wb_inj (by rw [wb_tb]; simp)⟩
theorem wb_of32 (x : Int32) : ∃ n, n < 2 ^ 32 ∧ x = nI n := ⟨x.toBitVec.toNat, x.toBitVec.isLt, Int32.toBitVec_inj.mp (by show _ = BitVec.ofNat 32 _; simp)⟩
theorem wb_c : ∀ k, k < 64 → ((nI k).toInt64 &&& 63) = lN k := by decide +kernel
theorem wb_cu : ∀ k, k < 64 → ((nI k).toInt64.toUInt64 &&& Int64.toUInt64 63) = UInt64.ofNat k := by decide +kernel
theorem wb_sm : ∀ k, k < 64 → (BitVec.ofNat 64 k).smod 64 = BitVec.ofNat 64 k := by decide +kernel
theorem wb_pw {a b : Nat} (h : a ≤ b) : 2 ^ b = 2 ^ a * 2 ^ (b - a) := by rw [← Nat.pow_add]; congr 1; omega
theorem wb_lt2 {a b : Nat} (h : a < b) : 2 ^ a < 2 ^ b := Nat.pow_lt_pow_right (by decide) h
theorem wb_mod (n : Nat) : lN n = lN (n % 2 ^ 64) := wb_inj (by rw [wb_tb, wb_tb]; apply BitVec.eq_of_toNat_eq; rw [BitVec.toNat_ofNat, BitVec.toNat_ofNat, Nat.mod_mod])
theorem wb_shr {n k : Nat} (hn : n < 2 ^ 64) (hk : k < 64) : ((lN n).toUInt64 >>> ((nI k).toInt64.toUInt64 &&& Int64.toUInt64 63)).toInt64 = lN (n / 2 ^ k) := by
  rw [wb_cu k hk]
  apply wb_inj
  apply BitVec.eq_of_toNat_eq
  show ((lN n).toUInt64 >>> UInt64.ofNat k).toNat = (BitVec.ofNat 64 _).toNat
  have h1 : (UInt64.ofNat k).toNat = k := by
    show (BitVec.ofNat 64 k).toNat = k
    rw [BitVec.toNat_ofNat, Nat.mod_eq_of_lt (by omega)]
  have h2 : (lN n).toUInt64.toNat = n := wb_tn hn
  rw [UInt64.toNat_shiftRight, h1, h2, Nat.mod_eq_of_lt hk, Nat.shiftRight_eq_div_pow, BitVec.toNat_ofNat, Nat.mod_eq_of_lt (Nat.lt_of_le_of_lt (Nat.div_le_self _ _) hn)]
theorem wb_shl (n : Nat) {k : Nat} (hk : k < 64) : lN n <<< ((nI k).toInt64 &&& 63) = lN (n * 2 ^ k) := by
  rw [wb_c k hk]
  apply wb_inj
  rw [Int64.toBitVec_shiftLeft, wb_tb, wb_tb, wb_tb, wb_sm k hk]
  apply BitVec.eq_of_toNat_eq
  rw [BitVec.shiftLeft_eq', BitVec.toNat_shiftLeft, BitVec.toNat_ofNat, BitVec.toNat_ofNat, BitVec.toNat_ofNat, Nat.mod_eq_of_lt (show k < 2 ^ 64 by omega), Nat.shiftLeft_eq, Nat.mul_mod, Nat.mod_mod, ← Nat.mul_mod]
theorem wb_and {a b : Nat} (ha : a < 2 ^ 64) (hb : b < 2 ^ 64) : lN a &&& lN b = lN (a &&& b) := by
  apply wb_inj
  rw [Int64.toBitVec_and, wb_tb, wb_tb, wb_tb]
  apply BitVec.eq_of_toNat_eq
  rw [BitVec.toNat_and, BitVec.toNat_ofNat, BitVec.toNat_ofNat, BitVec.toNat_ofNat, Nat.mod_eq_of_lt ha, Nat.mod_eq_of_lt hb, Nat.mod_eq_of_lt (Nat.and_lt_two_pow _ hb)]
theorem wb_or {a b : Nat} (ha : a < 2 ^ 64) (hb : b < 2 ^ 64) : lN a ||| lN b = lN (a ||| b) := by
  apply wb_inj
  rw [Int64.toBitVec_or, wb_tb, wb_tb, wb_tb]
  apply BitVec.eq_of_toNat_eq
  rw [BitVec.toNat_or, BitVec.toNat_ofNat, BitVec.toNat_ofNat, BitVec.toNat_ofNat, Nat.mod_eq_of_lt ha, Nat.mod_eq_of_lt hb, Nat.mod_eq_of_lt (Nat.or_lt_two_pow ha hb)]
theorem wb_mask {n k : Nat} (hn : n < 2 ^ 64) (hk : k < 64) : lN n &&& lN (2 ^ k - 1) = lN (n % 2 ^ k) := by
  rw [wb_and hn (by have := wb_lt2 hk; omega), Nat.and_two_pow_sub_one_eq_mod]
theorem wb_a1 {n : Nat} (hn : n < 2 ^ 64) : lN n &&& 1 = lN (n % 2) := wb_mask (k := 1) hn (by decide)
theorem wb_bit {n k : Nat} (hn : n < 2 ^ 64) (hk : k < 64) : ((lN n).toUInt64 >>> ((nI k).toInt64.toUInt64 &&& Int64.toUInt64 63)).toInt64 &&& 1 = lN (n / 2 ^ k % 2) := by
  rw [wb_shr hn hk, wb_a1 (Nat.lt_of_le_of_lt (Nat.div_le_self _ _) hn)]
theorem wb_xor {q k : Nat} (hk : k < 63) (h : 2 ^ k ≤ q) (h2 : q < 2 ^ (k + 1)) : lN q ^^^ lN (2 ^ k) = lN (q - 2 ^ k) := by
  obtain ⟨r, rfl⟩ : ∃ r, q = 2 ^ k + r := ⟨q - 2 ^ k, by omega⟩
  have hr : r < 2 ^ k := by rw [Nat.pow_succ] at h2; omega
  have hx : (2 ^ k + r) ^^^ 2 ^ k = r := by
    apply Nat.eq_of_testBit_eq
    intro i
    rw [Nat.testBit_xor, Nat.testBit_two_pow]
    rcases Nat.lt_trichotomy i k with h | h | h
    · rw [Nat.testBit_two_pow_add_gt h]
      simp [show ¬ k = i by omega]
    · subst h
      rw [Nat.testBit_two_pow_add_eq]
      simp
    · have a1 : 2 ^ (k + 1) ≤ 2 ^ i := Nat.pow_le_pow_right (by decide) h
      rw [Nat.testBit_lt_two_pow (show 2 ^ k + r < 2 ^ i by omega), Nat.testBit_lt_two_pow (show r < 2 ^ i by omega)]
      simp [show ¬ k = i by omega]
  have b1 := wb_lt2 (show k + 1 < 64 by omega)
  have b2 := wb_lt2 (show k < 64 by omega)
  apply wb_inj
  rw [Int64.toBitVec_xor, wb_tb, wb_tb, wb_tb]
  apply BitVec.eq_of_toNat_eq
  rw [BitVec.toNat_xor, BitVec.toNat_ofNat, BitVec.toNat_ofNat, BitVec.toNat_ofNat, Nat.mod_eq_of_lt (by omega : 2 ^ k + r < 2 ^ 64), Nat.mod_eq_of_lt b2, hx, Nat.add_sub_cancel_left, Nat.mod_eq_of_lt (by omega)]
/-! ===== lN: masks, 'or' of parts that don't overlap is a sum ===== -/
theorem u_tn {n : Nat} (h : n < 2 ^ 64) : (UInt64.ofNat n).toNat = n := Nat.mod_eq_of_lt h
theorem g_and {a b c : Nat} (ha : a < 2 ^ 64) (hb : b < 2 ^ 64) (hc : a &&& b = c) : lN a &&& lN b = lN c := by
  subst hc
  have h : UInt64.ofNat a &&& UInt64.ofNat b = UInt64.ofNat (a &&& b) := UInt64.toNat_inj.mp (by rw [UInt64.toNat_and, u_tn ha, u_tn hb, u_tn (Nat.and_lt_two_pow a hb)])
  have h2 := congrArg UInt64.toInt64 h
  exact h2
theorem g_and1 {a : Nat} (ha : a < 2 ^ 64) : lN a &&& 1 = lN (a % 2) := g_and (b := 1) ha (by decide) (Nat.and_two_pow_sub_one_eq_mod a 1)
theorem g_mask {a s p : Nat} (hp : 2 ^ s = p) (hs : s < 64) (ha : a < 2 ^ 64) : lN a &&& lN (p - 1) = lN (a % p) := by
  subst hp
  have := Nat.pow_lt_pow_right (show 1 < 2 by decide) hs
  exact g_and ha (by omega) (Nat.and_two_pow_sub_one_eq_mod a s)
theorem g_or {k p a b : Nat} (hp : 2 ^ k = p) (ha : a < p) (h : b * p + a < 2 ^ 64) : lN (b * p) ||| lN a = lN (b * p + a) := by
  subst hp
  have h1 : b * 2 ^ k ||| a = b * 2 ^ k + a := by rw [← Nat.shiftLeft_eq, Nat.shiftLeft_add_eq_or_of_lt ha]
  have h3 : UInt64.ofNat (b * 2 ^ k) ||| UInt64.ofNat a = UInt64.ofNat (b * 2 ^ k + a) := UInt64.toNat_inj.mp (by rw [UInt64.toNat_or, u_tn (by omega), u_tn (by omega), u_tn h, h1])
  have h2 := congrArg UInt64.toInt64 h3
  exact h2
theorem g_or' {k p a b : Nat} (hp : 2 ^ k = p) (ha : a < p) (h : a + b * p < 2 ^ 64) : lN a ||| lN (b * p) = lN (a + b * p) := by
  rw [Int64.or_comm, g_or hp ha (by omega), Nat.add_comm]
theorem g_ushr {a k p : Nat} {y : UInt64} (hy : y = UInt64.ofNat k) (hk : k < 64) (hp : 2 ^ k = p) (ha : a < 2 ^ 64) : ((lN a).toUInt64 >>> y).toInt64 = lN (a / p) := by
  subst hy hp
  have h : UInt64.ofNat a >>> UInt64.ofNat k = UInt64.ofNat (a / 2 ^ k) := UInt64.toNat_inj.mp (by rw [UInt64.toNat_shiftRight, u_tn ha, u_tn (by omega), u_tn (Nat.lt_of_le_of_lt (Nat.div_le_self _ _) ha), Nat.mod_eq_of_lt hk, Nat.shiftRight_eq_div_pow])
  have h2 := congrArg UInt64.toInt64 h
  exact h2
theorem g_shl {a k p : Nat} {y : Int64} (hy : y.toBitVec.smod 64 = BitVec.ofNat 64 k) (hk : k < 64) (hp : 2 ^ k = p) (ha : a < 2 ^ 64) : lN a <<< y = lN (a * p) := by
  subst hp
  apply Int64.toBitVec_inj.mp
  rw [Int64.toBitVec_shiftLeft, hy]
  apply BitVec.eq_of_toNat_eq
  have hb : (lN a).toBitVec.toNat = a := Nat.mod_eq_of_lt ha
  have hk' : (BitVec.ofNat 64 k).toNat = k := Nat.mod_eq_of_lt (by omega)
  have h : ((lN a).toBitVec <<< BitVec.ofNat 64 k).toNat = (a * 2 ^ k) % 2 ^ 64 := by simp only [BitVec.shiftLeft_eq', BitVec.toNat_shiftLeft, hb, hk', Nat.shiftLeft_eq]
  exact h
/-! ===== lN to 2^62 under >> and >>> ===== -/
theorem pf_lI {a : Nat} (h : a < 2 ^ 63) : (lN a).toInt = (a : Int) := lg_ofNat_toInt h
theorem pf_shr {a d : Nat} {D : Int64} (hD : (D.toBitVec.smod 64).toNat = d) (h : a < 2 ^ 62) : lN a >>> D = lN (a / 2 ^ d) := by
  have hd : a / 2 ^ d ≤ a := Nat.div_le_self _ _
  apply Int64.toInt_inj.mp
  have e : (lN a >>> D).toInt = (lN a).toInt >>> d := by
    rw [← hD]
    exact BitVec.toInt_sshiftRight ..
  rw [e, Int.shiftRight_eq_div_pow, pf_lI (by omega), pf_lI (by omega)]
  rfl
theorem pf_ushr {a d : Nat} {D : UInt64} (hD : D.toNat % 64 = d) (h : a < 2 ^ 62) : ((lN a).toUInt64 >>> D).toInt64 = lN (a / 2 ^ d) := by
  have hd : a / 2 ^ d ≤ a := Nat.div_le_self _ _
  have e : (lN a).toUInt64 >>> D = UInt64.ofNat (a / 2 ^ d) := UInt64.toNat_inj.mp (by
    rw [UInt64.toNat_shiftRight, hD, Nat.shiftRight_eq_div_pow, UInt64.toNat_ofNat']
    show (UInt64.ofNat a).toNat / 2 ^ d = _
    rw [UInt64.toNat_ofNat', Nat.mod_eq_of_lt (by omega), Nat.mod_eq_of_lt (by omega)])
  rw [e]
  rfl
theorem pf_andw (x : Int64) : ∃ m, m < 2 ^ 32 ∧ x &&& 4294967295 = lN m := ⟨x.toBitVec.toNat % 2 ^ 32, Nat.mod_lt _ (by decide), Int64.toBitVec_inj.mp (BitVec.eq_of_toNat_eq (by
  show (x.toBitVec &&& 4294967295#64).toNat = (BitVec.ofNat 64 (x.toBitVec.toNat % 2 ^ 32)).toNat
  rw [BitVec.toNat_and, show (4294967295#64).toNat = 2 ^ 32 - 1 from by decide, Nat.and_two_pow_sub_one_eq_mod, BitVec.toNat_ofNat]
  omega))⟩
/-! ===== Int64 as an unsigned number: uN x ===== -/
def uN (x : Int64) : Nat := x.toUInt64.toNat
theorem uN_lt (x : Int64) : uN x < 18446744073709551616 := x.toUInt64.toNat_lt
theorem uN_inj {x y : Int64} (h : uN x = uN y) : x = y := congrArg UInt64.toInt64 (UInt64.toNat_inj.mp h)
theorem uN_add (x y : Int64) : uN (x + y) = (uN x + uN y) % 18446744073709551616 := by
  show (x.toUInt64 + y.toUInt64).toNat = _
  exact UInt64.toNat_add _ _
theorem uN_mul (x y : Int64) : uN (x * y) = (uN x * uN y) % 18446744073709551616 := by
  show (x.toUInt64 * y.toUInt64).toNat = _
  exact UInt64.toNat_mul _ _
theorem uN_shl (x : Int64) : uN (x <<< ((1 : Int32).toInt64 &&& 63)) = (2 * uN x) % 18446744073709551616 := by
  have h : (((1 : Int32).toInt64 &&& 63).toBitVec.smod 64).toNat = 1 := by decide
  show (x.toBitVec <<< (((1 : Int32).toInt64 &&& 63).toBitVec.smod 64).toNat).toNat = _
  rw [h, BitVec.toNat_shiftLeft, Nat.shiftLeft_eq, Nat.mul_comm]
  rfl
theorem uN_shr (x : Int64) (s : UInt64) : uN (x.toUInt64 >>> s).toInt64 = uN x / 2 ^ (s.toNat % 64) := by
  show (x.toUInt64 >>> s).toNat = _
  rw [UInt64.toNat_shiftRight, Nat.shiftRight_eq_div_pow]
  rfl
theorem uN_s32 (x : Int64) : uN (x.toUInt64 >>> ((32 : Int32).toInt64.toUInt64 &&& Int64.toUInt64 63)).toInt64 = uN x / 4294967296 := by
  have h : ((32 : Int32).toInt64.toUInt64 &&& Int64.toUInt64 63).toNat % 64 = 32 := by decide
  rw [uN_shr, h]
theorem uN_s63 (x : Int64) : uN (x.toUInt64 >>> ((63 : Int32).toInt64.toUInt64 &&& Int64.toUInt64 63)).toInt64 = uN x / 9223372036854775808 := by
  have h : ((63 : Int32).toInt64.toUInt64 &&& Int64.toUInt64 63).toNat % 64 = 63 := by decide
  rw [uN_shr, h]
theorem uN_lo (x : Int64) : uN (x &&& 4294967295) = uN x % 4294967296 := by
  show (x.toUInt64 &&& Int64.toUInt64 4294967295).toNat = _
  rw [UInt64.toNat_and]
  exact Nat.and_two_pow_sub_one_eq_mod _ 32
theorem uN_bit (x : Int64) : (x &&& 1) = 0 ↔ uN x % 2 = 0 := by
  have h : uN (x &&& 1) = uN x % 2 := by
    show (x.toUInt64 &&& Int64.toUInt64 1).toNat = _
    rw [UInt64.toNat_and]
    exact Nat.and_two_pow_sub_one_eq_mod _ 1
  rw [← h]
  exact ⟨fun z => by rw [z]; rfl, fun z => uN_inj (z.trans rfl)⟩
theorem uN_or {x y : Int64} (hy : uN y < 2) : uN ((x <<< ((1 : Int32).toInt64 &&& 63)) ||| y) = (2 * uN x) % 18446744073709551616 + uN y := by
  have h1 : uN ((x <<< ((1 : Int32).toInt64 &&& 63)) ||| y) = uN (x <<< ((1 : Int32).toInt64 &&& 63)) ||| uN y := UInt64.toNat_or _ _
  have h2 : (2 * uN x) % 18446744073709551616 = 2 ^ 1 * (uN x % 9223372036854775808) := by omega
  rw [h1, uN_shl, h2]
  exact (Nat.two_pow_add_eq_or_of_lt (i := 1) hy _).symm
theorem nat_xor {a : Nat} (h : a < 18446744073709551616) : a ^^^ 2 ^ 63 = (a + 9223372036854775808) % 18446744073709551616 := by
  have h1 : (a ^^^ 2 ^ 63) % 2 ^ 63 = a % 2 ^ 63 := by rw [Nat.xor_mod_two_pow, Nat.mod_self, Nat.xor_zero]
  have h2 : (a ^^^ 2 ^ 63) / 2 ^ 63 = (a / 2 ^ 63) ^^^ 1 := by rw [Nat.xor_div_two_pow, Nat.div_self (Nat.two_pow_pos 63)]
  have h3 : a / 2 ^ 63 = 0 ∨ a / 2 ^ 63 = 1 := by omega
  generalize a ^^^ 2 ^ 63 = t at h1 h2
  rcases h3 with h3 | h3
  · rw [h3] at h2
    have h2 : t / 2 ^ 63 = 1 := h2
    omega
  · rw [h3] at h2
    have h2 : t / 2 ^ 63 = 0 := h2
    omega
theorem uN_xor (x : Int64) : uN (x ^^^ (-9223372036854775808)) = (uN x + 9223372036854775808) % 18446744073709551616 := by
  rw [← nat_xor (uN_lt x)]
  exact UInt64.toNat_xor _ _
theorem uN_int (x : Int64) : x.toInt = if 2 * uN x < 18446744073709551616 then (uN x : Int) else (uN x : Int) - 18446744073709551616 := BitVec.toInt_eq_toNat_cond _
theorem uN_le (x y : Int64) : (x ^^^ (-9223372036854775808)) ≤ (y ^^^ (-9223372036854775808)) ↔ uN x ≤ uN y := by
  have hx := uN_lt x
  have hy := uN_lt y
  rw [Int64.le_iff_toInt_le, uN_int, uN_int, uN_xor, uN_xor]
  omega
theorem uN_sk (x : Int64) {k : Nat} (hk : k < 64) : uN (x.toUInt64 >>> ((nI k).toInt64.toUInt64 &&& Int64.toUInt64 63)).toInt64 = uN x / 2 ^ k := by
  have h : ((nI k).toInt64.toUInt64 &&& Int64.toUInt64 63).toNat % 64 = k := by
    rw [nI_l (by omega), UInt64.toNat_and]
    have e : (lN k).toUInt64.toNat = k % 2 ^ 64 := rfl
    have e2 : (Int64.toUInt64 63).toNat = 2 ^ 6 - 1 := by decide
    rw [e, e2, Nat.and_two_pow_sub_one_eq_mod]
    omega
  rw [uN_shr, h]
/-! ===== unsigned comparison by xor with the least ===== -/
theorem lN_bv (n : Nat) : (lN n).toBitVec = BitVec.ofNat 64 n := rfl
theorem lN_nat {n : Nat} (h : n < 2 ^ 64) : (lN n).toBitVec.toNat = n := by rw [lN_bv, BitVec.toNat_ofNat]; exact Nat.mod_eq_of_lt h
theorem lN_xor (a b : Nat) : lN a ^^^ lN b = lN (a ^^^ b) := by
  apply Int64.toBitVec_inj.mp; rw [Int64.toBitVec_xor, lN_bv, lN_bv, lN_bv]; apply BitVec.eq_of_getLsbD_eq; intro i hi; simp [BitVec.getLsbD_ofNat, Nat.testBit_xor, hi]
theorem lN_ti {m : Nat} (h : m < 2 ^ 64) : (lN m).toInt = if m < 2 ^ 63 then (m : Int) else (m : Int) - 2 ^ 64 := by
  have c := BitVec.toInt_eq_toNat_cond (lN m).toBitVec
  rw [lN_nat h] at c
  show (lN m).toBitVec.toInt = _
  rw [c]
  split <;> split <;> omega
theorem xor63 {x : Nat} (h : x < 2 ^ 63) : x ^^^ 2 ^ 63 = 2 ^ 63 + x := by
  apply Nat.eq_of_testBit_eq
  intro i
  rw [Nat.testBit_xor, Nat.testBit_two_pow]
  rcases Nat.lt_trichotomy i 63 with z | z | z
  · rw [Nat.testBit_two_pow_add_gt z, decide_eq_false (by omega)]; simp
  · subst z; rw [Nat.testBit_two_pow_add_eq]; simp
  · have hp : 2 ^ 64 ≤ 2 ^ i := Nat.pow_le_pow_right (by decide) z
    rw [Nat.testBit_lt_two_pow (show x < 2 ^ i by omega), Nat.testBit_lt_two_pow (show 2 ^ 63 + x < 2 ^ i by omega), decide_eq_false (by omega)]; rfl
theorem xorS {a : Nat} (h : a < 2 ^ 64) : (lN a ^^^ (-9223372036854775808)).toInt = (a : Int) - 2 ^ 63 := by
  rw [show (-9223372036854775808 : Int64) = lN (2 ^ 63) from by decide +kernel, lN_xor]
  rcases Nat.lt_or_ge a (2 ^ 63) with z | z
  · rw [xor63 z, lN_ti (by omega), if_neg (by omega)]; omega
  · obtain ⟨x, rfl⟩ : ∃ x, a = 2 ^ 63 + x := ⟨a - 2 ^ 63, by omega⟩
    rw [← xor63 (by omega), Nat.xor_assoc, Nat.xor_self, Nat.xor_zero, lN_ti (by omega), if_pos (by omega), xor63 (by omega)]; omega
theorem ultL {a b : Nat} (ha : a < 2 ^ 64) (hb : b < 2 ^ 64) : ((lN b ^^^ (-9223372036854775808)) ≤ (lN a ^^^ (-9223372036854775808))) ↔ b ≤ a := by
  rw [Int64.le_iff_toInt_le, xorS ha, xorS hb]; omega
/-! ===== Int64 masks of n low bits ===== -/
theorem cr_bits (W U M : BitVec 64) : ((W &&& U) &&& (U &&& (M ^^^ BitVec.allOnes 64))) = 0#64 ↔ (W &&& U) &&& M = W &&& U := by
  constructor
  · intro h
    apply BitVec.eq_of_getLsbD_eq
    intro i hi
    have e := congrArg (fun x => BitVec.getLsbD x i) h
    simp only [BitVec.getLsbD_and, BitVec.getLsbD_xor, BitVec.getLsbD_allOnes, BitVec.getLsbD_zero, hi, decide_true] at e ⊢
    revert e
    cases W.getLsbD i <;> cases U.getLsbD i <;> cases M.getLsbD i <;> decide
  · intro h
    apply BitVec.eq_of_getLsbD_eq
    intro i hi
    have e := congrArg (fun x => BitVec.getLsbD x i) h
    simp only [BitVec.getLsbD_and, BitVec.getLsbD_xor, BitVec.getLsbD_allOnes, BitVec.getLsbD_zero, hi, decide_true] at e ⊢
    revert e
    cases W.getLsbD i <;> cases U.getLsbD i <;> cases M.getLsbD i <;> decide
theorem cr_mask (w U m : Int64) (n : Nat) (hm : m.toBitVec.toNat = 2 ^ n - 1) : ((w &&& U) &&& (U &&& (m ^^^ (-1)))) = 0 ↔ (w &&& U).toBitVec.toNat < 2 ^ n := by
  have e0 : (-1 : Int64).toBitVec = BitVec.allOnes 64 := by decide
  have z0 : (0 : Int64).toBitVec = 0#64 := by decide
  rw [← Int64.toBitVec_inj, z0, Int64.toBitVec_and, Int64.toBitVec_and, Int64.toBitVec_and, Int64.toBitVec_xor, e0, cr_bits]
  generalize w.toBitVec &&& U.toBitVec = T
  rw [← BitVec.toNat_inj, BitVec.toNat_and, hm, Nat.and_two_pow_sub_one_eq_mod]
  constructor
  · intro h
    have t := Nat.mod_lt T.toNat (Nat.two_pow_pos n)
    rw [h] at t
    exact t
  · exact Nat.mod_eq_of_lt
theorem cr_shr (t : Int64) (x : UInt64) (n : Nat) (hx : x.toNat % 64 = n) : (t.toUInt64 >>> x).toInt64 = 0 ↔ t.toBitVec.toNat < 2 ^ n := by
  rw [← Int64.toBitVec_inj, ← BitVec.toNat_inj]
  show (t.toUInt64 >>> x).toNat = 0 ↔ t.toUInt64.toNat < 2 ^ n
  rw [UInt64.toNat_shiftRight, hx, Nat.shiftRight_eq_div_pow]
  constructor
  · intro h
    have d : t.toUInt64.toNat / 2 ^ n < 1 := by
      rw [h]
      decide
    have e := (Nat.div_lt_iff_lt_mul (Nat.two_pow_pos n)).mp d
    rw [Nat.one_mul] at e
    exact e
  · exact Nat.div_eq_of_lt
theorem cr_amt (s : Int64) : ∃ n, n < 64 ∧ s &&& 63 = lN n ∧ (s.toUInt64 &&& Int64.toUInt64 63).toNat % 64 = n := by
  have e : (s.toUInt64 &&& Int64.toUInt64 63).toNat = s.toUInt64.toNat % 2 ^ 6 := by
    rw [UInt64.toNat_and, show (Int64.toUInt64 63).toNat = 2 ^ 6 - 1 from by decide, Nat.and_two_pow_sub_one_eq_mod]
  refine ⟨s.toUInt64.toNat % 2 ^ 6, by omega, ?_, by omega⟩
  rw [← Int64.toBitVec_inj, ← BitVec.toNat_inj]
  show (s.toUInt64 &&& Int64.toUInt64 63).toNat = (BitVec.ofNat 64 (s.toUInt64.toNat % 2 ^ 6)).toNat
  rw [e, BitVec.toNat_ofNat]
  omega
end
section
/-! The two forms of contract that every method here has (read: the heap stays; write: the cells of W0 come to hold W1), their start, their end, and their calls: a call is one row. -/
/-- what the tables say of nest mates (it isn't among the words that a contract may carry): it goes with the world -/
def xn_ws : List Cond := [.methodLinkNest RX4 11 yX2_init "PointerSweep", .methodLinkNest RX2 24 yX0_init "PointerSweep", .methodLinkNest RX1 24 yX2_init "PointerSweep", .methodLinkNest RX0 15 yX4_isCell "PointerSweep", .methodLinkNest RX2 87 yX4_oneIf "PointerSweep"]
def xn (U : State) : Prop := (∀ w ∈ xn_ws, va_Nw w U) ∧ va_AO RX2 U
theorem xn_form : ∀ w ∈ xn_ws, ∃ (a : String) (i : Nat) (x : MethodName) (h : String), w = .methodLinkNest a i x h := by
  intro w hw
  simp only [xn_ws, List.mem_cons, List.not_mem_nil, or_false] at hw
  rcases hw with rfl | rfl | rfl | rfl | rfl <;> exact ⟨_, _, _, _, rfl⟩
theorem xn.warm {s U : State} (hW : s.WarmedH U.vm) (h : xn s) : xn U := ⟨fun w hw => by
  have h1 := h.1 w hw
  obtain ⟨a, i, x, k, rfl⟩ := xn_form w hw
  exact va_Nw.warmM hW h1, h.2.moved hW.alike⟩
theorem xn.same {s U : State} (hv : s.vm = U.vm) (h : xn s) : xn U := ⟨fun w hw => by
  have h1 := h.1 w hw
  obtain ⟨a, i, x, k, rfl⟩ := xn_form w hw
  exact va_Nw.same rfl hv h1, h.2.moved (by rw [hv]; exact Vm.Alike.refl U.vm)⟩
section XK
variable {p : Program} {l : Launch} {e : Env} {R : Room} {s : State} {m : MethodId} {args : Array Value} {below : List Frame} {meth : Method} {c : Code} {H : Heap} {locs : List Loc} {cells slots : Nat} {Q : State → Prop}
variable {pc : Nat} {ls : Array Slot} {rest st0 : List Value} {D : va_G} {cl : List vw_C} {A : Nat → Prop} {tys : List (ClassId × FieldType)} {H0 : Heap} {a : Array Value}
def xk_in (ws : va_W) : Nat → Prop := fun q => q ∈ ws.map (fun x => x.1)
def xk_R (rv : Option Value) : Array Value → State → Outcome → State → Prop := fun _ st oc t => oc = .returned rv ∧ t.heap = st.heap
def xk_W (D : va_G) (cl : List vw_C) (W0 W1 : va_W) (rv : Option Value) : Array Value → State → Outcome → State → Prop := fun _ st oc t => oc = .returned rv ∧ va_P D cl W1 t.heap ∧ va_F (xk_in W0) st t
def xk_Br (D : va_G) (cl : List vw_C) (tys : List (ClassId × FieldType)) (ws : va_W) : State → Prop := fun U => va_P D cl ws U.heap ∧ va_K D cl tys U ∧ xn U
def xk_Bw (D : va_G) (cl : List vw_C) (tys : List (ClassId × FieldType)) (ws : va_W) : State → Prop := fun U => va_P D cl ws U.heap ∧ va_K D cl tys U ∧ xn U ∧ va_D (fun _ => True) ws
abbrev xk_Rd (l : Launch) (y : MethodName) (ws : List Cond) (rm : Room) (D : va_G) (cl : List vw_C) (tys : List (ClassId × FieldType)) (W0 : va_W) (av : List Value) (rv : Option Value) : Prop := Met l y ws rm (va_Pc av (xk_Br D cl tys W0)) (xk_R rv) 0 0 (fun _ => False)
abbrev xk_Wr (l : Launch) (y : MethodName) (ws : List Cond) (rm : Room) (D : va_G) (cl : List vw_C) (tys : List (ClassId × FieldType)) (W0 : va_W) (av : List Value) (W1 : va_W) (rv : Option Value) : Prop := Met l y ws rm (va_Pc av (xk_Bw D cl tys W0)) (xk_W D cl W0 W1 rv) 0 0 (xk_in W0)
theorem xk_blr {av : List Value} {W0 : va_W} : FrameBlind (va_Pc av (xk_Br D cl tys W0)) := fun a U g mk q => by
  obtain ⟨q0, qP, qK, qN⟩ := q
  exact ⟨q0, qP, va_K.moved (u := U) (U := U.calling g mk a) (Vm.Alike.refl U.vm) qK, qN.same (s := U) (U := U.calling g mk a) rfl⟩
theorem xk_blw {av : List Value} {W0 : va_W} : FrameBlind (va_Pc av (xk_Bw D cl tys W0)) := fun a U g mk q => by
  obtain ⟨q0, qP, qK, qN, qD⟩ := q
  exact ⟨q0, qP, va_K.moved (u := U) (U := U.calling g mk a) (Vm.Alike.refl U.vm) qK, qN.same (s := U) (U := U.calling g mk a) rfl, qD⟩
theorem xk_self {W0 : va_W} {B : Nat → Prop} (h : va_D B W0) : va_D (xk_in W0) W0 := ⟨h.1, fun _ q hk => List.mem_map.mpr ⟨q, List.mem_of_getElem? hk, rfl⟩⟩
theorem xk_Pmem {ws ws' : va_W} (hP : va_P D cl ws H) (h : ∀ q ∈ ws', q ∈ ws) : va_P D cl ws' H := fun k q hk => by
  obtain ⟨i, hi⟩ := List.getElem?_of_mem (h q (List.mem_of_getElem? hk))
  exact hP i q hi
theorem xk_Pat {ws : va_W} (hP : va_P D cl ws H) {q : Nat × va_E} (h : q ∈ ws) : va_at D cl q H := by
  obtain ⟨i, hi⟩ := List.getElem?_of_mem h
  exact hP i q hi
theorem xk_Dfst {ws ws' : va_W} (h : ws'.map (fun x => x.1) = ws.map (fun x => x.1)) (hD : va_D A ws) : va_D A ws' := by
  have key : ∀ (i : Nat) (q : Nat × va_E), ws'[i]? = some q → ∃ q2, ws[i]? = some q2 ∧ q2.1 = q.1 := by
    intro i q hq
    have h1 : (ws.map (fun x => x.1))[i]? = some q.1 := by rw [← h, List.getElem?_map, hq]; rfl
    rw [List.getElem?_map] at h1
    cases hw : ws[i]? with
    | none => rw [hw] at h1; cases h1
    | some q2 => rw [hw] at h1; exact ⟨q2, rfl, Option.some.inj h1⟩
  refine ⟨fun i j x y hx hy hxy => ?_, fun k q hk => ?_⟩
  · obtain ⟨x2, a1, a2⟩ := key i x hx
    obtain ⟨y2, b1, b2⟩ := key j y hy
    exact hD.1 i j x2 y2 a1 b1 (by rw [a2, b2, hxy])
  · obtain ⟨q2, a1, a2⟩ := key k q hk
    rw [← a2]
    exact hD.2 k q2 a1
/-- a read's call -/
theorem xk_callR {rv : Value} (hr : va_Run p l e R s m args below meth c H locs cells slots 0 0 (F0 m pc ls st0) rest (xk_R (some rv) a) (fun _ => False))
    (kk : W p l e R s m args below meth c H locs cells slots Q (F0 m (pc + 3) ls (rv :: rest))) : W p l e R s m args below meth c H locs cells slots Q (F0 m pc ls st0) := by
  intro T hT X
  obtain ⟨v, st₀, t, T', L, h0, X', hL, e1, e2, ⟨hv, hh⟩, st⟩ := hr T hT X
  cases hv
  obtain ⟨t2, a1, b1⟩ := kk T' (by rw [e1, hh, h0]) (Stand.forget X' (fun q h => (hL q h).elim))
  exact ⟨t2, st t2 a1, b1⟩
/-- a write's call, by membership -/
theorem xk_callC {rv : Option Value} {W0 W1 ws ws' : va_W} (hr : va_Run p l e R s m args below meth c H locs cells slots 0 0 (F0 m pc ls st0) rest (xk_W D cl W0 W1 rv a) (xk_in W0))
    (hP : va_P D cl ws H) (hD : va_D A ws) (hS : va_S A H0 H locs) (hsub : ∀ q ∈ W0, q ∈ ws) (hnew : ∀ x ∈ ws', x ∈ W1 ∨ (x ∈ ws ∧ ¬ xk_in W0 x.1)) (hfst : ws'.map (fun x => x.1) = ws.map (fun x => x.1))
    (kk : ∀ (H1 : Heap) (locs1 : List Loc), va_P D cl ws' H1 → va_D A ws' → va_S A H0 H1 locs1 → W p l e R s m args below meth c H1 locs1 cells slots Q (F0 m (pc + 3) ls (rv.toList ++ rest))) : W p l e R s m args below meth c H locs cells slots Q (F0 m pc ls st0) := by
  intro T hT X
  obtain ⟨v, st₀, t, T', L, h0, X', hL, e1, e2, ⟨hv, hP1, hz, hk⟩, st⟩ := hr T hT X
  cases hv
  rw [h0] at hz hk
  have hA : ∀ q, xk_in W0 q → A q := by
    intro q hq
    obtain ⟨x, hx, rfl⟩ := List.mem_map.mp hq
    obtain ⟨i, hi⟩ := List.getElem?_of_mem (hsub x hx)
    exact hD.2 i x hi
  have hP2 : va_P D cl ws' t.heap := by
    intro k q hkq
    rcases hnew q (List.mem_of_getElem? hkq) with h | ⟨h1, h2⟩
    · exact xk_Pat hP1 h
    · have h3 := xk_Pat hP h1
      exact h3.kept (hk q.1 h3.lt h2)
  obtain ⟨t2, a1, b1⟩ := kk T'.heap (locs ++ L) (by rw [e1]; exact hP2) (xk_Dfst hfst hD)
    ⟨Nat.le_trans hS.1 (by rw [e1]; exact hz), fun q h1 h2 => by rw [e1, hk q (Nat.lt_of_lt_of_le h1 hS.1) (fun z => h2 (hA q z))]; exact hS.2.1 q h1 h2, fun q hq => by
      rcases List.mem_append.mp hq with h | h
      · exact hS.2.2 q h
      · exact hA _ (hL q h)⟩ T' rfl X'
  exact ⟨t2, st t2 a1, b1⟩
def xk_set : va_W → List Nat → va_W → va_W
  | ws, i :: is, x :: es => xk_set (ws.set i x) is es
  | ws, _, _ => ws
theorem xk_set_mem : ∀ (is : List Nat) (es ws : va_W), is.length = es.length → ∀ (k : Nat) (x : Nat × va_E), (xk_set ws is es)[k]? = some x → x ∈ es ∨ (ws[k]? = some x ∧ k ∉ is)
  | [], [], ws, _, k, x, h => Or.inr ⟨h, List.not_mem_nil⟩
  | [], _ :: _, ws, hl, _, _, _ => by cases hl
  | _ :: _, [], ws, hl, _, _, _ => by cases hl
  | i :: is, y :: es, ws, hl, k, x, h => by
    rcases xk_set_mem is es (ws.set i y) (Nat.succ.inj hl) k x h with h1 | ⟨h1, h2⟩
    · exact Or.inl (List.mem_cons_of_mem _ h1)
    · by_cases hik : i = k
      · subst hik
        rw [List.getElem?_set] at h1
        split at h1
        · split at h1
          · exact Or.inl (by rw [← Option.some.inj h1]; exact List.mem_cons_self)
          · cases h1
        · exact absurd rfl (by assumption)
      · rw [List.getElem?_set_ne hik] at h1
        exact Or.inr ⟨h1, fun hm => by
          rcases List.mem_cons.mp hm with h3 | h3
          · exact hik h3.symm
          · exact h2 h3⟩
theorem xk_set_fst : ∀ (is : List Nat) (es ws : va_W), (∀ (j : Nat) (i : Nat) (x : Nat × va_E), is[j]? = some i → es[j]? = some x → (ws.map (fun x => x.1))[i]? = some x.1) → (xk_set ws is es).map (fun x => x.1) = ws.map (fun x => x.1)
  | [], _, _, _ => by simp [xk_set]
  | _ :: _, [], _, _ => by simp [xk_set]
  | i :: is, y :: es, ws, h => by
    have e1 : (ws.set i y).map (fun x => x.1) = ws.map (fun x => x.1) := by
      have h0 := h 0 i y rfl rfl
      rw [List.map_set]
      apply List.ext_getElem?
      intro k
      by_cases hik : i = k
      · subst hik
        rw [h0, List.getElem?_set_self (by exact (List.getElem?_eq_some_iff.mp h0).1)]
      · rw [List.getElem?_set_ne hik]
    show (xk_set (ws.set i y) is es).map (fun x => x.1) = _
    rw [xk_set_fst is es (ws.set i y) (fun j i' x a1 a2 => by rw [e1]; exact h (j + 1) i' x a1 a2), e1]
theorem xk_places {ws W0 : va_W} {is : List Nat} (hi : is.map (fun i => ws[i]?) = W0.map some) : is.length = W0.length ∧ ∀ (j i : Nat), is[j]? = some i → ∃ q, W0[j]? = some q ∧ ws[i]? = some q := by
  refine ⟨by have h := congrArg List.length hi; simpa using h, fun j i h => ?_⟩
  have h1 : (W0.map some)[j]? = some (ws[i]?) := by rw [← hi, List.getElem?_map, h]; rfl
  rw [List.getElem?_map] at h1
  cases hw : W0[j]? with
  | none => rw [hw] at h1; cases h1
  | some q => rw [hw] at h1; exact ⟨q, rfl, (Option.some.inj h1).symm⟩
theorem xk_apart {ws W0 : va_W} {is : List Nat} (hD : va_D A ws) (hi : is.map (fun i => ws[i]?) = W0.map some) {k : Nat} {x : Nat × va_E} (hx : ws[k]? = some x) (hk : k ∉ is) : ¬ xk_in W0 x.1 := by
  intro h
  obtain ⟨q, hq, hqx⟩ := List.mem_map.mp h
  obtain ⟨j, hj⟩ := List.getElem?_of_mem hq
  have hl := (xk_places hi).1
  have hjl : j < is.length := by rw [hl]; exact (List.getElem?_eq_some_iff.mp hj).1
  obtain ⟨q2, h1, h2⟩ := (xk_places hi).2 j is[j] (List.getElem?_eq_getElem hjl)
  rw [hj] at h1
  cases h1
  have := hD.1 k is[j] x q hx h2 hqx.symm
  exact hk (by rw [this]; exact List.getElem_mem hjl)
theorem xk_sub {ws W0 : va_W} {is : List Nat} (hi : is.map (fun i => ws[i]?) = W0.map some) : ∀ q ∈ W0, q ∈ ws := by
  intro q hq
  obtain ⟨j, hj⟩ := List.getElem?_of_mem hq
  have hl := (xk_places hi).1
  have hjl : j < is.length := by rw [hl]; exact (List.getElem?_eq_some_iff.mp hj).1
  obtain ⟨q2, h1, h2⟩ := (xk_places hi).2 j is[j] (List.getElem?_eq_getElem hjl)
  rw [hj] at h1
  cases h1
  exact List.mem_of_getElem? h2
/-- a write's call: the callee's cells stand at the places is of the caller's world -/
theorem xk_callW {rv : Option Value} {W0 W1 ws ws' : va_W} (hr : va_Run p l e R s m args below meth c H locs cells slots 0 0 (F0 m pc ls st0) rest (xk_W D cl W0 W1 rv a) (xk_in W0))
    (hP : va_P D cl ws H) (hD : va_D A ws) (hS : va_S A H0 H locs) (is : List Nat) (hi : is.map (fun i => ws[i]?) = W0.map some) (ha : W1.map (fun x => x.1) = W0.map (fun x => x.1)) (hs : xk_set ws is W1 = ws')
    (kk : ∀ (H1 : Heap) (locs1 : List Loc), va_P D cl ws' H1 → va_D A ws' → va_S A H0 H1 locs1 → W p l e R s m args below meth c H1 locs1 cells slots Q (F0 m (pc + 3) ls (rv.toList ++ rest))) : W p l e R s m args below meth c H locs cells slots Q (F0 m pc ls st0) := by
  have hl := (xk_places hi).1
  have hl1 : is.length = W1.length := by rw [hl]; have h := congrArg List.length ha; simpa using h.symm
  refine xk_callC hr hP hD hS (xk_sub hi) (fun x hx => ?_) ?_ kk
  · subst hs
    obtain ⟨k, hk⟩ := List.getElem?_of_mem hx
    rcases xk_set_mem is W1 ws hl1 k x hk with h | ⟨h1, h2⟩
    · exact Or.inl h
    · exact Or.inr ⟨List.mem_of_getElem? h1, xk_apart hD hi h1 h2⟩
  · subst hs
    refine xk_set_fst is W1 ws (fun j i x h1 h2 => ?_)
    obtain ⟨q, h3, h4⟩ := (xk_places hi).2 j i h1
    have h5 : (W1.map (fun x => x.1))[j]? = (W0.map (fun x => x.1))[j]? := by rw [ha]
    rw [List.getElem?_map, List.getElem?_map, h2, h3] at h5
    rw [List.getElem?_map, h4]
    exact h5.symm
/-- the same, where the callee's world is some places of X and all of the tail -/
theorem xk_callT {rv : Option Value} {cx cx1 pl pl1 X X' : va_W} (hr : va_Run p l e R s m args below meth c H locs cells slots 0 0 (F0 m pc ls st0) rest (xk_W D cl (cx ++ pl) (cx1 ++ pl1) rv a) (xk_in (cx ++ pl)))
    (hP : va_P D cl (X ++ pl) H) (hD : va_D A (X ++ pl)) (hS : va_S A H0 H locs) (is : List Nat) (hi : is.map (fun i => X[i]?) = cx.map some) (ha : cx1.map (fun x => x.1) = cx.map (fun x => x.1)) (hp : pl1.map (fun x => x.1) = pl.map (fun x => x.1)) (hs : xk_set X is cx1 = X')
    (kk : ∀ (H1 : Heap) (locs1 : List Loc), va_P D cl (X' ++ pl1) H1 → va_D A (X' ++ pl1) → va_S A H0 H1 locs1 → W p l e R s m args below meth c H1 locs1 cells slots Q (F0 m (pc + 3) ls (rv.toList ++ rest))) : W p l e R s m args below meth c H locs cells slots Q (F0 m pc ls st0) := by
  have hl := (xk_places hi).1
  have hl1 : is.length = cx1.length := by rw [hl]; have h := congrArg List.length ha; simpa using h.symm
  have hDX : va_D A X := ⟨fun i j x y hx hy => hD.1 i j x y (by rw [List.getElem?_append_left (List.getElem?_eq_some_iff.mp hx).1]; exact hx) (by rw [List.getElem?_append_left (List.getElem?_eq_some_iff.mp hy).1]; exact hy), fun k q hk => hD.2 k q (by rw [List.getElem?_append_left (List.getElem?_eq_some_iff.mp hk).1]; exact hk)⟩
  have hXp : ∀ x ∈ X, ¬ xk_in pl x.1 := by
    intro x hx h
    obtain ⟨q, hq, hqx⟩ := List.mem_map.mp h
    obtain ⟨i, hi1⟩ := List.getElem?_of_mem hx
    obtain ⟨j, hj1⟩ := List.getElem?_of_mem hq
    have hil := (List.getElem?_eq_some_iff.mp hi1).1
    have := hD.1 i (X.length + j) x q (by rw [List.getElem?_append_left hil]; exact hi1) (by rw [List.getElem?_append_right (Nat.le_add_right _ _), Nat.add_sub_cancel_left]; exact hj1) hqx.symm
    omega
  refine xk_callC hr hP hD hS (fun q hq => ?_) (fun x hx => ?_) ?_ kk
  · rcases List.mem_append.mp hq with h | h
    · exact List.mem_append_left _ (xk_sub hi q h)
    · exact List.mem_append_right _ h
  · subst hs
    rcases List.mem_append.mp hx with hx | hx
    · obtain ⟨k, hk⟩ := List.getElem?_of_mem hx
      rcases xk_set_mem is cx1 X hl1 k x hk with h | ⟨h1, h2⟩
      · exact Or.inl (List.mem_append_left _ h)
      · refine Or.inr ⟨List.mem_append_left _ (List.mem_of_getElem? h1), fun hz => ?_⟩
        obtain ⟨q, hq, hqx⟩ := List.mem_map.mp hz
        rcases List.mem_append.mp hq with h | h
        · exact xk_apart hDX hi h1 h2 (List.mem_map.mpr ⟨q, h, hqx⟩)
        · exact hXp x (List.mem_of_getElem? h1) (List.mem_map.mpr ⟨q, h, hqx⟩)
    · exact Or.inl (List.mem_append_right _ hx)
  · subst hs
    rw [List.map_append, List.map_append, hp]
    congr 1
    refine xk_set_fst is cx1 X (fun j i x h1 h2 => ?_)
    obtain ⟨q, h3, h4⟩ := (xk_places hi).2 j i h1
    have h5 : (cx1.map (fun x => x.1))[j]? = (cx.map (fun x => x.1))[j]? := by rw [ha]
    rw [List.getElem?_map, List.getElem?_map, h2, h3] at h5
    rw [List.getElem?_map, h4]
    exact h5.symm
/-- what a call asks of the caller's world -/
theorem xk_preSr {As : List Value} {W0 ws : va_W} (hK : va_K D cl tys s) (hN : xn s) (hP : va_P D cl ws H) (is : List Nat) (hs : is.filterMap (fun i => ws[i]?) = W0) : PreS s H (va_Pc As (xk_Br D cl tys W0)) As := ⟨xk_blr, fun U hU hW => ⟨rfl, by rw [hU]; exact hP.sub is hs, va_K.moved hW.alike hK, hN.warm hW⟩⟩
theorem xk_preVr {As : List Value} {b : Addr} {W0 ws : va_W} {ci : Nat} {q : vw_C} {fs : List Value} (hK : va_K D cl tys s) (hN : xn s) (hP : va_P D cl ws H) (is : List Nat) (hs : is.filterMap (fun i => ws[i]?) = W0) (hc : cl[ci]? = some q) (q0 : Nat) (he : W0[q0]? = some (b, .inr (ci, fs))) : PreV s H q.1 b (va_Pc (.ref b :: As) (xk_Br D cl tys W0)) As := ⟨xk_blr, va_recv hK (hP.sub is hs) hc he, fun U hU hW => ⟨rfl, by rw [hU]; exact hP.sub is hs, va_K.moved hW.alike hK, hN.warm hW⟩⟩
theorem xk_preSw {As : List Value} {W0 ws : va_W} (hK : va_K D cl tys s) (hN : xn s) (hP : va_P D cl ws H) (hD : va_D A ws) (is : List Nat) (hn : va_nd is = true) (hi : is.map (fun i => ws[i]?) = W0.map some) : PreS s H (va_Pc As (xk_Bw D cl tys W0)) As := ⟨xk_blw, fun U hU hW => ⟨rfl, by rw [hU]; exact xk_Pmem hP (xk_sub hi), va_K.moved hW.alike hK, hN.warm hW, (hD.sub is hn hi).weaken (fun _ _ _ _ => trivial)⟩⟩
theorem xk_preVw {As : List Value} {b : Addr} {W0 ws : va_W} {ci : Nat} {q : vw_C} {fs : List Value} (hK : va_K D cl tys s) (hN : xn s) (hP : va_P D cl ws H) (hD : va_D A ws) (is : List Nat) (hn : va_nd is = true) (hi : is.map (fun i => ws[i]?) = W0.map some) (hc : cl[ci]? = some q) (q0 : Nat) (he : W0[q0]? = some (b, .inr (ci, fs))) : PreV s H q.1 b (va_Pc (.ref b :: As) (xk_Bw D cl tys W0)) As := ⟨xk_blw, va_recv hK (xk_Pmem hP (xk_sub hi)) hc he, fun U hU hW => ⟨rfl, by rw [hU]; exact xk_Pmem hP (xk_sub hi), va_K.moved hW.alike hK, hN.warm hW, (hD.sub is hn hi).weaken (fun _ _ _ _ => trivial)⟩⟩
theorem xk_preVt {As : List Value} {b : Addr} {cx pl X : va_W} {ci : Nat} {q : vw_C} {fs : List Value} (hK : va_K D cl tys s) (hN : xn s) (hP : va_P D cl (X ++ pl) H) (hD : va_D A (X ++ pl)) (is : List Nat) (hn : va_nd is = true) (hi : is.map (fun i => X[i]?) = cx.map some) (hc : cl[ci]? = some q) (q0 : Nat) (he : (cx ++ pl)[q0]? = some (b, .inr (ci, fs))) : PreV s H q.1 b (va_Pc (.ref b :: As) (xk_Bw D cl tys (cx ++ pl))) As := by
  have hP2 : va_P D cl (cx ++ pl) H := hP.part is hi
  exact ⟨xk_blw, va_recv hK hP2 hc he, fun U hU hW => ⟨rfl, by rw [hU]; exact hP2, va_K.moved hW.alike hK, hN.warm hW, (hD.part is hn hi).weaken (fun _ _ _ _ => trivial)⟩⟩
/-- a method's start -/
theorem xk_rd {y : MethodName} {ws ws' : List Cond} {rm : Room} {cc : ByteArray} {maxL : Nat} {ret : Option FieldType} {W0 : va_W} {av : List Value} {rv : Option Value} (hy : plainName y.cls = true) (hw : ws = Cond.code y cc maxL ret :: ws') (hlen : (lg_sl av).length ≤ maxL)
    (body : ∀ (p : Program) (e : Env) (s : State) (m : MethodId) (below : List Frame) (meth : Method) (c : Code) (ls : Array Slot), p.tables.exec = Jvm.exec → c.code = cc → meth.sig.returnType = ret → meth.locks = false → c.maxLocals = maxL → s.vm.findClass y.cls = some m.cls → (∀ w ∈ ws, w.before av.toArray s = true) → lv_has ls maxL (lv_args 0 av) → va_P D cl W0 s.heap → va_K D cl tys s → xn s →
      W p l e rm s m av.toArray below meth c s.heap [] 0 0 (MQ below (xk_R rv) av.toArray s 0 0 (fun _ => False)) (F0 m 0 ls [])) : xk_Rd l y ws rm D cl tys W0 av rv := by
  refine Met.ofW (cc := cc) (maxL := maxL) (ret := ret) hy hw ?_
  intro p e s m args below meth c s₁ B hml hv
  obtain ⟨rfl, hP, hK, hN⟩ := hv
  have hts := atoms_spec (ws := ws) B.pre
  have hown : s.vm.findClass y.cls = some m.cls := findClass_of_methodNamed B.named
  have hl := lv_entry av (n := maxL) hlen
  rw [lg_entry_eq]
  generalize (lg_sl av ++ List.replicate (maxL - (lg_sl av).length) Slot.unset).toArray = ls at hl ⊢
  exact body p e s m below meth c ls B.exec B.bytes B.returns B.notSynchronized hml hown hts hl hP hK hN
theorem xk_wr {y : MethodName} {ws ws' : List Cond} {rm : Room} {cc : ByteArray} {maxL : Nat} {ret : Option FieldType} {W0 W1 : va_W} {av : List Value} {rv : Option Value} (hy : plainName y.cls = true) (hw : ws = Cond.code y cc maxL ret :: ws') (hlen : (lg_sl av).length ≤ maxL)
    (body : ∀ (p : Program) (e : Env) (s : State) (m : MethodId) (below : List Frame) (meth : Method) (c : Code) (ls : Array Slot), p.tables.exec = Jvm.exec → c.code = cc → meth.sig.returnType = ret → meth.locks = false → c.maxLocals = maxL → s.vm.findClass y.cls = some m.cls → (∀ w ∈ ws, w.before av.toArray s = true) → lv_has ls maxL (lv_args 0 av) → va_P D cl W0 s.heap → va_K D cl tys s → xn s → va_D (xk_in W0) W0 → va_S (xk_in W0) s.heap s.heap [] →
      W p l e rm s m av.toArray below meth c s.heap [] 0 0 (MQ below (xk_W D cl W0 W1 rv) av.toArray s 0 0 (xk_in W0)) (F0 m 0 ls [])) : xk_Wr l y ws rm D cl tys W0 av W1 rv := by
  refine Met.ofW (cc := cc) (maxL := maxL) (ret := ret) hy hw ?_
  intro p e s m args below meth c s₁ B hml hv
  obtain ⟨rfl, hP, hK, hN, hD⟩ := hv
  have hts := atoms_spec (ws := ws) B.pre
  have hown : s.vm.findClass y.cls = some m.cls := findClass_of_methodNamed B.named
  have hl := lv_entry av (n := maxL) hlen
  rw [lg_entry_eq]
  generalize (lg_sl av ++ List.replicate (maxL - (lg_sl av).length) Slot.unset).toArray = ls at hl ⊢
  exact body p e s m below meth c ls B.exec B.bytes B.returns B.notSynchronized hml hown hts hl hP hK hN (xk_self hD) va_S.rf
/-- a method's end -/
theorem xk_iretR {cc : ByteArray} {v v0 : Int32} (hx : p.tables.exec = Jvm.exec) (hb : c.code = cc) (hr : meth.sig.returnType = some .int) (hlk : meth.locks = false) (hv : v = v0) (hd : decode cc pc = .ok (.ireturn, 1)) : W p l e R s m args below meth c s.heap [] 0 0 (MQ below (xk_R (some (.int v0))) args s 0 0 (fun _ => False)) (F0 m pc ls [.int v]) := by
  subst hv
  exact W.iret hx hb hr (fun t ht hW => ⟨rfl, ht⟩) (fun q h => by cases h) hd hlk
theorem xk_zretR {cc : ByteArray} {v v0 : Int32} (hx : p.tables.exec = Jvm.exec) (hb : c.code = cc) (hr : meth.sig.returnType = some .boolean) (hlk : meth.locks = false) (hn : narrow .boolean (.int v) = .int v) (hv : v = v0) (hd : decode cc pc = .ok (.ireturn, 1)) : W p l e R s m args below meth c s.heap [] 0 0 (MQ below (xk_R (some (.int v0))) args s 0 0 (fun _ => False)) (F0 m pc ls [.int v]) := by
  subst hv
  exact W.zret hx hb hr hn (fun t ht hW => ⟨rfl, ht⟩) (fun q h => by cases h) hd hlk
theorem xk_lretR {cc : ByteArray} {v v0 : Int64} (hx : p.tables.exec = Jvm.exec) (hb : c.code = cc) (hr : meth.sig.returnType = some .long) (hlk : meth.locks = false) (hv : v = v0) (hd : decode cc pc = .ok (.lreturn, 1)) : W p l e R s m args below meth c s.heap [] 0 0 (MQ below (xk_R (some (.long v0))) args s 0 0 (fun _ => False)) (F0 m pc ls [.long v]) := by
  subst hv
  exact W.lret hx hb hr (fun t ht hW => ⟨rfl, ht⟩) (fun q h => by cases h) hd hlk
theorem xk_iretW {cc : ByteArray} {v v0 : Int32} {W0 W1 ws : va_W} (hx : p.tables.exec = Jvm.exec) (hb : c.code = cc) (hr : meth.sig.returnType = some .int) (hlk : meth.locks = false) (hP : va_P D cl ws H) (hS : va_S (xk_in W0) s.heap H locs) (hv : v = v0) (hw : ws = W1) (hd : decode cc pc = .ok (.ireturn, 1)) : W p l e R s m args below meth c H locs 0 0 (MQ below (xk_W D cl W0 W1 (some (.int v0))) args s 0 0 (xk_in W0)) (F0 m pc ls [.int v]) := by
  subst hv; subst hw
  exact W.iret hx hb hr (fun t ht hW => ⟨rfl, by rw [ht]; exact hP, hS.F ht⟩) hS.2.2 hd hlk
theorem xk_lretW {cc : ByteArray} {v v0 : Int64} {W0 W1 ws : va_W} (hx : p.tables.exec = Jvm.exec) (hb : c.code = cc) (hr : meth.sig.returnType = some .long) (hlk : meth.locks = false) (hP : va_P D cl ws H) (hS : va_S (xk_in W0) s.heap H locs) (hv : v = v0) (hw : ws = W1) (hd : decode cc pc = .ok (.lreturn, 1)) : W p l e R s m args below meth c H locs 0 0 (MQ below (xk_W D cl W0 W1 (some (.long v0))) args s 0 0 (xk_in W0)) (F0 m pc ls [.long v]) := by
  subst hv; subst hw
  exact W.lret hx hb hr (fun t ht hW => ⟨rfl, by rw [ht]; exact hP, hS.F ht⟩) hS.2.2 hd hlk
theorem xk_vretW {cc : ByteArray} {W0 W1 ws : va_W} (hx : p.tables.exec = Jvm.exec) (hb : c.code = cc) (hr : meth.sig.returnType = none) (hlk : meth.locks = false) (hP : va_P D cl ws H) (hS : va_S (xk_in W0) s.heap H locs) (hw : ws = W1) (hd : decode cc pc = .ok (.return_, 1)) : W p l e R s m args below meth c H locs 0 0 (MQ below (xk_W D cl W0 W1 none) args s 0 0 (xk_in W0)) (F0 m pc ls []) := by
  subst hw
  exact W.vret hx hb hr (fun t ht hW => ⟨rfl, by rw [ht]; exact hP, hS.F ht⟩) hS.2.2 hd hlk
/-- arrays by a number -/
theorem xa_lald {cc : ByteArray} {ws : va_W} {a : Nat} (hx : p.tables.exec = Jvm.exec) (hb : c.code = cc) (hK : va_K D cl tys s) (hP : va_P D cl ws H) (q0 t0 : Nat) {cA : ClassId} {n : Nat} {f : Nat → Int64} (ha : ws[q0]? = some (a, .inl (cA, n, .inr (.inl f)))) (ht : tys[t0]? = some (cA, .long)) {i : Int32} (k : Nat) (hi : i = nI k) (hk : k < n) (hn : n < 2 ^ 31) (hd : decode cc pc = .ok (.laload, 1))
    (kk : W p l e R s m args below meth c H locs cells slots Q (F0 m (pc + 1) ls (.long (f k) :: rest))) : W p l e R s m args below meth c H locs cells slots Q (F0 m pc ls (.int i :: .ref a :: rest)) := by
  subst hi
  refine va_lald hx hb hK hP q0 t0 ha ht (vp_in_nI hk hn) hd ?_
  rw [nI_clamp (Nat.lt_trans hk hn)]
  exact kk
theorem xa_iald {cc : ByteArray} {ws : va_W} {a : Nat} (hx : p.tables.exec = Jvm.exec) (hb : c.code = cc) (hK : va_K D cl tys s) (hP : va_P D cl ws H) (q0 t0 : Nat) {cA : ClassId} {n : Nat} {f : Nat → Int32} (ha : ws[q0]? = some (a, .inl (cA, n, .inl f))) (ht : tys[t0]? = some (cA, .int)) {i : Int32} (k : Nat) (hi : i = nI k) (hk : k < n) (hn : n < 2 ^ 31) (hd : decode cc pc = .ok (.iaload, 1))
    (kk : W p l e R s m args below meth c H locs cells slots Q (F0 m (pc + 1) ls (.int (f k) :: rest))) : W p l e R s m args below meth c H locs cells slots Q (F0 m pc ls (.int i :: .ref a :: rest)) := by
  subst hi
  refine va_iald hx hb hK hP q0 t0 ha ht (vp_in_nI hk hn) hd ?_
  rw [nI_clamp (Nat.lt_trans hk hn)]
  exact kk
theorem xa_last {cc : ByteArray} {ws ws' : va_W} {a : Nat} (hx : p.tables.exec = Jvm.exec) (hb : c.code = cc) (hK : va_K D cl tys s) (hP : va_P D cl ws H) (hD : va_D A ws) (hS : va_S A H0 H locs) (q0 t0 : Nat) {cA : ClassId} {n : Nat} {f : Nat → Int64} (ha : ws[q0]? = some (a, .inl (cA, n, .inr (.inl f)))) (ht : tys[t0]? = some (cA, .long)) {i : Int32} {x : Int64} (k : Nat) (hi : i = nI k) (hk : k < n) (hn : n < 2 ^ 31) (hd : decode cc pc = .ok (.lastore, 1)) (hs : ws.set q0 (a, .inl (cA, n, .inr (.inl (vp_updL f k x)))) = ws')
    (kk : ∀ (H1 : Heap) (locs1 : List Loc), va_P D cl ws' H1 → va_D A ws' → va_S A H0 H1 locs1 → W p l e R s m args below meth c H1 locs1 cells slots Q (F0 m (pc + 1) ls rest)) : W p l e R s m args below meth c H locs cells slots Q (F0 m pc ls (.long x :: .int i :: .ref a :: rest)) := by
  subst hi; subst hs
  refine va_last hx hb hK hP hD hS q0 t0 ha ht (vp_in_nI hk hn) hd ?_
  rw [nI_clamp (Nat.lt_trans hk hn)]
  exact kk
theorem xa_iast {cc : ByteArray} {ws ws' : va_W} {a : Nat} (hx : p.tables.exec = Jvm.exec) (hb : c.code = cc) (hK : va_K D cl tys s) (hP : va_P D cl ws H) (hD : va_D A ws) (hS : va_S A H0 H locs) (q0 t0 : Nat) {cA : ClassId} {n : Nat} {f : Nat → Int32} (ha : ws[q0]? = some (a, .inl (cA, n, .inl f))) (ht : tys[t0]? = some (cA, .int)) {i : Int32} {x : Int32} (k : Nat) (hi : i = nI k) (hk : k < n) (hn : n < 2 ^ 31) (hd : decode cc pc = .ok (.iastore, 1)) (hs : ws.set q0 (a, .inl (cA, n, .inl (upd f k x))) = ws')
    (kk : ∀ (H1 : Heap) (locs1 : List Loc), va_P D cl ws' H1 → va_D A ws' → va_S A H0 H1 locs1 → W p l e R s m args below meth c H1 locs1 cells slots Q (F0 m (pc + 1) ls rest)) : W p l e R s m args below meth c H locs cells slots Q (F0 m pc ls (.int x :: .int i :: .ref a :: rest)) := by
  subst hi; subst hs
  refine va_iast hx hb hK hP hD hS q0 t0 ha ht (vp_in_nI hk hn) hd ?_
  rw [nI_clamp (Nat.lt_trans hk hn)]
  exact kk
theorem xa_put {cc : ByteArray} {ws ws' : va_W} {a : Nat} (hx : p.tables.exec = Jvm.exec) (hb : c.code = cc) {own ref C : String} {T : u_T} {N ci index : Nat} {Ts : List Cond} (hts : ∀ w ∈ Ts, w.before args s = true) (hin : ∀ w ∈ u_ws C T N, w ∈ Ts) (ty0 : Nat → FieldType) (hty : ∀ k, k < N → parseFieldDescriptor (T k).2.2.1 = some (ty0 k)) (hnm : ∀ a, a < N → ∀ b, b < N → a ≠ b → (T a).2.1 ≠ (T b).2.1) (hown : s.vm.findClass own = some m.cls) (hK : va_K D cl tys s) (hP : va_P D cl ws H) (hD : va_D A ws) (hS0 : va_S A H0 H locs) (q0 : Nat) {fs : List Value} (he : ws[q0]? = some (a, .inr (ci, fs))) (hc : cl[ci]? = some (C, T, N)) (k : Nat) (hk : k < N) (hlink : (Cond.fieldLink own index ref (T k).2.1 (T k).2.2.1).before args s = true) (hsame : ∀ x, s.fieldFound? (T k).1 (T k).2.1 (T k).2.2.1 = some x → s.fieldFound? ref (T k).2.1 (T k).2.2.1 = some x) (hfin : (T k).2.2.2 = false) {ty : FieldType} {v : Value} (hd : parseFieldDescriptor (T k).2.2.1 = some ty) (hn : narrow ty v = v) (hfit : fits ty v = true) (hl : k < fs.length)
    (hdg : decode cc pc = .ok (.putfield index, 3)) (hs : ws.set q0 (a, .inr (ci, fs.set k v)) = ws') (kk : ∀ (H1 : Heap) (locs1 : List Loc), va_P D cl ws' H1 → va_D A ws' → va_S A H0 H1 locs1 → W p l e R s m args below meth c H1 locs1 cells slots Q (F0 m (pc + 3) ls rest)) : W p l e R s m args below meth c H locs cells slots Q (F0 m pc ls (v :: .ref a :: rest)) := by
  subst hs
  exact va_put hx hb hts hin ty0 hty hnm hown hK hP hD hS0 q0 he hc k hk hlink hsame hfin hd hn hfit hl hdg kk
end XK
end
section
/-! A word: a number, or a pointer (AT, and FROM, TO, RIGHTS); how the class packs it into a long -/
section XW
abbrev xw : Type := Int32 × Option (Nat × Nat × Nat)
def xb (b : Bool) : Int32 := if b = true then 1 else 0
def uI (v : Int32) : Nat := v.toBitVec.toNat
theorem uI_lt (v : Int32) : uI v < 4294967296 := v.toBitVec.isLt
def xw_n (w : xw) : Nat := match w.2 with
  | none => uI w.1
  | some (f, t, r) => uI w.1 + f * 4294967296 + t * 2199023255552 + r * 1125899906842624 + 4503599627370496
def xw_enc (w : xw) : Int64 := lN (xw_n w)
def xw_ok (w : xw) : Prop := match w.2 with
  | none => True
  | some (f, t, r) => f < 512 ∧ t < 512 ∧ r < 4
def xw_p (w : xw) : Bool := w.2.isSome
def xw_f (w : xw) : Nat := match w.2 with
  | none => 0
  | some (f, _, _) => f
def xw_t (w : xw) : Nat := match w.2 with
  | none => 0
  | some (_, t, _) => t
def xw_r (w : xw) : Nat := match w.2 with
  | none => 0
  | some (_, _, r) => r
theorem xw_n_lt {w : xw} (h : xw_ok w) : xw_n w < 2 ^ 53 := by
  obtain ⟨v, o⟩ := w
  have h1 := uI_lt v
  cases o with
  | none => show uI v < 2 ^ 53; omega
  | some q =>
    obtain ⟨f, t, r⟩ := q
    obtain ⟨h2, h3, h4⟩ := h
    show uI v + f * 4294967296 + t * 2199023255552 + r * 1125899906842624 + 4503599627370496 < 2 ^ 53
    omega
theorem xw_parts {w : xw} (h : xw_ok w) : xw_n w % 4294967296 = uI w.1 ∧ xw_n w / 4294967296 % 512 = xw_f w ∧ xw_n w / 2199023255552 % 512 = xw_t w ∧ xw_n w / 1125899906842624 % 4 = xw_r w ∧ (xw_n w / 4503599627370496 = if xw_p w = true then 1 else 0) := by
  obtain ⟨v, o⟩ := w
  have h1 := uI_lt v
  cases o with
  | none =>
    refine ⟨?_, ?_, ?_, ?_, ?_⟩
    · show uI v % 4294967296 = uI v; omega
    · show uI v / 4294967296 % 512 = 0; omega
    · show uI v / 2199023255552 % 512 = 0; omega
    · show uI v / 1125899906842624 % 4 = 0; omega
    · show uI v / 4503599627370496 = 0; omega
  | some q =>
    obtain ⟨f, t, r⟩ := q
    obtain ⟨h2, h3, h4⟩ := h
    have e : xw_n (v, some (f, t, r)) = uI v + f * 4294967296 + t * 2199023255552 + r * 1125899906842624 + 4503599627370496 := rfl
    rw [e]
    refine ⟨?_, ?_, ?_, ?_, ?_⟩
    · show _ = uI v; omega
    · show _ = f; omega
    · show _ = t; omega
    · show _ = r; omega
    · show _ = 1; omega
theorem xw_uN (v : Int32) : uN v.toInt64 % 4294967296 = uI v := by
  show (v.toBitVec.signExtend 64).toNat % 4294967296 = v.toBitVec.toNat
  have hl := v.toBitVec.isLt
  rw [BitVec.toNat_signExtend, BitVec.toNat_setWidth]
  split <;> omega
theorem xw_ofN (v : Int32) : v.toInt64 &&& 4294967295 = xw_enc (v, none) := by
  apply uN_inj
  rw [uN_lo, xw_uN]
  show uI v = (lN (uI v)).toBitVec.toNat
  rw [wb_tn (by have := uI_lt v; omega)]
theorem xw_nI (n : Nat) (v : Int32) (h : n % 4294967296 = uI v) : nI n = v := by
  apply Int32.toBitVec_inj.mp
  apply BitVec.eq_of_toNat_eq
  show (BitVec.ofNat 32 n).toNat = v.toBitVec.toNat
  rw [BitVec.toNat_ofNat]
  exact h
theorem xw_at {w : xw} (h : xw_ok w) : (xw_enc w).toInt32 = w.1 := by
  unfold xw_enc
  rw [lN_i]
  exact xw_nI _ _ (xw_parts h).1
theorem xw_shr {w : xw} (h : xw_ok w) {k : Nat} (hk : k < 64) : ((xw_enc w).toUInt64 >>> ((nI k).toInt64.toUInt64 &&& Int64.toUInt64 63)).toInt64 = lN (xw_n w / 2 ^ k) := wb_shr (Nat.lt_trans (xw_n_lt h) (by decide)) hk
theorem xw_mask {n k : Nat} (m : Int32) (hn : n < 2 ^ 32) (hm : m.toBitVec.toNat = 2 ^ k - 1) : (lN n).toInt32 &&& m = nI (n % 2 ^ k) := by
  rw [lN_i]
  exact pk_andN hn k hm
theorem xw_from {w : xw} (h : xw_ok w) : ((xw_enc w).toUInt64 >>> ((32 : Int32).toInt64.toUInt64 &&& Int64.toUInt64 63)).toInt64.toInt32 &&& 511 = nI (xw_f w) := by
  have e := xw_shr h (k := 32) (by decide)
  have e2 : (32 : Int32) = nI 32 := rfl
  rw [e2, e, xw_mask (k := 9) 511 (by have := xw_n_lt h; omega) (by decide)]
  exact congrArg nI (xw_parts h).2.1
theorem xw_to {w : xw} (h : xw_ok w) : ((xw_enc w).toUInt64 >>> ((41 : Int32).toInt64.toUInt64 &&& Int64.toUInt64 63)).toInt64.toInt32 &&& 511 = nI (xw_t w) := by
  have e := xw_shr h (k := 41) (by decide)
  have e2 : (41 : Int32) = nI 41 := rfl
  rw [e2, e, xw_mask (k := 9) 511 (by have := xw_n_lt h; omega) (by decide)]
  exact congrArg nI (xw_parts h).2.2.1
theorem xw_rights {w : xw} (h : xw_ok w) : ((xw_enc w).toUInt64 >>> ((50 : Int32).toInt64.toUInt64 &&& Int64.toUInt64 63)).toInt64.toInt32 &&& 3 = nI (xw_r w) := by
  have e := xw_shr h (k := 50) (by decide)
  have e2 : (50 : Int32) = nI 50 := rfl
  rw [e2, e, xw_mask (k := 2) 3 (by have := xw_n_lt h; omega) (by decide)]
  exact congrArg nI (xw_parts h).2.2.2.1
theorem xw_isP {w : xw} (h : xw_ok w) : lg_cmp ((xw_enc w).toUInt64 >>> ((52 : Int32).toInt64.toUInt64 &&& Int64.toUInt64 63)).toInt64 0 = 0 ↔ xw_p w = false := by
  have e := xw_shr h (k := 52) (by decide)
  have e2 : (52 : Int32) = nI 52 := rfl
  have e3 := (xw_parts h).2.2.2.2
  rw [e2, e, show (2 : Nat) ^ 52 = 4503599627370496 from by decide, e3]
  cases xw_p w with
  | false => simp [lg_cmp, lN]
  | true => decide
theorem xw_ofP (at_ : Int32) {f t r : Nat} (hf : f < 512) (ht : t < 512) (hr : r < 4) : ((((xw_enc (at_, none)) ||| ((nI f).toInt64 <<< ((32 : Int32).toInt64 &&& 63))) ||| ((nI t).toInt64 <<< ((41 : Int32).toInt64 &&& 63))) ||| ((nI r).toInt64 <<< ((50 : Int32).toInt64 &&& 63))) ||| 4503599627370496 = xw_enc (at_, some (f, t, r)) := by
  have hu := uI_lt at_
  rw [nI_l (n := f) (by omega), nI_l (n := t) (by omega), nI_l (n := r) (by omega)]
  rw [show (32 : Int32) = nI 32 from rfl, show (41 : Int32) = nI 41 from rfl, show (50 : Int32) = nI 50 from rfl, wb_shl f (by decide), wb_shl t (by decide), wb_shl r (by decide)]
  have e0 : xw_enc (at_, none) = lN (uI at_) := rfl
  have e4 : (4503599627370496 : Int64) = lN (1 * 4503599627370496) := rfl
  rw [e0, e4, g_or' (k := 32) rfl (by omega) (by omega), g_or' (k := 41) rfl (by omega) (by omega), g_or' (k := 50) rfl (by omega) (by omega), g_or' (k := 52) (p := 4503599627370496) (by decide) (by omega) (by omega)]
  rfl
def xw_arr (m : Nat → xw) : Nat → Int64 := fun i => xw_enc (m i)
theorem xw_upd (m : Nat → xw) (k : Nat) (w : xw) : vp_updL (xw_arr m) k (xw_enc w) = xw_arr (va_up m k w) := by
  funext j
  by_cases h : j = k
  · subst h; simp [vp_updL, xw_arr, va_up]
  · simp [vp_updL, xw_arr, va_up, h]
theorem x_l2 (x : Int32) : (x.toInt64).toInt = x.toInt := by simp
theorem x_lrange (x : Int32) : -2147483648 ≤ x.toInt ∧ x.toInt < 2147483648 := ⟨x.le_toInt, x.toInt_lt⟩
theorem x_ladd {a b : Int64} (h1 : -4611686018427387904 ≤ a.toInt) (h2 : a.toInt < 4611686018427387904) (h3 : -4611686018427387904 ≤ b.toInt) (h4 : b.toInt < 4611686018427387904) : (a + b).toInt = a.toInt + b.toInt := by
  rw [Int64.toInt_add, Int.bmod_eq_of_le (by omega) (by omega)]
def xw_cov (w : xw) (d n : Int32) : Bool := decide ((xw_f w : Int) ≤ w.1.toInt + d.toInt ∧ w.1.toInt + d.toInt + n.toInt ≤ (xw_t w : Int))
theorem xb_t : xb true = 1 := rfl
theorem xb_f : xb false = 0 := rfl
theorem xb_nar (b : Bool) : narrow .boolean (.int (xb b)) = .int (xb b) := by cases b <;> rfl
theorem xb_0 {b : Bool} : xb b = 0 ↔ b = false := by cases b <;> decide
end XW
section XI
abbrev xt (cI cJ cS : ClassId) : List (ClassId × FieldType) := [(cI, .int), (cJ, .long), (cS, .object RX2)]
def xi (x : Int32) (n : Nat) : Bool := decide (0 ≤ x.toInt ∧ x.toInt < n)
theorem xi_nI {k n : Nat} (h : k < n) (hn : n < 2 ^ 31) : xi (nI k) n = true := by
  unfold xi
  rw [nI_toInt (Nat.lt_trans h hn)]
  exact decide_eq_true ⟨by omega, by omega⟩
theorem xi_lt {x : Int32} {n : Nat} (h : x < 0) : xi x n = false := by
  have := Int32.lt_iff_toInt_lt.mp h
  have e : (0 : Int32).toInt = 0 := rfl
  exact decide_eq_false (by omega)
theorem xi_ge {x N : Int32} {n : Nat} (hN : N.toInt = n) (h : N ≤ x) : xi x n = false := by
  have := Int32.le_iff_toInt_le.mp h
  exact decide_eq_false (by omega)
theorem xi_in {x N : Int32} {n : Nat} (hN : N.toInt = n) (h1 : ¬ x < 0) (h2 : ¬ N ≤ x) : xi x n = true := by
  rw [Int32.lt_iff_toInt_lt] at h1
  rw [Int32.le_iff_toInt_le] at h2
  have e : (0 : Int32).toInt = 0 := rfl
  exact decide_eq_true (by omega)
theorem xi_of {x : Int32} {n : Nat} (h : xi x n = true) : ∃ k, k < n ∧ x = nI k := by
  have h1 := of_decide_eq_true h
  refine ⟨x.toInt.toNat, by omega, ?_⟩
  apply Int32.toInt_inj.mp
  have h2 := x.toInt_lt
  rw [nI_toInt (by omega)]
  omega
theorem xb_p0 {P : Prop} {b : Bool} (h : P ↔ b = false) (c : P) : (0 : Int32) = xb b := by rw [h.mp c]; rfl
theorem xb_p1 {P : Prop} {b : Bool} (h : P ↔ b = false) (c : ¬ P) : (1 : Int32) = xb b := by
  cases b
  · exact absurd (h.mpr rfl) c
  · rfl
theorem xb_q1 {P : Prop} {b : Bool} (h : P ↔ b = true) (c : P) : (1 : Int32) = xb b := by rw [h.mp c]; rfl
theorem xb_q0 {P : Prop} {b : Bool} (h : P ↔ b = true) (c : ¬ P) : (0 : Int32) = xb b := by
  cases b
  · rfl
  · exact absurd (h.mpr rfl) c
theorem xb_1 {b : Bool} (h : b = true) : (1 : Int32) = xb b := by rw [h]; rfl
theorem xb_00 {b : Bool} (h : b = false) : (0 : Int32) = xb b := by rw [h]; rfl
theorem x_shr6 {k : Nat} (h : k < 2 ^ 31) : nI k >>> ((6 : Int32) &&& 31) = nI (k / 64) := pk_shrN h _ 6 (by decide)
theorem x_and63 {k : Nat} (h : k < 2 ^ 31) : nI k &&& 63 = nI (k % 64) := pk_andN (Nat.lt_trans h (by decide)) 6 (by decide)
theorem xw_cov_lt {w : xw} {d n : Int32} (hw : xw_ok w) (c : lg_cmp (w.1.toInt64 + d.toInt64) (nI (xw_f w)).toInt64 < 0) : xw_cov w d n = false := by
  rw [lg_cmp_lt, Int64.lt_iff_toInt_lt, x_ladd (by rw [x_l2]; have := x_lrange w.1; omega) (by rw [x_l2]; have := x_lrange w.1; omega) (by rw [x_l2]; have := x_lrange d; omega) (by rw [x_l2]; have := x_lrange d; omega), x_l2, x_l2, x_l2] at c
  rw [nI_toInt (by have h := (xw_parts hw).2.1; omega)] at c
  exact decide_eq_false (by omega)
theorem xw_cov_gt {w : xw} {d n : Int32} (hw : xw_ok w) (c : 0 < lg_cmp (w.1.toInt64 + d.toInt64 + n.toInt64) (nI (xw_t w)).toInt64) : xw_cov w d n = false := by
  have r1 := x_lrange w.1
  have r2 := x_lrange d
  have r3 := x_lrange n
  have e1 : (w.1.toInt64 + d.toInt64).toInt = w.1.toInt + d.toInt := by rw [x_ladd (by rw [x_l2]; omega) (by rw [x_l2]; omega) (by rw [x_l2]; omega) (by rw [x_l2]; omega), x_l2, x_l2]
  rw [lg_cmp_gt, Int64.lt_iff_toInt_lt, x_ladd (by rw [e1]; omega) (by rw [e1]; omega) (by rw [x_l2]; omega) (by rw [x_l2]; omega), e1, x_l2, x_l2] at c
  rw [nI_toInt (by have h := (xw_parts hw).2.2.1; omega)] at c
  exact decide_eq_false (by omega)
theorem xw_cov_in {w : xw} {d n : Int32} (hw : xw_ok w) (c : ¬ lg_cmp (w.1.toInt64 + d.toInt64) (nI (xw_f w)).toInt64 < 0) (c2 : ¬ 0 < lg_cmp (w.1.toInt64 + d.toInt64 + n.toInt64) (nI (xw_t w)).toInt64) : xw_cov w d n = true := by
  have r1 := x_lrange w.1
  have r2 := x_lrange d
  have r3 := x_lrange n
  have e1 : (w.1.toInt64 + d.toInt64).toInt = w.1.toInt + d.toInt := by rw [x_ladd (by rw [x_l2]; omega) (by rw [x_l2]; omega) (by rw [x_l2]; omega) (by rw [x_l2]; omega), x_l2, x_l2]
  rw [lg_cmp_gt, Int64.lt_iff_toInt_lt, x_ladd (by rw [e1]; omega) (by rw [e1]; omega) (by rw [x_l2]; omega) (by rw [x_l2]; omega), e1, x_l2, x_l2] at c2
  rw [lg_cmp_lt, Int64.lt_iff_toInt_lt, e1, x_l2] at c
  rw [nI_toInt (by have h := (xw_parts hw).2.1; omega)] at c
  rw [nI_toInt (by have h := (xw_parts hw).2.2.1; omega)] at c2
  exact decide_eq_true (by omega)
end XI
end
section
/-! Long.bitCount, as numbers: the number of ones -/
section XP
/-- ones among the lowest k bits of n -/
def xp_pc : Nat → Nat → Nat
  | 0, _ => 0
  | k + 1, n => n % 2 + xp_pc k (n / 2)
def xp_mk (d : Nat) : Nat → Nat
  | 0 => 0
  | k + 1 => d + 256 * xp_mk d k
def xp_bm (g : Nat → Nat) : Nat → Nat → Nat
  | 0, _ => 0
  | k + 1, n => g (n % 256) + 256 * xp_bm g k (n / 256)
theorem xp_land (x y r t : Nat) (hr : r < 256) (ht : t < 256) : (r + 256 * x) &&& (t + 256 * y) = (r &&& t) + 256 * (x &&& y) := by
  apply Nat.eq_of_testBit_eq
  intro i
  have h1 : ∀ (r x : Nat), r < 256 → (r + 256 * x).testBit i = if i < 8 then r.testBit i else x.testBit (i - 8) := by
    intro r x h
    rw [Nat.add_comm]
    exact Nat.testBit_two_pow_mul_add x (i := 8) h i
  have h2 : r &&& t < 256 := Nat.and_lt_two_pow (n := 8) _ ht
  rw [Nat.testBit_and, h1 r x hr, h1 t y ht, h1 _ _ h2]
  split
  · rw [Nat.testBit_and]
  · rw [Nat.testBit_and]
theorem xp_bm_lt {g : Nat → Nat} (hg : ∀ r, r < 256 → g r < 256) : ∀ (k n : Nat), xp_bm g k n < 256 ^ k
  | 0, n => by simp [xp_bm]
  | k + 1, n => by
    have h1 := xp_bm_lt hg k (n / 256)
    have h2 := hg (n % 256) (Nat.mod_lt _ (by decide))
    show g (n % 256) + 256 * xp_bm g k (n / 256) < 256 ^ (k + 1)
    rw [Nat.pow_succ]
    omega
theorem xp_bm_bm {g h : Nat → Nat} (hg : ∀ r, r < 256 → g r < 256) : ∀ (k n : Nat), xp_bm h k (xp_bm g k n) = xp_bm (fun r => h (g r)) k n
  | 0, n => rfl
  | k + 1, n => by
    have h2 := hg (n % 256) (Nat.mod_lt _ (by decide))
    have e1 : xp_bm g (k + 1) n = g (n % 256) + 256 * xp_bm g k (n / 256) := rfl
    have e2 : xp_bm g (k + 1) n % 256 = g (n % 256) := by rw [e1]; omega
    have e3 : xp_bm g (k + 1) n / 256 = xp_bm g k (n / 256) := by rw [e1]; omega
    show h (xp_bm g (k + 1) n % 256) + 256 * xp_bm h k (xp_bm g (k + 1) n / 256) = h (g (n % 256)) + 256 * xp_bm (fun r => h (g r)) k (n / 256)
    rw [e2, e3, xp_bm_bm hg k (n / 256)]
theorem xp_bm_69 {g : Nat → Nat} (hg : ∀ r, r < 256 → g r < 69) : ∀ (k n : Nat), xp_bm g (k + 1) n < 69 * 256 ^ k
  | 0, n => by
    have h2 := hg (n % 256) (Nat.mod_lt _ (by decide))
    show g (n % 256) + 256 * 0 < 69 * 256 ^ 0
    omega
  | k + 1, n => by
    have h1 := xp_bm_69 hg k (n / 256)
    have h2 := hg (n % 256) (Nat.mod_lt _ (by decide))
    show g (n % 256) + 256 * xp_bm g (k + 1) (n / 256) < 69 * 256 ^ (k + 1)
    rw [Nat.pow_succ]
    omega
def xp_g1 (r : Nat) : Nat := r - (r / 2 &&& 85)
def xp_g2 (r : Nat) : Nat := (r &&& 51) + (r / 4 &&& 51)
theorem xp_k1 : ∀ r, r < 256 → ∀ b, b < 2 → (r / 2 + 128 * b) &&& 85 = r / 2 &&& 85 := by decide +kernel
theorem xp_k2 : ∀ r, r < 256 → ∀ b, b < 4 → (r / 4 + 64 * b) &&& 51 = r / 4 &&& 51 := by decide +kernel
theorem xp_k3 : ∀ r, r < 256 → r &&& 15 = r % 16 := by decide +kernel
theorem xp_g1_lt : ∀ r, r < 256 → xp_g1 r < 256 ∧ (r / 2 &&& 85) ≤ r := by decide +kernel
theorem xp_g21 : ∀ r, r < 256 → xp_g2 (xp_g1 r) < 69 ∧ xp_g2 (xp_g1 r) % 16 < 5 := by decide +kernel
theorem xp_c : ∀ r, r < 256 → (xp_g2 (xp_g1 r) + xp_g2 (xp_g1 r) / 16) % 16 = xp_pc 8 r := by decide +kernel
theorem xp_pc8 : ∀ r, r < 256 → xp_pc 8 r ≤ 8 := by decide +kernel
theorem xp_s1 : ∀ (k n : Nat), n < 256 ^ k → (n / 2 &&& xp_mk 85 k) ≤ n ∧ n - (n / 2 &&& xp_mk 85 k) = xp_bm xp_g1 k n
  | 0, n, h => by
    have : n = 0 := by omega
    subst this
    simp [xp_mk, xp_bm]
  | k + 1, n, h => by
    have hq : n / 256 < 256 ^ k := by rw [Nat.pow_succ] at h; omega
    obtain ⟨i1, i2⟩ := xp_s1 k (n / 256) hq
    have hr : n % 256 < 256 := Nat.mod_lt _ (by decide)
    have e1 : n / 2 = (n % 256 / 2 + 128 * (n / 256 % 2)) + 256 * (n / 256 / 2) := by omega
    have e4 : n / 2 &&& xp_mk 85 (k + 1) = (n % 256 / 2 &&& 85) + 256 * (n / 256 / 2 &&& xp_mk 85 k) := by
      rw [e1]
      show _ &&& (85 + 256 * xp_mk 85 k) = _
      rw [xp_land _ _ _ _ (by omega) (by decide), xp_k1 _ hr _ (Nat.mod_lt _ (by decide))]
    obtain ⟨g1, g2⟩ := xp_g1_lt _ hr
    rw [e4]
    show _ ∧ _ = xp_g1 (n % 256) + 256 * xp_bm xp_g1 k (n / 256)
    rw [← i2]
    unfold xp_g1
    omega
theorem xp_s2 : ∀ (k n : Nat), n < 256 ^ k → (n &&& xp_mk 51 k) + (n / 4 &&& xp_mk 51 k) = xp_bm xp_g2 k n
  | 0, n, h => by simp [xp_mk, xp_bm]
  | k + 1, n, h => by
    have hq : n / 256 < 256 ^ k := by rw [Nat.pow_succ] at h; omega
    have i2 := xp_s2 k (n / 256) hq
    have hr : n % 256 < 256 := Nat.mod_lt _ (by decide)
    have e1 : n / 4 = (n % 256 / 4 + 64 * (n / 256 % 4)) + 256 * (n / 256 / 4) := by omega
    have e4 : n / 4 &&& xp_mk 51 (k + 1) = (n % 256 / 4 &&& 51) + 256 * (n / 256 / 4 &&& xp_mk 51 k) := by
      rw [e1]
      show _ &&& (51 + 256 * xp_mk 51 k) = _
      rw [xp_land _ _ _ _ (by omega) (by decide), xp_k2 _ hr _ (Nat.mod_lt _ (by decide))]
    have e5 : n &&& xp_mk 51 (k + 1) = (n % 256 &&& 51) + 256 * (n / 256 &&& xp_mk 51 k) := by
      have e6 : n = n % 256 + 256 * (n / 256) := by omega
      conv => lhs; rw [e6]
      show _ &&& (51 + 256 * xp_mk 51 k) = _
      rw [xp_land _ _ _ _ hr (by decide)]
    rw [e4, e5]
    show _ = xp_g2 (n % 256) + 256 * xp_bm xp_g2 k (n / 256)
    rw [← i2]
    unfold xp_g2
    omega
theorem xp_s3 {h : Nat → Nat} (hh : ∀ r, r < 256 → h r < 69 ∧ h r % 16 < 5) : ∀ (k n : Nat), (xp_bm h k n + xp_bm h k n / 16) &&& xp_mk 15 k = xp_bm (fun r => (h r + h r / 16) % 16) k n ∧ xp_bm h k n % 16 < 5
  | 0, n => by simp [xp_mk, xp_bm]
  | k + 1, n => by
    obtain ⟨i1, i2⟩ := xp_s3 hh k (n / 256)
    obtain ⟨g1, g2⟩ := hh (n % 256) (Nat.mod_lt _ (by decide))
    have e1 : xp_bm h (k + 1) n = h (n % 256) + 256 * xp_bm h k (n / 256) := rfl
    have e2 : xp_bm h (k + 1) n + xp_bm h (k + 1) n / 16 = (h (n % 256) + h (n % 256) / 16 + 16 * (xp_bm h k (n / 256) % 16)) + 256 * (xp_bm h k (n / 256) + xp_bm h k (n / 256) / 16) := by rw [e1]; omega
    refine ⟨?_, by rw [e1]; omega⟩
    rw [e2]
    show _ &&& (15 + 256 * xp_mk 15 k) = (h (n % 256) + h (n % 256) / 16) % 16 + 256 * xp_bm (fun r => (h r + h r / 16) % 16) k (n / 256)
    rw [xp_land _ _ _ _ (by omega) (by decide), i1, xp_k3 _ (by omega)]
    omega
theorem xp_bm_congr {g h : Nat → Nat} (hg : ∀ r, r < 256 → g r = h r) : ∀ (k n : Nat), xp_bm g k n = xp_bm h k n
  | 0, n => rfl
  | k + 1, n => by
    show g (n % 256) + 256 * xp_bm g k (n / 256) = h (n % 256) + 256 * xp_bm h k (n / 256)
    rw [hg _ (Nat.mod_lt _ (by decide)), xp_bm_congr hg k (n / 256)]
theorem xp_pc_add : ∀ (a k n : Nat), xp_pc (a + k) n = xp_pc a (n % 2 ^ a) + xp_pc k (n / 2 ^ a)
  | 0, k, n => by simp [xp_pc]
  | a + 1, k, n => by
    have e0 : a + 1 + k = (a + k) + 1 := by omega
    rw [e0]
    show n % 2 + xp_pc (a + k) (n / 2) = (n % 2 ^ (a + 1) % 2 + xp_pc a (n % 2 ^ (a + 1) / 2)) + xp_pc k (n / 2 ^ (a + 1))
    have e1 : n % 2 ^ (a + 1) % 2 = n % 2 := Nat.mod_mod_of_dvd n (by rw [Nat.pow_succ]; exact Nat.dvd_mul_left 2 _)
    have e2 : n % 2 ^ (a + 1) / 2 = n / 2 % 2 ^ a := by
      rw [Nat.pow_succ, Nat.mul_comm, Nat.mod_mul_right_div_self]
    have e3 : n / 2 ^ (a + 1) = n / 2 / 2 ^ a := by
      rw [Nat.pow_succ, Nat.mul_comm, Nat.div_div_eq_div_mul]
    rw [e1, e2, e3, xp_pc_add a k (n / 2)]
    omega
theorem xp_pc_bytes : ∀ (n : Nat), xp_pc 64 n = xp_pc 8 (n % 256) + xp_pc 8 (n / 256 % 256) + xp_pc 8 (n / 256 / 256 % 256) + xp_pc 8 (n / 256 / 256 / 256 % 256) + xp_pc 8 (n / 256 / 256 / 256 / 256 % 256) + xp_pc 8 (n / 256 / 256 / 256 / 256 / 256 % 256) + xp_pc 8 (n / 256 / 256 / 256 / 256 / 256 / 256 % 256) + xp_pc 8 (n / 256 / 256 / 256 / 256 / 256 / 256 / 256 % 256) := by
  intro n
  have st : ∀ k n, xp_pc (8 + k) n = xp_pc 8 (n % 256) + xp_pc k (n / 256) := fun k n => xp_pc_add 8 k n
  rw [show 64 = 8 + (8 + (8 + (8 + (8 + (8 + (8 + (8 + 0))))))) from rfl, st, st, st, st, st, st, st, st]
  rw [show ∀ m, xp_pc 0 m = 0 from fun _ => rfl]
  generalize xp_pc 8 (n % 256) = a0
  omega
theorem xp_bm_s (g : Nat → Nat) (k n : Nat) : xp_bm g (k + 1) n = g (n % 256) + 256 * xp_bm g k (n / 256) := rfl
theorem xp_bm_z (g : Nat → Nat) (n : Nat) : xp_bm g 0 n = 0 := rfl
theorem xp_dv {a r : Nat} (h : a < 256) : (a + 256 * r) / 256 = r := by omega
end XP
end
section
section XQ
theorem xp_i1 (c0 c1 c2 c3 c4 c5 c6 c7 : Nat) : (c0 + 256 * (c1 + 256 * (c2 + 256 * (c3 + 256 * (c4 + 256 * (c5 + 256 * (c6 + 256 * (c7 + 256 * 0)))))))) + (c1 + 256 * (c2 + 256 * (c3 + 256 * (c4 + 256 * (c5 + 256 * (c6 + 256 * (c7 + 256 * 0))))))) = (c0 + c1) + 256 * ((c1 + c2) + 256 * ((c2 + c3) + 256 * ((c3 + c4) + 256 * ((c4 + c5) + 256 * ((c5 + c6) + 256 * ((c6 + c7) + 256 * ((c7) + 256 * 0))))))) := by omega
theorem xp_i2 (c0 c1 c2 c3 c4 c5 c6 c7 : Nat) : ((c0 + c1) + 256 * ((c1 + c2) + 256 * ((c2 + c3) + 256 * ((c3 + c4) + 256 * ((c4 + c5) + 256 * ((c5 + c6) + 256 * ((c6 + c7) + 256 * ((c7) + 256 * 0)))))))) + ((c2 + c3) + 256 * ((c3 + c4) + 256 * ((c4 + c5) + 256 * ((c5 + c6) + 256 * ((c6 + c7) + 256 * ((c7) + 256 * 0)))))) = (c0 + c1 + c2 + c3) + 256 * ((c1 + c2 + c3 + c4) + 256 * ((c2 + c3 + c4 + c5) + 256 * ((c3 + c4 + c5 + c6) + 256 * ((c4 + c5 + c6 + c7) + 256 * ((c5 + c6 + c7) + 256 * ((c6 + c7) + 256 * ((c7) + 256 * 0))))))) := by omega
theorem xp_i3 (c0 c1 c2 c3 c4 c5 c6 c7 : Nat) : ((c0 + c1 + c2 + c3) + 256 * ((c1 + c2 + c3 + c4) + 256 * ((c2 + c3 + c4 + c5) + 256 * ((c3 + c4 + c5 + c6) + 256 * ((c4 + c5 + c6 + c7) + 256 * ((c5 + c6 + c7) + 256 * ((c6 + c7) + 256 * ((c7) + 256 * 0)))))))) + ((c4 + c5 + c6 + c7) + 256 * ((c5 + c6 + c7) + 256 * ((c6 + c7) + 256 * ((c7) + 256 * 0)))) = (c0 + c1 + c2 + c3 + c4 + c5 + c6 + c7) + 256 * ((c1 + c2 + c3 + c4 + c5 + c6 + c7) + 256 * ((c2 + c3 + c4 + c5 + c6 + c7) + 256 * ((c3 + c4 + c5 + c6 + c7) + 256 * ((c4 + c5 + c6 + c7) + 256 * ((c5 + c6 + c7) + 256 * ((c6 + c7) + 256 * ((c7) + 256 * 0))))))) := by omega
theorem xp_hl {a r N : Nat} (h1 : a < 256) (h2 : r < N) : a + 256 * r < 256 * N := by omega
theorem xp_hl8 {a0 a1 a2 a3 a4 a5 a6 a7 : Nat} (h0 : a0 < 256) (h1 : a1 < 256) (h2 : a2 < 256) (h3 : a3 < 256) (h4 : a4 < 256) (h5 : a5 < 256) (h6 : a6 < 256) (h7 : a7 < 256) : a0 + 256 * (a1 + 256 * (a2 + 256 * (a3 + 256 * (a4 + 256 * (a5 + 256 * (a6 + 256 * (a7 + 256 * 0))))))) < 18446744073709551616 := xp_hl h0 (xp_hl h1 (xp_hl h2 (xp_hl h3 (xp_hl h4 (xp_hl h5 (xp_hl h6 (xp_hl h7 (Nat.zero_lt_one))))))))
theorem xp_fin {F R : Nat} (h : F ≤ 64) : (F + 256 * R) % 128 = F := by omega
theorem xp_sum {c0 c1 c2 c3 c4 c5 c6 c7 : Nat} (q0 : c0 ≤ 8) (q1 : c1 ≤ 8) (q2 : c2 ≤ 8) (q3 : c3 ≤ 8) (q4 : c4 ≤ 8) (q5 : c5 ≤ 8) (q6 : c6 ≤ 8) (q7 : c7 ≤ 8) : ∀ c d e f : Nat, c = c0 + 256 * (c1 + 256 * (c2 + 256 * (c3 + 256 * (c4 + 256 * (c5 + 256 * (c6 + 256 * (c7 + 256 * 0))))))) → d = c + c / 256 → e = d + d / 65536 → f = e + e / 4294967296 → f % 128 = c0 + c1 + c2 + c3 + c4 + c5 + c6 + c7 ∧ c < 18446744073709551616 ∧ d < 18446744073709551616 ∧ e < 18446744073709551616 ∧ f < 18446744073709551616 := by
  have u0 : c0 < 256 := by omega
  have u1 : c1 < 256 := by omega
  have u2 : c2 < 256 := by omega
  have u3 : c3 < 256 := by omega
  have u4 : c4 < 256 := by omega
  have u5 : c5 < 256 := by omega
  have u6 : c6 < 256 := by omega
  have u7 : c7 < 256 := by omega
  have v0 : (c0 + c1) < 256 := by omega
  have v1 : (c1 + c2) < 256 := by omega
  have v2 : (c2 + c3) < 256 := by omega
  have v3 : (c3 + c4) < 256 := by omega
  have v4 : (c4 + c5) < 256 := by omega
  have v5 : (c5 + c6) < 256 := by omega
  have v6 : (c6 + c7) < 256 := by omega
  have v7 : (c7) < 256 := by omega
  have x0 : (c0 + c1 + c2 + c3) < 256 := by omega
  have x1 : (c1 + c2 + c3 + c4) < 256 := by omega
  have x2 : (c2 + c3 + c4 + c5) < 256 := by omega
  have x3 : (c3 + c4 + c5 + c6) < 256 := by omega
  have x4 : (c4 + c5 + c6 + c7) < 256 := by omega
  have x5 : (c5 + c6 + c7) < 256 := by omega
  have x6 : (c6 + c7) < 256 := by omega
  have x7 : (c7) < 256 := by omega
  have y0 : (c0 + c1 + c2 + c3 + c4 + c5 + c6 + c7) < 256 := by omega
  have y1 : (c1 + c2 + c3 + c4 + c5 + c6 + c7) < 256 := by omega
  have y2 : (c2 + c3 + c4 + c5 + c6 + c7) < 256 := by omega
  have y3 : (c3 + c4 + c5 + c6 + c7) < 256 := by omega
  have y4 : (c4 + c5 + c6 + c7) < 256 := by omega
  have y5 : (c5 + c6 + c7) < 256 := by omega
  have y6 : (c6 + c7) < 256 := by omega
  have y7 : (c7) < 256 := by omega
  have z : c0 + c1 + c2 + c3 + c4 + c5 + c6 + c7 ≤ 64 := by omega
  intro c d e f hc hd he hf
  subst hc
  rw [xp_dv u0, xp_i1] at hd
  subst hd
  rw [show 65536 = 256 * 256 from rfl, ← Nat.div_div_eq_div_mul, xp_dv v0, xp_dv v1, xp_i2] at he
  subst he
  rw [show 4294967296 = 256 * 256 * 256 * 256 from rfl, ← Nat.div_div_eq_div_mul, ← Nat.div_div_eq_div_mul, ← Nat.div_div_eq_div_mul, xp_dv x0, xp_dv x1, xp_dv x2, xp_dv x3, xp_i3] at hf
  subst hf
  exact ⟨xp_fin z, xp_hl8 u0 u1 u2 u3 u4 u5 u6 u7, xp_hl8 v0 v1 v2 v3 v4 v5 v6 v7, xp_hl8 x0 x1 x2 x3 x4 x5 x6 x7, xp_hl8 y0 y1 y2 y3 y4 y5 y6 y7⟩
theorem xp_M1 : xp_mk 85 8 = 6148914691236517205 := by decide +kernel
theorem xp_M2 : xp_mk 51 8 = 3689348814741910323 := by decide +kernel
theorem xp_M3 : xp_mk 15 8 = 1085102592571150095 := by decide +kernel
theorem xp_P8 : (256 : Nat) ^ 8 = 18446744073709551616 := by decide +kernel
theorem xp_P7 : 69 * (256 : Nat) ^ 7 = 4971973988617027584 := by decide +kernel
theorem xp_b16 {b : Nat} (h : b < 4971973988617027584) : b + b / 16 < 18446744073709551616 := by omega
/-- the whole of it -/
theorem xp_count (n a b c d e f : Nat) (hn : n < 18446744073709551616) (ha : a = n - (n / 2 &&& 6148914691236517205)) (hb : b = (a &&& 3689348814741910323) + (a / 4 &&& 3689348814741910323)) (hc : c = (b + b / 16) &&& 1085102592571150095)
    (hd : d = c + c / 256) (he : e = d + d / 65536) (hf : f = e + e / 4294967296) : f % 128 = xp_pc 64 n ∧ (n / 2 &&& 6148914691236517205) ≤ n ∧ a < 18446744073709551616 ∧ b + b / 16 < 18446744073709551616 ∧ b < 18446744073709551616 ∧ c < 18446744073709551616 ∧ d < 18446744073709551616 ∧ e < 18446744073709551616 ∧ f < 18446744073709551616 := by
  have h1 := xp_s1 8 n (by rw [xp_P8]; exact hn)
  rw [xp_M1] at h1
  have ea : a = xp_bm xp_g1 8 n := by rw [ha]; exact h1.2
  have hal : a < 256 ^ 8 := by rw [ea]; exact xp_bm_lt (fun r h => (xp_g1_lt r h).1) 8 n
  have h2 := xp_s2 8 a hal
  rw [xp_M2, ← hb, ea, xp_bm_bm (fun r h => (xp_g1_lt r h).1)] at h2
  have h3 := (xp_s3 (h := fun r => xp_g2 (xp_g1 r)) (fun r h => xp_g21 r h) 8 n).1
  rw [← h2, xp_M3, ← hc] at h3
  rw [xp_bm_congr (h := xp_pc 8) (fun r h => xp_c r h) 8 n] at h3
  rw [xp_bm_s, xp_bm_s, xp_bm_s, xp_bm_s, xp_bm_s, xp_bm_s, xp_bm_s, xp_bm_s, xp_bm_z] at h3
  have hbl : b < 256 ^ 8 := by rw [h2]; exact xp_bm_lt (fun r h => by have := (xp_g21 r h).1; omega) 8 n
  have hb3 : b < 69 * 256 ^ 7 := by rw [h2]; exact xp_bm_69 (fun r h => (xp_g21 r h).1) 7 n
  rw [xp_P8] at hal hbl
  rw [xp_P7] at hb3
  have hb2 : b + b / 16 < 18446744073709551616 := xp_b16 hb3
  have q : ∀ r, xp_pc 8 (r % 256) ≤ 8 := fun r => xp_pc8 _ (Nat.mod_lt _ (by decide))
  obtain ⟨r1, r2, r3, r4, r5⟩ := xp_sum (q n) (q (n / 256)) (q (n / 256 / 256)) (q (n / 256 / 256 / 256)) (q (n / 256 / 256 / 256 / 256)) (q (n / 256 / 256 / 256 / 256 / 256)) (q (n / 256 / 256 / 256 / 256 / 256 / 256)) (q (n / 256 / 256 / 256 / 256 / 256 / 256 / 256)) _ _ _ _ h3 hd he hf
  exact ⟨r1.trans (xp_pc_bytes n).symm, h1.1, hal, hb2, hbl, r2, r3, r4, r5⟩
end XQ
end
section
/-! A set of cells as rows of 64 bits; how many of them lie in a stretch -/
section XS
def xs_n (S : Nat → Bool) (b : Nat) : Nat → Nat
  | 0 => 0
  | n + 1 => xs_n S b n + (if S (b + n) = true then 2 ^ n else 0)
theorem xs_n_lt (S : Nat → Bool) (b : Nat) : ∀ n, xs_n S b n < 2 ^ n
  | 0 => by simp [xs_n]
  | n + 1 => by
    have := xs_n_lt S b n
    show xs_n S b n + (if S (b + n) = true then 2 ^ n else 0) < 2 ^ (n + 1)
    rw [Nat.pow_succ]
    split <;> omega
theorem xs_n_bit (S : Nat → Bool) (b : Nat) : ∀ n k, (xs_n S b n).testBit k = (decide (k < n) && S (b + k))
  | 0, k => by simp [xs_n]
  | n + 1, k => by
    have hl := xs_n_lt S b n
    have ih := xs_n_bit S b n k
    show (xs_n S b n + (if S (b + n) = true then 2 ^ n else 0)).testBit k = _
    by_cases hS : S (b + n) = true
    · rw [if_pos hS, Nat.add_comm]
      rcases Nat.lt_trichotomy k n with h | h | h
      · rw [Nat.testBit_two_pow_add_gt h, ih]
        simp [h, Nat.lt_succ_of_lt h]
      · subst h
        rw [Nat.testBit_two_pow_add_eq, ih]
        simp [hS]
      · rw [Nat.testBit_lt_two_pow (Nat.lt_of_lt_of_le (show 2 ^ n + xs_n S b n < 2 ^ (n + 1) by rw [Nat.pow_succ]; omega) (Nat.pow_le_pow_right (by decide) h))]
        simp [show ¬ k < n + 1 by omega]
    · rw [if_neg hS, Nat.add_zero, ih]
      by_cases h : k < n
      · simp [h, Nat.lt_succ_of_lt h]
      · by_cases h2 : k = n
        · subst h2
          simp [Bool.not_eq_true] at hS
          simp [hS]
        · simp [h, show ¬ k < n + 1 by omega]
def xs_rows (S : Nat → Bool) : Nat → Int64 := fun j => lN (xs_n S (64 * j) 64)
theorem xs_ext {a b : Nat} (ha : a < 2 ^ 64) (hb : b < 2 ^ 64) (h : ∀ k, k < 64 → a.testBit k = b.testBit k) : a = b := by
  apply Nat.eq_of_testBit_eq
  intro k
  by_cases hk : k < 64
  · exact h k hk
  · rw [Nat.testBit_lt_two_pow (Nat.lt_of_lt_of_le ha (Nat.pow_le_pow_right (by decide) (by omega))), Nat.testBit_lt_two_pow (Nat.lt_of_lt_of_le hb (Nat.pow_le_pow_right (by decide) (by omega)))]
theorem xs_one {k : Nat} (hk : k < 64) : (1 : Int64) <<< ((nI k).toInt64 &&& 63) = lN (2 ^ k) := by
  have := wb_shl 1 hk
  rw [Nat.one_mul] at this
  exact this
theorem xs_and2 (x k : Nat) : x &&& 2 ^ k = if x.testBit k = true then 2 ^ k else 0 := by
  apply Nat.eq_of_testBit_eq
  intro i
  rw [Nat.testBit_and, Nat.testBit_two_pow]
  by_cases h : k = i
  · subst h
    cases x.testBit k
    · simp
    · simp
  · simp only [h, decide_false, Bool.and_false]
    split
    · rw [Nat.testBit_two_pow]; simp [h]
    · simp
theorem xs_has (S : Nat → Bool) {j k : Nat} (hk : k < 64) : lg_cmp (xs_rows S j &&& ((1 : Int64) <<< ((nI k).toInt64 &&& 63))) 0 = 0 ↔ S (64 * j + k) = false := by
  rw [xs_one hk]
  show lg_cmp (lN (xs_n S (64 * j) 64) &&& lN (2 ^ k)) 0 = 0 ↔ _
  have hl := xs_n_lt S (64 * j) 64
  have hp : 2 ^ k < 2 ^ 64 := wb_lt2 hk
  rw [wb_and hl hp, xs_and2, xs_n_bit]
  simp only [hk, decide_true, Bool.true_and]
  cases S (64 * j + k) with
  | false => simp [lg_cmp, lN]
  | true =>
    rw [if_pos rfl]
    constructor
    · intro h
      exfalso
      have h2 : lN (2 ^ k) = 0 := by
        unfold lg_cmp at h
        split at h
        · exact absurd h (by decide)
        · split at h
          · assumption
          · exact absurd h (by decide)
      have h3 := congrArg (fun x : Int64 => x.toBitVec.toNat) h2
      simp only [wb_tn hp] at h3
      have h4 : 0 < 2 ^ k := Nat.two_pow_pos k
      have h5 : (0 : Int64).toBitVec.toNat = 0 := by decide
      omega
    · intro h; cases h
theorem xs_add (S : Nat → Bool) {j k : Nat} (hk : k < 64) : vp_updL (xs_rows S) j (xs_rows S j ||| ((1 : Int64) <<< ((nI k).toInt64 &&& 63))) = xs_rows (va_up S (64 * j + k) true) := by
  funext i
  by_cases hi : i = j
  · subst hi
    rw [xs_one hk]
    simp only [vp_updL, if_pos]
    have hl := xs_n_lt S (64 * i) 64
    have hp : 2 ^ k < 2 ^ 64 := wb_lt2 hk
    show lN (xs_n S (64 * i) 64) ||| lN (2 ^ k) = lN (xs_n (va_up S (64 * i + k) true) (64 * i) 64)
    rw [wb_or hl hp]
    congr 1
    apply xs_ext (Nat.or_lt_two_pow hl hp) (xs_n_lt _ _ _)
    intro q hq
    rw [Nat.testBit_or, xs_n_bit, xs_n_bit, Nat.testBit_two_pow]
    by_cases hqk : k = q
    · subst hqk; simp [va_up, hq]
    · simp [va_up, hq, hqk, show ¬ q = k from fun e => hqk e.symm]
  · simp only [vp_updL, hi, if_false]
    show lN _ = lN _
    congr 1
    apply xs_ext (xs_n_lt _ _ _) (xs_n_lt _ _ _)
    intro q hq
    rw [xs_n_bit, xs_n_bit]
    simp only [va_up]
    rw [if_neg (by omega)]
theorem xs_not (n : Nat) (hn : n < 2 ^ 64) : lN n ^^^ (-1) = lN (2 ^ 64 - 1 - n) := by
  have e : (-1 : Int64) = lN (2 ^ 64 - 1) := by decide
  rw [e, lN_xor]
  congr 1
  apply xs_ext (Nat.xor_lt_two_pow hn (by decide)) (by omega)
  intro q hq
  rw [show 2 ^ 64 - 1 - n = 2 ^ 64 - (n + 1) by omega, Nat.testBit_xor, Nat.testBit_two_pow_sub_one, Nat.testBit_two_pow_sub_succ hn]
  simp [hq]
theorem xs_drop (S : Nat → Bool) {j k : Nat} (hk : k < 64) : vp_updL (xs_rows S) j (xs_rows S j &&& (((1 : Int64) <<< ((nI k).toInt64 &&& 63)) ^^^ (-1))) = xs_rows (va_up S (64 * j + k) false) := by
  funext i
  by_cases hi : i = j
  · subst hi
    have hl := xs_n_lt S (64 * i) 64
    have hp : 2 ^ k < 2 ^ 64 := wb_lt2 hk
    have hq : 2 ^ 64 - 1 - 2 ^ k < 2 ^ 64 := Nat.lt_of_le_of_lt (Nat.sub_le _ _) (by decide)
    rw [xs_one hk, xs_not _ hp]
    simp only [vp_updL, if_pos]
    show lN (xs_n S (64 * i) 64) &&& lN _ = lN (xs_n (va_up S (64 * i + k) false) (64 * i) 64)
    rw [wb_and hl hq]
    congr 1
    apply xs_ext (Nat.and_lt_two_pow _ hq) (xs_n_lt _ _ _)
    intro q hq
    rw [Nat.testBit_and, xs_n_bit, xs_n_bit, show 2 ^ 64 - 1 - 2 ^ k = 2 ^ 64 - (2 ^ k + 1) by omega, Nat.testBit_two_pow_sub_succ hp, Nat.testBit_two_pow]
    by_cases hqk : k = q
    · subst hqk; simp [va_up, hq]
    · simp [va_up, hq, hqk, show ¬ q = k from fun e => hqk e.symm]
  · simp only [vp_updL, hi, if_false]
    show lN _ = lN _
    congr 1
    apply xs_ext (xs_n_lt _ _ _) (xs_n_lt _ _ _)
    intro q hq
    rw [xs_n_bit, xs_n_bit]
    simp only [va_up]
    rw [if_neg (by omega)]
theorem xs_andn (S U : Nat → Bool) (j : Nat) : xs_rows S j &&& (xs_rows U j ^^^ (-1)) = xs_rows (fun i => S i && !U i) j := by
  have h1 := xs_n_lt S (64 * j) 64
  have h2 := xs_n_lt U (64 * j) 64
  show lN _ &&& (lN _ ^^^ (-1)) = lN _
  rw [xs_not _ h2, wb_and h1 (by omega)]
  congr 1
  apply xs_ext (Nat.and_lt_two_pow _ (by omega)) (xs_n_lt _ _ _)
  intro q hq
  rw [Nat.testBit_and, xs_n_bit, xs_n_bit, show 2 ^ 64 - 1 - xs_n U (64 * j) 64 = 2 ^ 64 - (xs_n U (64 * j) 64 + 1) by omega, Nat.testBit_two_pow_sub_succ h2, xs_n_bit]
  simp [hq]
/-- how many of the first n cells are in S -/
def xs_c (S : Nat → Bool) : Nat → Nat
  | 0 => 0
  | n + 1 => xs_c S n + (if S n = true then 1 else 0)
theorem xs_c_le (S : Nat → Bool) : ∀ n, xs_c S n ≤ n
  | 0 => Nat.le_refl 0
  | n + 1 => by
    have := xs_c_le S n
    show xs_c S n + (if S n = true then 1 else 0) ≤ n + 1
    split <;> omega
theorem xs_c_congr {S U : Nat → Bool} : ∀ n, (∀ k, k < n → S k = U k) → xs_c S n = xs_c U n
  | 0, _ => rfl
  | n + 1, h => by
    show xs_c S n + _ = xs_c U n + _
    rw [xs_c_congr n (fun k hk => h k (by omega)), h n (by omega)]
theorem xs_c_add (S : Nat → Bool) (a : Nat) : ∀ n, xs_c S (a + n) = xs_c S a + xs_c (fun k => S (a + k)) n
  | 0 => rfl
  | n + 1 => by
    have e1 : xs_c S (a + (n + 1)) = xs_c S (a + n) + (if S (a + n) = true then 1 else 0) := rfl
    have e2 : xs_c (fun k => S (a + k)) (n + 1) = xs_c (fun k => S (a + k)) n + (if S (a + n) = true then 1 else 0) := rfl
    rw [e1, e2, xs_c_add S a n, Nat.add_assoc]
theorem xs_pc : ∀ (k n : Nat), xp_pc k n = xs_c (fun i => n.testBit i) k
  | 0, n => rfl
  | k + 1, n => by
    have e := xs_c_add (fun i => n.testBit i) 1 k
    rw [Nat.add_comm 1 k] at e
    show n % 2 + xp_pc k (n / 2) = _
    rw [e, xs_pc k (n / 2)]
    congr 1
    · show _ = 0 + (if n.testBit 0 = true then 1 else 0)
      rw [Nat.testBit_zero]
      rcases Nat.mod_two_eq_zero_or_one n with h | h <;> simp [h]
    · apply xs_c_congr
      intro i _
      rw [Nat.testBit_div_two, Nat.add_comm]
end XS
section XS2
theorem xs_has' (S : Nat → Bool) {k : Nat} (hk : k < 256) : lg_cmp (xs_rows S (k / 64) &&& ((1 : Int64) <<< ((nI k &&& 63).toInt64 &&& 63))) 0 = 0 ↔ S k = false := by
  rw [x_and63 (by omega), xs_has S (Nat.mod_lt _ (by decide)), Nat.div_add_mod]
theorem xs_add' (S : Nat → Bool) {k : Nat} (hk : k < 256) : vp_updL (xs_rows S) (k / 64) (xs_rows S (k / 64) ||| ((1 : Int64) <<< ((nI k &&& 63).toInt64 &&& 63))) = xs_rows (va_up S k true) := by
  rw [x_and63 (by omega), xs_add S (Nat.mod_lt _ (by decide)), Nat.div_add_mod]
theorem xs_drop' (S : Nat → Bool) {k : Nat} (hk : k < 256) : vp_updL (xs_rows S) (k / 64) (xs_rows S (k / 64) &&& (((1 : Int64) <<< ((nI k &&& 63).toInt64 &&& 63)) ^^^ (-1))) = xs_rows (va_up S k false) := by
  rw [x_and63 (by omega), xs_drop S (Nat.mod_lt _ (by decide)), Nat.div_add_mod]
/-- the lowest bits -/
def xs_bc (x : Int32) : Nat := min 64 x.toInt.toNat
def xs_bb (x : Int32) : Int64 := lN (2 ^ xs_bc x - 1)
theorem xs_bb0 {x : Int32} (h : ¬ 0 < x) : (0 : Int64) = xs_bb x := by
  rw [Int32.lt_iff_toInt_lt] at h
  have e : (0 : Int32).toInt = 0 := rfl
  have : xs_bc x = 0 := by unfold xs_bc; omega
  unfold xs_bb
  rw [this]
  rfl
theorem xs_bb64 {x : Int32} (h : 64 ≤ x) : (-1 : Int64) = xs_bb x := by
  rw [Int32.le_iff_toInt_le] at h
  have e : (64 : Int32).toInt = 64 := rfl
  have : xs_bc x = 64 := by unfold xs_bc; omega
  unfold xs_bb
  rw [this]
  decide
theorem xs_bbm {x : Int32} (h : 0 < x) (h2 : ¬ 64 ≤ x) : ((1 : Int64) <<< (x.toInt64 &&& 63)) - 1 = xs_bb x := by
  rw [Int32.lt_iff_toInt_lt] at h
  rw [Int32.le_iff_toInt_le] at h2
  have e : (0 : Int32).toInt = 0 := rfl
  have e2 : (64 : Int32).toInt = 64 := rfl
  obtain ⟨k, hk, rfl⟩ := xi_of (x := x) (n := 64) (decide_eq_true (by omega))
  rw [xs_one hk]
  have h3 : xs_bc (nI k) = k := by unfold xs_bc; rw [nI_toInt (by omega)]; omega
  unfold xs_bb
  rw [h3]
  have := lN_sub (a := 2 ^ k) (b := 1) (Nat.two_pow_pos k)
  exact this
/-- how many of S from a on, below b -/
def xs_w (S : Nat → Bool) (a b : Nat) : Nat := xs_c (fun k => S k && (decide (a ≤ k) && decide (k < b))) 256
theorem xs_row (S : Nat → Bool) {a b : Nat} (j : Nat) (ha : a ≤ 512) (hb : b ≤ 512) (hj : j < 4) : ∃ n, n < 18446744073709551616 ∧ (xs_rows S j &&& xs_bb (nI b - nI (64 * j))) &&& (xs_bb (nI a - nI (64 * j)) ^^^ (-1)) = lN n ∧ xp_pc 64 n = xs_c (fun k => (fun k => S k && (decide (a ≤ k) && decide (k < b))) (64 * j + k)) 64 := by
  have h1 := xs_n_lt S (64 * j) 64
  have hp : ∀ x : Int32, 2 ^ xs_bc x - 1 < 2 ^ 64 := fun x => by
    have h2 : xs_bc x ≤ 64 := Nat.min_le_left _ _
    have h3 : 2 ^ xs_bc x ≤ 2 ^ 64 := Nat.pow_le_pow_right (by decide) h2
    have h4 := Nat.two_pow_pos (xs_bc x)
    omega
  have bt : ∀ (c : Nat), c ≤ 512 → ∀ k, k < 64 → (2 ^ xs_bc (nI c - nI (64 * j)) - 1).testBit k = decide (64 * j + k < c) := by
    intro c hc k hk
    rw [Nat.testBit_two_pow_sub_one]
    have e : (nI c - nI (64 * j)).toInt = (c : Int) - ((64 * j : Nat) : Int) := pk_sub_toInt (by omega) (by omega)
    have e2 : xs_bc (nI c - nI (64 * j)) = min 64 (c - 64 * j) := by unfold xs_bc; rw [e]; omega
    rw [e2]
    apply Bool.eq_iff_iff.mpr
    simp only [decide_eq_true_eq]
    omega
  have hx := hp (nI a - nI (64 * j))
  have hy := hp (nI b - nI (64 * j))
  have hz : 2 ^ 64 - 1 - (2 ^ xs_bc (nI a - nI (64 * j)) - 1) < 2 ^ 64 := Nat.lt_of_le_of_lt (Nat.sub_le _ _) (by decide)
  refine ⟨(xs_n S (64 * j) 64 &&& (2 ^ xs_bc (nI b - nI (64 * j)) - 1)) &&& (2 ^ 64 - 1 - (2 ^ xs_bc (nI a - nI (64 * j)) - 1)), Nat.and_lt_two_pow (n := 64) _ hz, ?_, ?_⟩
  · show (lN _ &&& lN _) &&& (lN _ ^^^ (-1)) = lN _
    rw [xs_not _ hx, wb_and h1 hy, wb_and (Nat.and_lt_two_pow _ hy) hz]
  · rw [xs_pc]
    apply xs_c_congr
    intro k hk
    rw [Nat.testBit_and, Nat.testBit_and, xs_n_bit, show 2 ^ 64 - 1 - (2 ^ xs_bc (nI a - nI (64 * j)) - 1) = 2 ^ 64 - ((2 ^ xs_bc (nI a - nI (64 * j)) - 1) + 1) by omega, Nat.testBit_two_pow_sub_succ hx, bt a ha k hk, bt b hb k hk]
    simp only [hk, decide_true, Bool.true_and]
    by_cases h5 : 64 * j + k < a
    · simp [h5, show ¬ a ≤ 64 * j + k by omega]
    · simp [h5, show a ≤ 64 * j + k by omega]
theorem xs_w4 (S : Nat → Bool) (a b : Nat) : xs_w S a b = xs_c (fun k => (fun k => S k && (decide (a ≤ k) && decide (k < b))) (64 * 0 + k)) 64 + xs_c (fun k => (fun k => S k && (decide (a ≤ k) && decide (k < b))) (64 * 1 + k)) 64 + xs_c (fun k => (fun k => S k && (decide (a ≤ k) && decide (k < b))) (64 * 2 + k)) 64 + xs_c (fun k => (fun k => S k && (decide (a ≤ k) && decide (k < b))) (64 * 3 + k)) 64 := by
  unfold xs_w
  generalize (fun k => S k && (decide (a ≤ k) && decide (k < b))) = U
  rw [show 256 = 192 + 64 from rfl, xs_c_add U 192 64, show 192 = 128 + 64 from rfl, xs_c_add U 128 64, show 128 = 64 + 64 from rfl, xs_c_add U 64 64]
  simp only [Nat.mul_zero, Nat.zero_add]
end XS2
end
section
set_option maxHeartbeats 4000000 in
set_option maxRecDepth 100000 in
theorem k_ofNumber (l : Launch) (D : va_G) (cI cJ cS : ClassId) (v : Int32) : xk_Rd l yX3_ofNumber wsX3_ofNumber ({ frames := 0, cells := 0, slots := 0, locals := 0 }) D vwCl (xt cI cJ cS) ([]) [.int v] (some (.long (xw_enc (v, none)))) := by
  refine xk_rd (cc := cX3_ofNumber) (maxL := 1) (ret := (some .long)) (by decide) rfl (Nat.le_of_ble_eq_true rfl) (fun p e s m below meth c ls hx hb hr hlk hml hown hts hl hP hK hN => ?_)
  replace hl : lv_has ls 1 [(0, .int v)] := hl
  refine lv_iload_n hx hb dX3_ofNumber_0 rfl (lv_at hl 0 rfl) ?_
  refine lv_i2l hx hb dX3_ofNumber_1 rfl ?_
  refine lv_ldc2 hx hb hown (hts (.constantLong RX3 11 (4294967295)) (by decide +kernel)) dX3_ofNumber_2 ?_
  refine lv_land hx hb dX3_ofNumber_5 ?_
  exact xk_lretR hx hb hr hlk (xw_ofN v) dX3_ofNumber_6
set_option maxHeartbeats 4000000 in
set_option maxRecDepth 100000 in
theorem k_ofPointer (l : Launch) (D : va_G) (cI cJ cS : ClassId) (f t : Nat) (at_ : Int32) (r : Nat) (hf : f < 512) (ht : t < 512) (hr4 : r < 4) : xk_Rd l yX3_ofPointer wsX3_ofPointer ({ frames := 1, cells := 0, slots := 0, locals := 20 }) D vwCl (xt cI cJ cS) ([]) [.int (nI f), .int (nI t), .int at_, .int (nI r)] (some (.long (xw_enc (at_, some (f, t, r))))) := by
  refine xk_rd (cc := cX3_ofPointer) (maxL := 4) (ret := (some .long)) (by decide) rfl (Nat.le_of_ble_eq_true rfl) (fun p e s m below meth c ls hx hb hr hlk hml hown hts hl hP hK hN => ?_)
  replace hl : lv_has ls 4 [(0, .int (nI f)), (1, .int (nI t)), (2, .int at_), (3, .int (nI r))] := hl
  refine lv_iload_n hx hb dX3_ofPointer_0 rfl (lv_at hl 2 rfl) ?_
  refine xk_callR (va_runS (As := [.int at_]) (rest := []) ⟨hx, hb, hml, hown, hts⟩ (k_ofNumber l D cI cJ cS at_) (va_cwS 1 hts gX3_ofPointer_X3_ofNumber rfl rfl rfl (by decide +kernel) ⟨Nat.le_of_ble_eq_true rfl, Nat.le_of_ble_eq_true rfl⟩) (xk_preSr hK hN hP [] rfl) rfl rfl hl.1 rfl (lv_room (Nat.le_of_ble_eq_true rfl)) dX3_ofPointer_1 ⟨Nat.zero_le _, Nat.zero_le _⟩) ?_
  refine lv_iload_n hx hb dX3_ofPointer_4 rfl (lv_at hl 0 rfl) ?_
  refine lv_i2l hx hb dX3_ofPointer_5 rfl ?_
  refine lv_bipush (v := 32) hx hb dX3_ofPointer_6 (by decide) ?_
  refine lv_lshl hx hb dX3_ofPointer_8 rfl ?_
  refine lv_lor hx hb dX3_ofPointer_9 ?_
  refine lv_iload_n hx hb dX3_ofPointer_10 rfl (lv_at hl 1 rfl) ?_
  refine lv_i2l hx hb dX3_ofPointer_11 rfl ?_
  refine lv_bipush (v := 41) hx hb dX3_ofPointer_12 (by decide) ?_
  refine lv_lshl hx hb dX3_ofPointer_14 rfl ?_
  refine lv_lor hx hb dX3_ofPointer_15 ?_
  refine lv_iload_n hx hb dX3_ofPointer_16 rfl (lv_at hl 3 rfl) ?_
  refine lv_i2l hx hb dX3_ofPointer_17 rfl ?_
  refine lv_bipush (v := 50) hx hb dX3_ofPointer_18 (by decide) ?_
  refine lv_lshl hx hb dX3_ofPointer_20 rfl ?_
  refine lv_lor hx hb dX3_ofPointer_21 ?_
  refine lv_ldc2 hx hb hown (hts (.constantLong RX3 17 (4503599627370496)) (by decide +kernel)) dX3_ofPointer_22 ?_
  refine lv_lor hx hb dX3_ofPointer_25 ?_
  exact xk_lretR hx hb hr hlk (xw_ofP at_ hf ht hr4) dX3_ofPointer_26
set_option maxHeartbeats 4000000 in
set_option maxRecDepth 100000 in
theorem k_at (l : Launch) (D : va_G) (cI cJ cS : ClassId) (w : xw) (hw : xw_ok w) : xk_Rd l yX3_at wsX3_at ({ frames := 0, cells := 0, slots := 0, locals := 0 }) D vwCl (xt cI cJ cS) ([]) [.long (xw_enc w)] (some (.int w.1)) := by
  refine xk_rd (cc := cX3_at) (maxL := 2) (ret := (some .int)) (by decide) rfl (Nat.le_of_ble_eq_true rfl) (fun p e s m below meth c ls hx hb hr hlk hml hown hts hl hP hK hN => ?_)
  replace hl : lv_has ls 2 [(0, .long (xw_enc w))] := hl
  refine lv_lload_n hx hb dX3_at_0 rfl (lv_at hl 0 rfl) ?_
  refine lv_l2i hx hb dX3_at_1 rfl ?_
  exact xk_iretR hx hb hr hlk (xw_at hw) dX3_at_2
set_option maxHeartbeats 4000000 in
set_option maxRecDepth 100000 in
theorem k_from (l : Launch) (D : va_G) (cI cJ cS : ClassId) (w : xw) (hw : xw_ok w) : xk_Rd l yX3_from wsX3_from ({ frames := 0, cells := 0, slots := 0, locals := 0 }) D vwCl (xt cI cJ cS) ([]) [.long (xw_enc w)] (some (.int (nI (xw_f w)))) := by
  refine xk_rd (cc := cX3_from) (maxL := 2) (ret := (some .int)) (by decide) rfl (Nat.le_of_ble_eq_true rfl) (fun p e s m below meth c ls hx hb hr hlk hml hown hts hl hP hK hN => ?_)
  replace hl : lv_has ls 2 [(0, .long (xw_enc w))] := hl
  refine lv_lload_n hx hb dX3_from_0 rfl (lv_at hl 0 rfl) ?_
  refine lv_bipush (v := 32) hx hb dX3_from_1 (by decide) ?_
  refine lv_lushr hx hb dX3_from_3 rfl ?_
  refine lv_l2i hx hb dX3_from_4 rfl ?_
  refine lv_sipush (v := 511) hx hb dX3_from_5 (by decide) ?_
  refine lv_iand hx hb dX3_from_8 ?_
  exact xk_iretR hx hb hr hlk (xw_from hw) dX3_from_9
set_option maxHeartbeats 4000000 in
set_option maxRecDepth 100000 in
theorem k_to (l : Launch) (D : va_G) (cI cJ cS : ClassId) (w : xw) (hw : xw_ok w) : xk_Rd l yX3_to wsX3_to ({ frames := 0, cells := 0, slots := 0, locals := 0 }) D vwCl (xt cI cJ cS) ([]) [.long (xw_enc w)] (some (.int (nI (xw_t w)))) := by
  refine xk_rd (cc := cX3_to) (maxL := 2) (ret := (some .int)) (by decide) rfl (Nat.le_of_ble_eq_true rfl) (fun p e s m below meth c ls hx hb hr hlk hml hown hts hl hP hK hN => ?_)
  replace hl : lv_has ls 2 [(0, .long (xw_enc w))] := hl
  refine lv_lload_n hx hb dX3_to_0 rfl (lv_at hl 0 rfl) ?_
  refine lv_bipush (v := 41) hx hb dX3_to_1 (by decide) ?_
  refine lv_lushr hx hb dX3_to_3 rfl ?_
  refine lv_l2i hx hb dX3_to_4 rfl ?_
  refine lv_sipush (v := 511) hx hb dX3_to_5 (by decide) ?_
  refine lv_iand hx hb dX3_to_8 ?_
  exact xk_iretR hx hb hr hlk (xw_to hw) dX3_to_9
set_option maxHeartbeats 4000000 in
set_option maxRecDepth 100000 in
theorem k_rights (l : Launch) (D : va_G) (cI cJ cS : ClassId) (w : xw) (hw : xw_ok w) : xk_Rd l yX3_rights wsX3_rights ({ frames := 0, cells := 0, slots := 0, locals := 0 }) D vwCl (xt cI cJ cS) ([]) [.long (xw_enc w)] (some (.int (nI (xw_r w)))) := by
  refine xk_rd (cc := cX3_rights) (maxL := 2) (ret := (some .int)) (by decide) rfl (Nat.le_of_ble_eq_true rfl) (fun p e s m below meth c ls hx hb hr hlk hml hown hts hl hP hK hN => ?_)
  replace hl : lv_has ls 2 [(0, .long (xw_enc w))] := hl
  refine lv_lload_n hx hb dX3_rights_0 rfl (lv_at hl 0 rfl) ?_
  refine lv_bipush (v := 50) hx hb dX3_rights_1 (by decide) ?_
  refine lv_lushr hx hb dX3_rights_3 rfl ?_
  refine lv_l2i hx hb dX3_rights_4 rfl ?_
  refine lv_iconst (v := 3) hx hb dX3_rights_5 (by decide) ?_
  refine lv_iand hx hb dX3_rights_6 ?_
  exact xk_iretR hx hb hr hlk (xw_rights hw) dX3_rights_7
set_option maxHeartbeats 4000000 in
set_option maxRecDepth 100000 in
theorem k_isPointer (l : Launch) (D : va_G) (cI cJ cS : ClassId) (w : xw) (hw : xw_ok w) : xk_Rd l yX3_isPointer wsX3_isPointer ({ frames := 0, cells := 0, slots := 0, locals := 0 }) D vwCl (xt cI cJ cS) ([]) [.long (xw_enc w)] (some (.int (xb (xw_p w)))) := by
  refine xk_rd (cc := cX3_isPointer) (maxL := 2) (ret := (some .boolean)) (by decide) rfl (Nat.le_of_ble_eq_true rfl) (fun p e s m below meth c ls hx hb hr hlk hml hown hts hl hP hK hN => ?_)
  replace hl : lv_has ls 2 [(0, .long (xw_enc w))] := hl
  refine lv_lload_n hx hb dX3_isPointer_0 rfl (lv_at hl 0 rfl) ?_
  refine lv_bipush (v := 52) hx hb dX3_isPointer_1 (by decide) ?_
  refine lv_lushr hx hb dX3_isPointer_3 rfl ?_
  refine lv_lconst (v := 0) hx hb dX3_isPointer_4 (by decide) ?_
  refine W.lcmp hx hb dX3_isPointer_5 ?_
  refine lv_if_eq (tgt := 13) hx hb dX3_isPointer_6 (by decide) (fun c_6 => ?_) (fun c_6 => ?_)
  · skip
    refine lv_iconst (v := 0) hx hb dX3_isPointer_13 (by decide) ?_
    exact xk_zretR hx hb hr hlk rfl (xb_p0 (xw_isP hw) c_6) dX3_isPointer_14
  · skip
    refine lv_iconst (v := 1) hx hb dX3_isPointer_9 (by decide) ?_
    refine lv_goto (tgt := 14) hx hb dX3_isPointer_10 (by decide) ?_
    exact xk_zretR hx hb hr hlk rfl (xb_p1 (xw_isP hw) c_6) dX3_isPointer_14
set_option maxHeartbeats 4000000 in
set_option maxRecDepth 100000 in
theorem k_covers (l : Launch) (D : va_G) (cI cJ cS : ClassId) (w : xw) (hw : xw_ok w) (d n : Int32) : xk_Rd l yX3_covers wsX3_covers ({ frames := 1, cells := 0, slots := 0, locals := 21 }) D vwCl (xt cI cJ cS) ([]) [.long (xw_enc w), .int d, .int n] (some (.int (xb (xw_cov w d n)))) := by
  refine xk_rd (cc := cX3_covers) (maxL := 6) (ret := (some .boolean)) (by decide) rfl (Nat.le_of_ble_eq_true rfl) (fun p e s m below meth c ls hx hb hr hlk hml hown hts hl hP hK hN => ?_)
  replace hl : lv_has ls 6 [(0, .long (xw_enc w)), (2, .int d), (3, .int n)] := hl
  refine lv_lload_n hx hb dX3_covers_0 rfl (lv_at hl 0 rfl) ?_
  refine xk_callR (va_runS (As := [.long (xw_enc w)]) (rest := []) ⟨hx, hb, hml, hown, hts⟩ (k_at l D cI cJ cS w hw ) (va_cwS 1 hts gX3_covers_X3_at rfl rfl rfl (by decide +kernel) ⟨Nat.le_of_ble_eq_true rfl, Nat.le_of_ble_eq_true rfl⟩) (xk_preSr hK hN hP [] rfl) rfl rfl hl.1 rfl (lv_room (Nat.le_of_ble_eq_true rfl)) dX3_covers_1 ⟨Nat.zero_le _, Nat.zero_le _⟩) ?_
  refine lv_i2l hx hb dX3_covers_4 rfl ?_
  refine lv_iload_n hx hb dX3_covers_5 rfl (lv_at hl 1 rfl) ?_
  refine lv_i2l hx hb dX3_covers_6 rfl ?_
  refine lv_ladd hx hb dX3_covers_7 ?_
  refine lv_lstore (lv' := [(4, .long ((w.1 : Int32).toInt64 + (d : Int32).toInt64)), (0, .long (xw_enc w)), (2, .int d), (3, .int n)]) hx hb dX3_covers_8 hl (by decide) rfl (fun ls hl => ?_)
  refine lv_lload hx hb dX3_covers_10 (lv_at hl 0 rfl) ?_
  refine lv_lload_n hx hb dX3_covers_12 rfl (lv_at hl 1 rfl) ?_
  refine xk_callR (va_runS (As := [.long (xw_enc w)]) (rest := [.long ((w.1 : Int32).toInt64 + (d : Int32).toInt64)]) ⟨hx, hb, hml, hown, hts⟩ (k_from l D cI cJ cS w hw ) (va_cwS 1 hts gX3_covers_X3_from rfl rfl rfl (by decide +kernel) ⟨Nat.le_of_ble_eq_true rfl, Nat.le_of_ble_eq_true rfl⟩) (xk_preSr hK hN hP [] rfl) rfl rfl hl.1 rfl (lv_room (Nat.le_of_ble_eq_true rfl)) dX3_covers_13 ⟨Nat.zero_le _, Nat.zero_le _⟩) ?_
  refine lv_i2l hx hb dX3_covers_16 rfl ?_
  refine W.lcmp hx hb dX3_covers_17 ?_
  refine lv_if_lt (tgt := 39) hx hb dX3_covers_18 (by decide) (fun c_18 => ?_) (fun c_18 => ?_)
  · skip
    refine lv_iconst (v := 0) hx hb dX3_covers_39 (by decide) ?_
    exact xk_zretR hx hb hr hlk rfl (xb_00 (xw_cov_lt hw c_18)) dX3_covers_40
  · skip
    refine lv_lload hx hb dX3_covers_21 (lv_at hl 0 rfl) ?_
    refine lv_iload_n hx hb dX3_covers_23 rfl (lv_at hl 3 rfl) ?_
    refine lv_i2l hx hb dX3_covers_24 rfl ?_
    refine lv_ladd hx hb dX3_covers_25 ?_
    refine lv_lload_n hx hb dX3_covers_26 rfl (lv_at hl 1 rfl) ?_
    refine xk_callR (va_runS (As := [.long (xw_enc w)]) (rest := [.long (((w.1 : Int32).toInt64 + (d : Int32).toInt64) + (n : Int32).toInt64)]) ⟨hx, hb, hml, hown, hts⟩ (k_to l D cI cJ cS w hw ) (va_cwS 1 hts gX3_covers_X3_to rfl rfl rfl (by decide +kernel) ⟨Nat.le_of_ble_eq_true rfl, Nat.le_of_ble_eq_true rfl⟩) (xk_preSr hK hN hP [] rfl) rfl rfl hl.1 rfl (lv_room (Nat.le_of_ble_eq_true rfl)) dX3_covers_27 ⟨Nat.zero_le _, Nat.zero_le _⟩) ?_
    refine lv_i2l hx hb dX3_covers_30 rfl ?_
    refine W.lcmp hx hb dX3_covers_31 ?_
    refine lv_if_gt (tgt := 39) hx hb dX3_covers_32 (by decide) (fun c_32 => ?_) (fun c_32 => ?_)
    · skip
      refine lv_iconst (v := 0) hx hb dX3_covers_39 (by decide) ?_
      exact xk_zretR hx hb hr hlk rfl (xb_00 (xw_cov_gt hw c_32)) dX3_covers_40
    · skip
      refine lv_iconst (v := 1) hx hb dX3_covers_35 (by decide) ?_
      refine lv_goto (tgt := 40) hx hb dX3_covers_36 (by decide) ?_
      exact xk_zretR hx hb hr hlk rfl (xb_1 (xw_cov_in hw c_18 c_32)) dX3_covers_40
set_option maxHeartbeats 4000000 in
set_option maxRecDepth 100000 in
theorem k_isCell (l : Launch) (D : va_G) (cI cJ cS : ClassId) (x : Int32) : xk_Rd l yX4_isCell wsX4_isCell ({ frames := 0, cells := 0, slots := 0, locals := 0 }) D vwCl (xt cI cJ cS) ([]) [.int x] (some (.int (xb (xi x 256)))) := by
  refine xk_rd (cc := cX4_isCell) (maxL := 1) (ret := (some .boolean)) (by decide) rfl (Nat.le_of_ble_eq_true rfl) (fun p e s m below meth c ls hx hb hr hlk hml hown hts hl hP hK hN => ?_)
  replace hl : lv_has ls 1 [(0, .int x)] := hl
  refine lv_iload_n hx hb dX4_isCell_0 rfl (lv_at hl 0 rfl) ?_
  refine lv_if_lt (tgt := 15) hx hb dX4_isCell_1 (by decide) (fun c_1 => ?_) (fun c_1 => ?_)
  · skip
    refine lv_iconst (v := 0) hx hb dX4_isCell_15 (by decide) ?_
    exact xk_zretR hx hb hr hlk rfl (xb_00 (xi_lt c_1)) dX4_isCell_16
  · skip
    refine lv_iload_n hx hb dX4_isCell_4 rfl (lv_at hl 0 rfl) ?_
    refine lv_sipush (v := 256) hx hb dX4_isCell_5 (by decide) ?_
    refine lv_icmp_ge (tgt := 15) hx hb dX4_isCell_8 (by decide) (fun c_8 => ?_) (fun c_8 => ?_)
    · skip
      refine lv_iconst (v := 0) hx hb dX4_isCell_15 (by decide) ?_
      exact xk_zretR hx hb hr hlk rfl (xb_00 (xi_ge rfl c_8)) dX4_isCell_16
    · skip
      refine lv_iconst (v := 1) hx hb dX4_isCell_11 (by decide) ?_
      refine lv_goto (tgt := 16) hx hb dX4_isCell_12 (by decide) ?_
      exact xk_zretR hx hb hr hlk rfl (xb_1 (xi_in rfl c_1 c_8)) dX4_isCell_16
set_option maxHeartbeats 4000000 in
set_option maxRecDepth 100000 in
theorem k_isRegister (l : Launch) (D : va_G) (cI cJ cS : ClassId) (x : Int32) : xk_Rd l yX4_isRegister wsX4_isRegister ({ frames := 0, cells := 0, slots := 0, locals := 0 }) D vwCl (xt cI cJ cS) ([]) [.int x] (some (.int (xb (xi x 8)))) := by
  refine xk_rd (cc := cX4_isRegister) (maxL := 1) (ret := (some .boolean)) (by decide) rfl (Nat.le_of_ble_eq_true rfl) (fun p e s m below meth c ls hx hb hr hlk hml hown hts hl hP hK hN => ?_)
  replace hl : lv_has ls 1 [(0, .int x)] := hl
  refine lv_iload_n hx hb dX4_isRegister_0 rfl (lv_at hl 0 rfl) ?_
  refine lv_if_lt (tgt := 14) hx hb dX4_isRegister_1 (by decide) (fun c_1 => ?_) (fun c_1 => ?_)
  · skip
    refine lv_iconst (v := 0) hx hb dX4_isRegister_14 (by decide) ?_
    exact xk_zretR hx hb hr hlk rfl (xb_00 (xi_lt c_1)) dX4_isRegister_15
  · skip
    refine lv_iload_n hx hb dX4_isRegister_4 rfl (lv_at hl 0 rfl) ?_
    refine lv_bipush (v := 8) hx hb dX4_isRegister_5 (by decide) ?_
    refine lv_icmp_ge (tgt := 14) hx hb dX4_isRegister_7 (by decide) (fun c_7 => ?_) (fun c_7 => ?_)
    · skip
      refine lv_iconst (v := 0) hx hb dX4_isRegister_14 (by decide) ?_
      exact xk_zretR hx hb hr hlk rfl (xb_00 (xi_ge rfl c_7)) dX4_isRegister_15
    · skip
      refine lv_iconst (v := 1) hx hb dX4_isRegister_10 (by decide) ?_
      refine lv_goto (tgt := 15) hx hb dX4_isRegister_11 (by decide) ?_
      exact xk_zretR hx hb hr hlk rfl (xb_1 (xi_in rfl c_1 c_7)) dX4_isRegister_15
set_option maxHeartbeats 4000000 in
set_option maxRecDepth 100000 in
theorem k_oneIf (l : Launch) (D : va_G) (cI cJ cS : ClassId) (b : Bool) : xk_Rd l yX4_oneIf wsX4_oneIf ({ frames := 0, cells := 0, slots := 0, locals := 0 }) D vwCl (xt cI cJ cS) ([]) [.int (xb b)] (some (.int (xb b))) := by
  refine xk_rd (cc := cX4_oneIf) (maxL := 1) (ret := (some .int)) (by decide) rfl (Nat.le_of_ble_eq_true rfl) (fun p e s m below meth c ls hx hb hr hlk hml hown hts hl hP hK hN => ?_)
  replace hl : lv_has ls 1 [(0, .int (xb b))] := hl
  refine lv_iload_n hx hb dX4_oneIf_0 rfl (lv_at hl 0 rfl) ?_
  refine lv_if_eq (tgt := 8) hx hb dX4_oneIf_1 (by decide) (fun c_1 => ?_) (fun c_1 => ?_)
  · skip
    refine lv_iconst (v := 0) hx hb dX4_oneIf_8 (by decide) ?_
    exact xk_iretR hx hb hr hlk c_1.symm dX4_oneIf_9
  · skip
    refine lv_iconst (v := 1) hx hb dX4_oneIf_4 (by decide) ?_
    refine lv_goto (tgt := 9) hx hb dX4_oneIf_5 (by decide) ?_
    exact xk_iretR hx hb hr hlk (xb_p1 xb_0 c_1) dX4_oneIf_9
end
section
/-! Small rows for the class's maps: a cell's contents by another function, System.arraycopy, bitCount's steps -/
section XC
variable {D : va_G} {cl : List vw_C} {H : Heap}
theorem xk_Df {A : Nat → Prop} {ws ws' : va_W} (hD : va_D A ws) (h : ws'.map (fun x => x.1) = ws.map (fun x => x.1)) : va_D A ws' := xk_Dfst h hD
theorem xk_Pset {ws : va_W} (hP : va_P D cl ws H) (k : Nat) {a : Nat} {e0 e : va_E} (hk : ws[k]? = some (a, e0)) (he : va_at D cl (a, e0) H → va_at D cl (a, e) H) : va_P D cl (ws.set k (a, e)) H := by
  intro i q hq
  by_cases hik : k = i
  · subst hik
    rw [List.getElem?_set_self (List.getElem?_eq_some_iff.mp hk).1] at hq
    cases hq
    exact he (hP k _ hk)
  · rw [List.getElem?_set_ne hik] at hq
    exact hP i q hq
theorem xk_ofFn {n : Nat} {f g : Nat → Value} (h : ∀ j, j < n → f j = g j) (cA : ClassId) : arrV cA n f = arrV cA n g := by
  unfold arrV
  congr 1
  apply Array.ext
  · simp
  · intro i h1 h2
    simp only [Array.getElem_ofFn]
    exact h i (by simpa using h1)
theorem xk_atL {a n : Nat} {cA : ClassId} {f g : Nat → Int64} (h : ∀ j, j < n → f j = g j) : va_at D cl (a, .inl (cA, n, .inr (.inl f))) H → va_at D cl (a, .inl (cA, n, .inr (.inl g))) H := by
  intro h1
  show H[a]? = some (arrV cA n (fun j => .long (g j)))
  rw [← xk_ofFn (f := fun j => .long (f j)) (fun j hj => by rw [h j hj]) cA]
  exact h1
theorem xk_atI {a n : Nat} {cA : ClassId} {f g : Nat → Int32} (h : ∀ j, j < n → f j = g j) : va_at D cl (a, .inl (cA, n, .inl f)) H → va_at D cl (a, .inl (cA, n, .inl g)) H := by
  intro h1
  show H[a]? = some (arrV cA n (fun j => .int (g j)))
  rw [← xk_ofFn (f := fun j => .int (f j)) (fun j hj => by rw [h j hj]) cA]
  exact h1
theorem x_cpy {α : Type} {f g : Nat → α} {n : Int32} {N : Nat} (hn : n.toNatClampNeg = N) (j : Nat) (hj : j < N) : va_cpy f g (0 : Int32).toNatClampNeg (0 : Int32).toNatClampNeg n.toNatClampNeg j = f j := by
  have e0 : (0 : Int32).toNatClampNeg = 0 := rfl
  rw [e0, hn]
  unfold va_cpy
  rw [if_pos ⟨Nat.zero_le _, by omega⟩]
  simp
def xs_mix (S T : Nat → Bool) (k : Nat) : Nat → Int64 := fun i => if i < k then xs_rows T i else xs_rows S i
theorem xs_mix_0 (S T : Nat → Bool) : xs_mix S T 0 = xs_rows S := by funext i; simp [xs_mix]
theorem xs_mix_s (S T : Nat → Bool) (k : Nat) : vp_updL (xs_mix S T k) k (xs_rows T k) = xs_mix S T (k + 1) := by
  funext i
  by_cases h : i = k
  · subst h; simp [vp_updL, xs_mix]
  · by_cases h2 : i < k
    · simp [vp_updL, xs_mix, h, h2, show i < k + 1 by omega]
    · simp [vp_updL, xs_mix, h, h2, show ¬ i < k + 1 by omega]
theorem xs_mix_at (S T : Nat → Bool) (k : Nat) : xs_mix S T k k = xs_rows S k := by simp [xs_mix]
theorem xs_mix_and (S U : Nat → Bool) (k : Nat) : xs_mix S (fun i => S i && !U i) k k &&& (xs_rows U k ^^^ (-1)) = xs_rows (fun i => S i && !U i) k := by
  rw [xs_mix_at, xs_andn]
theorem xs_mix_and2 (S : Nat → Bool) (k : Nat) : xs_mix S (fun i => S i && !S i) k k &&& (xs_mix S (fun i => S i && !S i) k k ^^^ (-1)) = xs_rows (fun i => S i && !S i) k := by
  rw [xs_mix_at, xs_andn]
theorem xs_mix_4 (S T : Nat → Bool) (j : Nat) (hj : j < 4) : xs_mix S T 4 j = xs_rows T j := by simp [xs_mix, hj]
theorem xp_E1 {n a : Nat} (hn : n < 18446744073709551616) (ha : a = n - (n / 2 &&& 6148914691236517205)) (hle : (n / 2 &&& 6148914691236517205) ≤ n) : lN n - (((lN n).toUInt64 >>> ((1 : Int32).toInt64.toUInt64 &&& Int64.toUInt64 63)).toInt64 &&& 6148914691236517205) = lN a := by
  have e := wb_shr (n := n) (k := 1) hn (by decide)
  rw [show (1 : Int32) = nI 1 from rfl, e, show (2 : Nat) ^ 1 = 2 from rfl, show (6148914691236517205 : Int64) = lN 6148914691236517205 from rfl, wb_and (by omega) (by decide), lN_sub hle, ha]
theorem xp_E2 {a b : Nat} (h : a < 18446744073709551616) (hb : b = (a &&& 3689348814741910323) + (a / 4 &&& 3689348814741910323)) : (lN a &&& 3689348814741910323) + (((lN a).toUInt64 >>> ((2 : Int32).toInt64.toUInt64 &&& Int64.toUInt64 63)).toInt64 &&& 3689348814741910323) = lN b := by
  have e := wb_shr (n := a) (k := 2) h (by decide)
  rw [show (2 : Int32) = nI 2 from rfl, e, show (2 : Nat) ^ 2 = 4 from rfl, show (3689348814741910323 : Int64) = lN 3689348814741910323 from rfl, wb_and h (by decide), wb_and (by omega) (by decide), lN_add, hb]
theorem xp_E3 {b c : Nat} (h : b < 18446744073709551616) (h2 : b + b / 16 < 18446744073709551616) (hc : c = (b + b / 16) &&& 1085102592571150095) : (lN b + ((lN b).toUInt64 >>> ((4 : Int32).toInt64.toUInt64 &&& Int64.toUInt64 63)).toInt64) &&& 1085102592571150095 = lN c := by
  have e := wb_shr (n := b) (k := 4) h (by decide)
  rw [show (4 : Int32) = nI 4 from rfl, e, show (2 : Nat) ^ 4 = 16 from rfl, lN_add, show (1085102592571150095 : Int64) = lN 1085102592571150095 from rfl, wb_and h2 (by decide), hc]
theorem xp_E4 {c d k q : Nat} {K : Int32} (h : c < 18446744073709551616) (hK : K = nI k) (hk : k < 64) (hq : 2 ^ k = q) (hd : d = c + c / q) : lN c + ((lN c).toUInt64 >>> (K.toInt64.toUInt64 &&& Int64.toUInt64 63)).toInt64 = lN d := by
  have e := wb_shr (n := c) (k := k) h hk
  rw [hK, e, hq, lN_add, hd]
theorem xp_E7 {f N : Nat} (h : f % 128 = N) : (lN f).toInt32 &&& 127 = nI N := by
  rw [lN_i, pk_and (nI f) 7 (by decide)]
  congr 1
  have e : (nI f).toBitVec.toNat = f % 4294967296 := by
    show (BitVec.ofNat 32 f).toNat = _
    rw [BitVec.toNat_ofNat]
  rw [e]
  omega
end XC
end
section
set_option maxHeartbeats 4000000 in
set_option maxRecDepth 100000 in
theorem k_bitCount (l : Launch) (D : va_G) (cI cJ cS : ClassId) (n : Nat) (hn : n < 18446744073709551616) : xk_Rd l yJ13_bitCount_95d88 wsJ13_bitCount_95d88 ({ frames := 0, cells := 0, slots := 0, locals := 0 }) D vwCl (xt cI cJ cS) ([]) [.long (lN n)] (some (.int (nI (xp_pc 64 n)))) := by
  refine xk_rd (cc := cJ13_bitCount_95d88) (maxL := 2) (ret := (some .int)) (by decide) rfl (Nat.le_of_ble_eq_true rfl) (fun p e s m below meth c ls hx hb hr hlk hml hown hts hl hP hK hN => ?_)
  replace hl : lv_has ls 2 [(0, .long (lN n))] := hl
  obtain ⟨na, ha⟩ : ∃ x, x = n - (n / 2 &&& 6148914691236517205) := ⟨_, rfl⟩
  obtain ⟨nb, hb1⟩ : ∃ x, x = (na &&& 3689348814741910323) + (na / 4 &&& 3689348814741910323) := ⟨_, rfl⟩
  obtain ⟨nc, hc1⟩ : ∃ x, x = (nb + nb / 16) &&& 1085102592571150095 := ⟨_, rfl⟩
  obtain ⟨nd, hd1⟩ : ∃ x, x = nc + nc / 256 := ⟨_, rfl⟩
  obtain ⟨ne, he1⟩ : ∃ x, x = nd + nd / 65536 := ⟨_, rfl⟩
  obtain ⟨nf, hf1⟩ : ∃ x, x = ne + ne / 4294967296 := ⟨_, rfl⟩
  obtain ⟨r1, r2, r3, r4, r5, r6, r7, r8, r9⟩ := xp_count n na nb nc nd ne nf hn ha hb1 hc1 hd1 he1 hf1
  refine lv_lload_n hx hb dJ13_bitCount_95d88_0 rfl (lv_at hl 0 rfl) ?_
  refine lv_lload_n hx hb dJ13_bitCount_95d88_1 rfl (lv_at hl 0 rfl) ?_
  refine lv_iconst (v := 1) hx hb dJ13_bitCount_95d88_2 (by decide) ?_
  refine lv_lushr hx hb dJ13_bitCount_95d88_3 rfl ?_
  refine lv_ldc2 hx hb hown (hts (.constantLong RJ13 314 (6148914691236517205)) (by decide +kernel)) dJ13_bitCount_95d88_4 ?_
  refine lv_land hx hb dJ13_bitCount_95d88_7 ?_
  refine lv_lsub hx hb dJ13_bitCount_95d88_8 ?_
  refine lv_topl (fun y ey => ?_)
  obtain rfl : y = lN na := ey.trans (xp_E1 hn ha r2)
  refine lv_lstore_n (lv' := [(0, .long (lN na))]) hx hb dJ13_bitCount_95d88_9 rfl hl (by decide) rfl (fun ls hl => ?_)
  refine lv_lload_n hx hb dJ13_bitCount_95d88_10 rfl (lv_at hl 0 rfl) ?_
  refine lv_ldc2 hx hb hown (hts (.constantLong RJ13 316 (3689348814741910323)) (by decide +kernel)) dJ13_bitCount_95d88_11 ?_
  refine lv_land hx hb dJ13_bitCount_95d88_14 ?_
  refine lv_lload_n hx hb dJ13_bitCount_95d88_15 rfl (lv_at hl 0 rfl) ?_
  refine lv_iconst (v := 2) hx hb dJ13_bitCount_95d88_16 (by decide) ?_
  refine lv_lushr hx hb dJ13_bitCount_95d88_17 rfl ?_
  refine lv_ldc2 hx hb hown (hts (.constantLong RJ13 316 (3689348814741910323)) (by decide +kernel)) dJ13_bitCount_95d88_18 ?_
  refine lv_land hx hb dJ13_bitCount_95d88_21 ?_
  refine lv_ladd hx hb dJ13_bitCount_95d88_22 ?_
  refine lv_topl (fun y ey => ?_)
  obtain rfl : y = lN nb := ey.trans (xp_E2 r3 hb1)
  refine lv_lstore_n (lv' := [(0, .long (lN nb))]) hx hb dJ13_bitCount_95d88_23 rfl hl (by decide) rfl (fun ls hl => ?_)
  refine lv_lload_n hx hb dJ13_bitCount_95d88_24 rfl (lv_at hl 0 rfl) ?_
  refine lv_lload_n hx hb dJ13_bitCount_95d88_25 rfl (lv_at hl 0 rfl) ?_
  refine lv_iconst (v := 4) hx hb dJ13_bitCount_95d88_26 (by decide) ?_
  refine lv_lushr hx hb dJ13_bitCount_95d88_27 rfl ?_
  refine lv_ladd hx hb dJ13_bitCount_95d88_28 ?_
  refine lv_ldc2 hx hb hown (hts (.constantLong RJ13 318 (1085102592571150095)) (by decide +kernel)) dJ13_bitCount_95d88_29 ?_
  refine lv_land hx hb dJ13_bitCount_95d88_32 ?_
  refine lv_topl (fun y ey => ?_)
  obtain rfl : y = lN nc := ey.trans (xp_E3 r5 r4 hc1)
  refine lv_lstore_n (lv' := [(0, .long (lN nc))]) hx hb dJ13_bitCount_95d88_33 rfl hl (by decide) rfl (fun ls hl => ?_)
  refine lv_lload_n hx hb dJ13_bitCount_95d88_34 rfl (lv_at hl 0 rfl) ?_
  refine lv_lload_n hx hb dJ13_bitCount_95d88_35 rfl (lv_at hl 0 rfl) ?_
  refine lv_bipush (v := 8) hx hb dJ13_bitCount_95d88_36 (by decide) ?_
  refine lv_lushr hx hb dJ13_bitCount_95d88_38 rfl ?_
  refine lv_ladd hx hb dJ13_bitCount_95d88_39 ?_
  refine lv_topl (fun y ey => ?_)
  obtain rfl : y = lN nd := ey.trans (xp_E4 (k := 8) r6 rfl (by decide) (by decide) hd1)
  refine lv_lstore_n (lv' := [(0, .long (lN nd))]) hx hb dJ13_bitCount_95d88_40 rfl hl (by decide) rfl (fun ls hl => ?_)
  refine lv_lload_n hx hb dJ13_bitCount_95d88_41 rfl (lv_at hl 0 rfl) ?_
  refine lv_lload_n hx hb dJ13_bitCount_95d88_42 rfl (lv_at hl 0 rfl) ?_
  refine lv_bipush (v := 16) hx hb dJ13_bitCount_95d88_43 (by decide) ?_
  refine lv_lushr hx hb dJ13_bitCount_95d88_45 rfl ?_
  refine lv_ladd hx hb dJ13_bitCount_95d88_46 ?_
  refine lv_topl (fun y ey => ?_)
  obtain rfl : y = lN ne := ey.trans (xp_E4 (k := 16) r7 rfl (by decide) (by decide) he1)
  refine lv_lstore_n (lv' := [(0, .long (lN ne))]) hx hb dJ13_bitCount_95d88_47 rfl hl (by decide) rfl (fun ls hl => ?_)
  refine lv_lload_n hx hb dJ13_bitCount_95d88_48 rfl (lv_at hl 0 rfl) ?_
  refine lv_lload_n hx hb dJ13_bitCount_95d88_49 rfl (lv_at hl 0 rfl) ?_
  refine lv_bipush (v := 32) hx hb dJ13_bitCount_95d88_50 (by decide) ?_
  refine lv_lushr hx hb dJ13_bitCount_95d88_52 rfl ?_
  refine lv_ladd hx hb dJ13_bitCount_95d88_53 ?_
  refine lv_topl (fun y ey => ?_)
  obtain rfl : y = lN nf := ey.trans (xp_E4 (k := 32) r8 rfl (by decide) (by decide) hf1)
  refine lv_lstore_n (lv' := [(0, .long (lN nf))]) hx hb dJ13_bitCount_95d88_54 rfl hl (by decide) rfl (fun ls hl => ?_)
  refine lv_lload_n hx hb dJ13_bitCount_95d88_55 rfl (lv_at hl 0 rfl) ?_
  refine lv_l2i hx hb dJ13_bitCount_95d88_56 rfl ?_
  refine lv_bipush (v := 127) hx hb dJ13_bitCount_95d88_57 (by decide) ?_
  refine lv_iand hx hb dJ13_bitCount_95d88_59 ?_
  exact xk_iretR hx hb hr hlk (xp_E7 r1) dJ13_bitCount_95d88_60
set_option maxHeartbeats 4000000 in
set_option maxRecDepth 100000 in
theorem k_bitsBelow (l : Launch) (D : va_G) (cI cJ cS : ClassId) (x : Int32) : xk_Rd l yX0_bitsBelow wsX0_bitsBelow ({ frames := 0, cells := 0, slots := 0, locals := 0 }) D vwCl (xt cI cJ cS) ([]) [.int x] (some (.long (xs_bb x))) := by
  refine xk_rd (cc := cX0_bitsBelow) (maxL := 1) (ret := (some .long)) (by decide) rfl (Nat.le_of_ble_eq_true rfl) (fun p e s m below meth c ls hx hb hr hlk hml hown hts hl hP hK hN => ?_)
  replace hl : lv_has ls 1 [(0, .int x)] := hl
  refine lv_iload_n hx hb dX0_bitsBelow_0 rfl (lv_at hl 0 rfl) ?_
  refine lv_if_gt (tgt := 6) hx hb dX0_bitsBelow_1 (by decide) (fun c_1 => ?_) (fun c_1 => ?_)
  · skip
    refine lv_iload_n hx hb dX0_bitsBelow_6 rfl (lv_at hl 0 rfl) ?_
    refine lv_bipush (v := 64) hx hb dX0_bitsBelow_7 (by decide) ?_
    refine lv_icmp_ge (tgt := 20) hx hb dX0_bitsBelow_9 (by decide) (fun c_9 => ?_) (fun c_9 => ?_)
    · skip
      refine lv_ldc2 hx hb hown (hts (.constantLong RX0 19 (-1)) (by decide +kernel)) dX0_bitsBelow_20 ?_
      exact xk_lretR hx hb hr hlk (xs_bb64 c_9) dX0_bitsBelow_23
    · skip
      refine lv_lconst (v := 1) hx hb dX0_bitsBelow_12 (by decide) ?_
      refine lv_iload_n hx hb dX0_bitsBelow_13 rfl (lv_at hl 0 rfl) ?_
      refine lv_lshl hx hb dX0_bitsBelow_14 rfl ?_
      refine lv_lconst (v := 1) hx hb dX0_bitsBelow_15 (by decide) ?_
      refine lv_lsub hx hb dX0_bitsBelow_16 ?_
      refine lv_goto (tgt := 23) hx hb dX0_bitsBelow_17 (by decide) ?_
      exact xk_lretR hx hb hr hlk (xs_bbm c_1 c_9) dX0_bitsBelow_23
  · skip
    refine lv_lconst (v := 0) hx hb dX0_bitsBelow_4 (by decide) ?_
    exact xk_lretR hx hb hr hlk (xs_bb0 c_1) dX0_bitsBelow_5
set_option maxHeartbeats 4000000 in
set_option maxRecDepth 100000 in
theorem k_has (l : Launch) (D : va_G) (cI cJ cS : ClassId) (h r : Nat) (S : Nat → Bool) (k : Nat) (hk : k < 256) : xk_Rd l yX0_has wsX0_has ({ frames := 1, cells := 0, slots := 0, locals := 20 }) D vwCl (xt cI cJ cS) ([(h, .inr (0, [.ref r])), (r, .inl (cJ, 4, .inr (.inl (xs_rows S))))]) [.ref h, .int (nI k)] (some (.int (xb (S k)))) := by
  refine xk_rd (cc := cX0_has) (maxL := 2) (ret := (some .boolean)) (by decide) rfl (Nat.le_of_ble_eq_true rfl) (fun p e s m below meth c ls hx hb hr hlk hml hown hts hl hP hK hN => ?_)
  replace hl : lv_has ls 2 [(0, .ref h), (1, .int (nI k))] := hl
  have hiX0 : ∀ w ∈ u_ws RX0 TX0 1, w ∈ wsX0_has := by decide +kernel
  refine lv_iload_n hx hb dX0_has_0 rfl (lv_at hl 1 rfl) ?_
  refine xk_callR (va_runSN (As := [.int (nI k)]) (rest := []) ⟨hx, hb, hml, hown, hts⟩ (k_isCell l D cI cJ cS (nI k)) ⟨va_cnB 1 hts gX0_has_X4_isCell_n15 rfl rfl rfl (hN.1 (.methodLinkNest RX0 15 yX4_isCell "PointerSweep") (by decide +kernel)) (hts (.initialized RX4) (by decide +kernel)) (by decide +kernel) ⟨Nat.le_of_ble_eq_true rfl, Nat.le_of_ble_eq_true rfl⟩, hts (.static yX4_isCell) (by decide +kernel), trivial⟩ (xk_preSr hK hN hP [] rfl) rfl rfl hl.1 rfl (lv_room (Nat.le_of_ble_eq_true rfl)) dX0_has_1 ⟨Nat.zero_le _, Nat.zero_le _⟩) ?_
  refine lv_if_eq (tgt := 32) hx hb dX0_has_4 (by decide) (fun c_4 => ?_) (fun c_4 => ?_)
  · skip
    exact absurd c_4 (by rw [xi_nI hk (by decide)]; decide)
  · skip
    refine lv_aload_n hx hb dX0_has_7 rfl (lv_at hl 0 rfl) ?_
    refine va_get (D := D) (ci := 0) (v := .ref r) (C := RX0) (T := TX0) (N := 1) hx hb hts hiX0 hown hK hP 0 rfl rfl 0 (by decide) (hts (.fieldLink RX0 11 "PointerSweep$CellMap" "rows" "[J") (by decide +kernel)) (fun _ h9 => h9) rfl dX0_has_8 ?_
    refine lv_iload_n hx hb dX0_has_11 rfl (lv_at hl 1 rfl) ?_
    refine lv_bipush (v := 6) hx hb dX0_has_12 (by decide) ?_
    refine lv_ishr hx hb dX0_has_14 ?_
    refine xa_lald hx hb hK hP 1 1 rfl rfl (k / 64) (x_shr6 (by omega)) (by omega) (by decide) dX0_has_15 ?_
    refine lv_lconst (v := 1) hx hb dX0_has_16 (by decide) ?_
    refine lv_iload_n hx hb dX0_has_17 rfl (lv_at hl 1 rfl) ?_
    refine lv_bipush (v := 63) hx hb dX0_has_18 (by decide) ?_
    refine lv_iand hx hb dX0_has_20 ?_
    refine lv_lshl hx hb dX0_has_21 rfl ?_
    refine lv_land hx hb dX0_has_22 ?_
    refine lv_lconst (v := 0) hx hb dX0_has_23 (by decide) ?_
    refine W.lcmp hx hb dX0_has_24 ?_
    refine lv_if_eq (tgt := 32) hx hb dX0_has_25 (by decide) (fun c_25 => ?_) (fun c_25 => ?_)
    · skip
      refine lv_iconst (v := 0) hx hb dX0_has_32 (by decide) ?_
      exact xk_zretR hx hb hr hlk rfl (xb_p0 (xs_has' S hk) c_25) dX0_has_33
    · skip
      refine lv_iconst (v := 1) hx hb dX0_has_28 (by decide) ?_
      refine lv_goto (tgt := 33) hx hb dX0_has_29 (by decide) ?_
      exact xk_zretR hx hb hr hlk rfl (xb_p1 (xs_has' S hk) c_25) dX0_has_33
set_option maxHeartbeats 4000000 in
set_option maxRecDepth 100000 in
theorem k_add (l : Launch) (D : va_G) (cI cJ cS : ClassId) (h r : Nat) (S : Nat → Bool) (k : Nat) (hk : k < 256) : xk_Wr l yX0_add wsX0_add ({ frames := 1, cells := 0, slots := 0, locals := 20 }) D vwCl (xt cI cJ cS) ([(h, .inr (0, [.ref r])), (r, .inl (cJ, 4, .inr (.inl (xs_rows S))))]) [.ref h, .int (nI k)] ([(h, .inr (0, [.ref r])), (r, .inl (cJ, 4, .inr (.inl (xs_rows (va_up S k true)))))]) none := by
  refine xk_wr (cc := cX0_add) (maxL := 2) (ret := none) (by decide) rfl (Nat.le_of_ble_eq_true rfl) (fun p e s m below meth c ls hx hb hr hlk hml hown hts hl hP hK hN hD hS => ?_)
  replace hl : lv_has ls 2 [(0, .ref h), (1, .int (nI k))] := hl
  have hiX0 : ∀ w ∈ u_ws RX0 TX0 1, w ∈ wsX0_add := by decide +kernel
  refine lv_iload_n hx hb dX0_add_0 rfl (lv_at hl 1 rfl) ?_
  refine xk_callR (va_runSN (As := [.int (nI k)]) (rest := []) ⟨hx, hb, hml, hown, hts⟩ (k_isCell l D cI cJ cS (nI k)) ⟨va_cnB 1 hts gX0_add_X4_isCell_n15 rfl rfl rfl (hN.1 (.methodLinkNest RX0 15 yX4_isCell "PointerSweep") (by decide +kernel)) (hts (.initialized RX4) (by decide +kernel)) (by decide +kernel) ⟨Nat.le_of_ble_eq_true rfl, Nat.le_of_ble_eq_true rfl⟩, hts (.static yX4_isCell) (by decide +kernel), trivial⟩ (xk_preSr hK hN hP [] rfl) rfl rfl hl.1 rfl (lv_room (Nat.le_of_ble_eq_true rfl)) dX0_add_1 ⟨Nat.zero_le _, Nat.zero_le _⟩) ?_
  refine lv_if_eq (tgt := 25) hx hb dX0_add_4 (by decide) (fun c_4 => ?_) (fun c_4 => ?_)
  · skip
    exact absurd c_4 (by rw [xi_nI hk (by decide)]; decide)
  · skip
    refine lv_aload_n hx hb dX0_add_7 rfl (lv_at hl 0 rfl) ?_
    refine va_get (D := D) (ci := 0) (v := .ref r) (C := RX0) (T := TX0) (N := 1) hx hb hts hiX0 hown hK hP 0 rfl rfl 0 (by decide) (hts (.fieldLink RX0 11 "PointerSweep$CellMap" "rows" "[J") (by decide +kernel)) (fun _ h9 => h9) rfl dX0_add_8 ?_
    refine lv_iload_n hx hb dX0_add_11 rfl (lv_at hl 1 rfl) ?_
    refine lv_bipush (v := 6) hx hb dX0_add_12 (by decide) ?_
    refine lv_ishr hx hb dX0_add_14 ?_
    refine lv_dup2_11 hx hb dX0_add_15 rfl rfl ?_
    refine xa_lald hx hb hK hP 1 1 rfl rfl (k / 64) (x_shr6 (by omega)) (by omega) (by decide) dX0_add_16 ?_
    refine lv_lconst (v := 1) hx hb dX0_add_17 (by decide) ?_
    refine lv_iload_n hx hb dX0_add_18 rfl (lv_at hl 1 rfl) ?_
    refine lv_bipush (v := 63) hx hb dX0_add_19 (by decide) ?_
    refine lv_iand hx hb dX0_add_21 ?_
    refine lv_lshl hx hb dX0_add_22 rfl ?_
    refine lv_lor hx hb dX0_add_23 ?_
    refine xa_last (ws' := [(h, .inr (0, [.ref r])), (r, .inl (cJ, 4, .inr (.inl (vp_updL (xs_rows S) (k / 64) (((xs_rows S) (k / 64)) ||| (1 <<< (((nI k &&& 63) : Int32).toInt64 &&& 63)))))))]) hx hb hK hP hD hS 1 1 rfl rfl (k / 64) (x_shr6 (by omega)) (by omega) (by decide) dX0_add_24 rfl (fun H locs hP hD hS => ?_)
    exact xk_vretW hx hb hr hlk hP hS (by rw [xs_add' S hk]) dX0_add_25
set_option maxHeartbeats 4000000 in
set_option maxRecDepth 100000 in
theorem k_drop (l : Launch) (D : va_G) (cI cJ cS : ClassId) (h r : Nat) (S : Nat → Bool) (k : Nat) (hk : k < 256) : xk_Wr l yX0_drop wsX0_drop ({ frames := 1, cells := 0, slots := 0, locals := 20 }) D vwCl (xt cI cJ cS) ([(h, .inr (0, [.ref r])), (r, .inl (cJ, 4, .inr (.inl (xs_rows S))))]) [.ref h, .int (nI k)] ([(h, .inr (0, [.ref r])), (r, .inl (cJ, 4, .inr (.inl (xs_rows (va_up S k false)))))]) none := by
  refine xk_wr (cc := cX0_drop) (maxL := 2) (ret := none) (by decide) rfl (Nat.le_of_ble_eq_true rfl) (fun p e s m below meth c ls hx hb hr hlk hml hown hts hl hP hK hN hD hS => ?_)
  replace hl : lv_has ls 2 [(0, .ref h), (1, .int (nI k))] := hl
  have hiX0 : ∀ w ∈ u_ws RX0 TX0 1, w ∈ wsX0_drop := by decide +kernel
  refine lv_iload_n hx hb dX0_drop_0 rfl (lv_at hl 1 rfl) ?_
  refine xk_callR (va_runSN (As := [.int (nI k)]) (rest := []) ⟨hx, hb, hml, hown, hts⟩ (k_isCell l D cI cJ cS (nI k)) ⟨va_cnB 1 hts gX0_drop_X4_isCell_n15 rfl rfl rfl (hN.1 (.methodLinkNest RX0 15 yX4_isCell "PointerSweep") (by decide +kernel)) (hts (.initialized RX4) (by decide +kernel)) (by decide +kernel) ⟨Nat.le_of_ble_eq_true rfl, Nat.le_of_ble_eq_true rfl⟩, hts (.static yX4_isCell) (by decide +kernel), trivial⟩ (xk_preSr hK hN hP [] rfl) rfl rfl hl.1 rfl (lv_room (Nat.le_of_ble_eq_true rfl)) dX0_drop_1 ⟨Nat.zero_le _, Nat.zero_le _⟩) ?_
  refine lv_if_eq (tgt := 29) hx hb dX0_drop_4 (by decide) (fun c_4 => ?_) (fun c_4 => ?_)
  · skip
    exact absurd c_4 (by rw [xi_nI hk (by decide)]; decide)
  · skip
    refine lv_aload_n hx hb dX0_drop_7 rfl (lv_at hl 0 rfl) ?_
    refine va_get (D := D) (ci := 0) (v := .ref r) (C := RX0) (T := TX0) (N := 1) hx hb hts hiX0 hown hK hP 0 rfl rfl 0 (by decide) (hts (.fieldLink RX0 11 "PointerSweep$CellMap" "rows" "[J") (by decide +kernel)) (fun _ h9 => h9) rfl dX0_drop_8 ?_
    refine lv_iload_n hx hb dX0_drop_11 rfl (lv_at hl 1 rfl) ?_
    refine lv_bipush (v := 6) hx hb dX0_drop_12 (by decide) ?_
    refine lv_ishr hx hb dX0_drop_14 ?_
    refine lv_dup2_11 hx hb dX0_drop_15 rfl rfl ?_
    refine xa_lald hx hb hK hP 1 1 rfl rfl (k / 64) (x_shr6 (by omega)) (by omega) (by decide) dX0_drop_16 ?_
    refine lv_lconst (v := 1) hx hb dX0_drop_17 (by decide) ?_
    refine lv_iload_n hx hb dX0_drop_18 rfl (lv_at hl 1 rfl) ?_
    refine lv_bipush (v := 63) hx hb dX0_drop_19 (by decide) ?_
    refine lv_iand hx hb dX0_drop_21 ?_
    refine lv_lshl hx hb dX0_drop_22 rfl ?_
    refine lv_ldc2 hx hb hown (hts (.constantLong RX0 19 (-1)) (by decide +kernel)) dX0_drop_23 ?_
    refine lv_lxor hx hb dX0_drop_26 ?_
    refine lv_land hx hb dX0_drop_27 ?_
    refine xa_last (ws' := [(h, .inr (0, [.ref r])), (r, .inl (cJ, 4, .inr (.inl (vp_updL (xs_rows S) (k / 64) (((xs_rows S) (k / 64)) &&& ((1 <<< (((nI k &&& 63) : Int32).toInt64 &&& 63)) ^^^ (-1)))))))]) hx hb hK hP hD hS 1 1 rfl rfl (k / 64) (x_shr6 (by omega)) (by omega) (by decide) dX0_drop_28 rfl (fun H locs hP hD hS => ?_)
    exact xk_vretW hx hb hr hlk hP hS (by rw [xs_drop' S hk]) dX0_drop_29
set_option maxHeartbeats 4000000 in
set_option maxRecDepth 100000 in
theorem k_sizeWithin (l : Launch) (D : va_G) (cI cJ cS : ClassId) (h r : Nat) (S : Nat → Bool) (a1 b1 : Nat) (ha1 : a1 ≤ 512) (hb1 : b1 ≤ 512) : xk_Rd l yX0_sizeWithin wsX0_sizeWithin ({ frames := 1, cells := 0, slots := 0, locals := 21 }) D vwCl (xt cI cJ cS) ([(h, .inr (0, [.ref r])), (r, .inl (cJ, 4, .inr (.inl (xs_rows S))))]) [.ref h, .int (nI a1), .int (nI b1)] (some (.int (nI (xs_w S a1 b1)))) := by
  refine xk_rd (cc := cX0_sizeWithin) (maxL := 6) (ret := (some .int)) (by decide) rfl (Nat.le_of_ble_eq_true rfl) (fun p e s m below meth c ls hx hb hr hlk hml hown hts hl hP hK hN => ?_)
  replace hl : lv_has ls 6 [(0, .ref h), (1, .int (nI a1)), (2, .int (nI b1))] := hl
  have hiX0 : ∀ w ∈ u_ws RX0 TX0 1, w ∈ wsX0_sizeWithin := by decide +kernel
  obtain ⟨n0, hn0, e0, p0⟩ := xs_row S 0 ha1 hb1 (by decide)
  obtain ⟨n1, hn1, e1, p1⟩ := xs_row S 1 ha1 hb1 (by decide)
  obtain ⟨n2, hn2, e2, p2⟩ := xs_row S 2 ha1 hb1 (by decide)
  obtain ⟨n3, hn3, e3, p3⟩ := xs_row S 3 ha1 hb1 (by decide)
  refine lv_iconst (v := 0) hx hb dX0_sizeWithin_0 (by decide) ?_
  refine lv_topi (fun y ey => ?_)
  obtain rfl : y = nI 0 := ey.trans nI_0.symm
  refine lv_istore_n (lv' := [(3, .int (nI 0)), (0, .ref h), (1, .int (nI a1)), (2, .int (nI b1))]) hx hb dX0_sizeWithin_1 rfl hl (by decide) rfl (fun ls hl => ?_)
  refine lv_iconst (v := 0) hx hb dX0_sizeWithin_2 (by decide) ?_
  refine lv_istore (lv' := [(4, .int 0), (3, .int (nI 0)), (0, .ref h), (1, .int (nI a1)), (2, .int (nI b1))]) hx hb dX0_sizeWithin_3 hl (by decide) rfl (fun ls hl => ?_)
  refine lv_iload hx hb dX0_sizeWithin_5 (lv_at hl 0 rfl) ?_
  refine lv_iconst (v := 4) hx hb dX0_sizeWithin_7 (by decide) ?_
  refine lv_icmp_ge (tgt := 57) hx hb dX0_sizeWithin_8 (by decide) (fun c_8 => ?_) (fun c_8 => ?_)
  · skip
    exact absurd c_8 (by decide)
  · skip
    refine lv_iload hx hb dX0_sizeWithin_11 (lv_at hl 0 rfl) ?_
    refine lv_bipush (v := 64) hx hb dX0_sizeWithin_13 (by decide) ?_
    refine lv_imul hx hb dX0_sizeWithin_15 ?_
    refine lv_topi (fun y ey => ?_)
    obtain rfl : y = nI (64 * 0) := ey.trans (by decide)
    refine lv_istore (lv' := [(5, .int (nI (64 * 0))), (4, .int 0), (3, .int (nI 0)), (0, .ref h), (1, .int (nI a1)), (2, .int (nI b1))]) hx hb dX0_sizeWithin_16 hl (by decide) rfl (fun ls hl => ?_)
    refine lv_iload_n hx hb dX0_sizeWithin_18 rfl (lv_at hl 2 rfl) ?_
    refine lv_aload_n hx hb dX0_sizeWithin_19 rfl (lv_at hl 3 rfl) ?_
    refine va_get (D := D) (ci := 0) (v := .ref r) (C := RX0) (T := TX0) (N := 1) hx hb hts hiX0 hown hK hP 0 rfl rfl 0 (by decide) (hts (.fieldLink RX0 11 "PointerSweep$CellMap" "rows" "[J") (by decide +kernel)) (fun _ h9 => h9) rfl dX0_sizeWithin_20 ?_
    refine lv_iload hx hb dX0_sizeWithin_23 (lv_at hl 1 rfl) ?_
    refine xa_lald hx hb hK hP 1 1 rfl rfl 0 rfl (by decide) (by decide) dX0_sizeWithin_25 ?_
    refine lv_iload_n hx hb dX0_sizeWithin_26 rfl (lv_at hl 5 rfl) ?_
    refine lv_iload hx hb dX0_sizeWithin_27 (lv_at hl 0 rfl) ?_
    refine lv_isub hx hb dX0_sizeWithin_29 ?_
    refine xk_callR (va_runS (As := [.int (nI b1 - (nI (64 * 0)))]) (rest := [.long ((xs_rows S) 0), .int (nI 0)]) ⟨hx, hb, hml, hown, hts⟩ (k_bitsBelow l D cI cJ cS (nI b1 - (nI (64 * 0)))) (va_cwS 1 hts gX0_sizeWithin_X0_bitsBelow rfl rfl rfl (by decide +kernel) ⟨Nat.le_of_ble_eq_true rfl, Nat.le_of_ble_eq_true rfl⟩) (xk_preSr hK hN hP [] rfl) rfl rfl hl.1 rfl (lv_room (Nat.le_of_ble_eq_true rfl)) dX0_sizeWithin_30 ⟨Nat.zero_le _, Nat.zero_le _⟩) ?_
    refine lv_land hx hb dX0_sizeWithin_33 ?_
    refine lv_iload_n hx hb dX0_sizeWithin_34 rfl (lv_at hl 4 rfl) ?_
    refine lv_iload hx hb dX0_sizeWithin_35 (lv_at hl 0 rfl) ?_
    refine lv_isub hx hb dX0_sizeWithin_37 ?_
    refine xk_callR (va_runS (As := [.int (nI a1 - (nI (64 * 0)))]) (rest := [.long (((xs_rows S) 0) &&& (xs_bb (nI b1 - (nI (64 * 0))))), .int (nI 0)]) ⟨hx, hb, hml, hown, hts⟩ (k_bitsBelow l D cI cJ cS (nI a1 - (nI (64 * 0)))) (va_cwS 1 hts gX0_sizeWithin_X0_bitsBelow rfl rfl rfl (by decide +kernel) ⟨Nat.le_of_ble_eq_true rfl, Nat.le_of_ble_eq_true rfl⟩) (xk_preSr hK hN hP [] rfl) rfl rfl hl.1 rfl (lv_room (Nat.le_of_ble_eq_true rfl)) dX0_sizeWithin_38 ⟨Nat.zero_le _, Nat.zero_le _⟩) ?_
    refine lv_ldc2 hx hb hown (hts (.constantLong RX0 19 (-1)) (by decide +kernel)) dX0_sizeWithin_41 ?_
    refine lv_lxor hx hb dX0_sizeWithin_44 ?_
    refine lv_land hx hb dX0_sizeWithin_45 ?_
    refine lv_topl (fun y ey => ?_)
    obtain rfl : y = lN n0 := ey.trans e0
    refine xk_callR (va_runS (As := [.long (lN n0)]) (rest := [.int (nI 0)]) ⟨hx, hb, hml, hown, hts⟩ (k_bitCount l D cI cJ cS n0 hn0) (va_cwS 1 hts gX0_sizeWithin_J13_bitCount_95d88 rfl rfl rfl (by decide +kernel) ⟨Nat.le_of_ble_eq_true rfl, Nat.le_of_ble_eq_true rfl⟩) (xk_preSr hK hN hP [] rfl) rfl rfl hl.1 rfl (lv_room (Nat.le_of_ble_eq_true rfl)) dX0_sizeWithin_46 ⟨Nat.zero_le _, Nat.zero_le _⟩) ?_
    refine lv_iadd hx hb dX0_sizeWithin_49 ?_
    refine lv_topi (fun y ey => ?_)
    obtain rfl : y = nI (0 + xp_pc 64 n0) := ey.trans (nI_add _ _)
    refine lv_istore_n (lv' := [(3, .int (nI (0 + xp_pc 64 n0))), (5, .int (nI (64 * 0))), (4, .int 0), (0, .ref h), (1, .int (nI a1)), (2, .int (nI b1))]) hx hb dX0_sizeWithin_50 rfl hl (by decide) rfl (fun ls hl => ?_)
    refine lv_iinc (v := 1) (lv' := [(4, .int 1), (3, .int (nI (0 + xp_pc 64 n0))), (5, .int (nI (64 * 0))), (0, .ref h), (1, .int (nI a1)), (2, .int (nI b1))]) hx hb dX0_sizeWithin_51 hl (k := 2) rfl (by decide) (by decide) rfl (fun ls hl => ?_)
    refine lv_goto (tgt := 5) hx hb dX0_sizeWithin_54 (by decide) ?_
    refine lv_iload hx hb dX0_sizeWithin_5 (lv_at hl 0 rfl) ?_
    refine lv_iconst (v := 4) hx hb dX0_sizeWithin_7 (by decide) ?_
    refine lv_icmp_ge (tgt := 57) hx hb dX0_sizeWithin_8 (by decide) (fun c_8 => ?_) (fun c_8 => ?_)
    · skip
      exact absurd c_8 (by decide)
    · skip
      refine lv_iload hx hb dX0_sizeWithin_11 (lv_at hl 0 rfl) ?_
      refine lv_bipush (v := 64) hx hb dX0_sizeWithin_13 (by decide) ?_
      refine lv_imul hx hb dX0_sizeWithin_15 ?_
      refine lv_topi (fun y ey => ?_)
      obtain rfl : y = nI (64 * 1) := ey.trans (by decide)
      refine lv_istore (lv' := [(5, .int (nI (64 * 1))), (4, .int 1), (3, .int (nI (0 + xp_pc 64 n0))), (0, .ref h), (1, .int (nI a1)), (2, .int (nI b1))]) hx hb dX0_sizeWithin_16 hl (by decide) rfl (fun ls hl => ?_)
      refine lv_iload_n hx hb dX0_sizeWithin_18 rfl (lv_at hl 2 rfl) ?_
      refine lv_aload_n hx hb dX0_sizeWithin_19 rfl (lv_at hl 3 rfl) ?_
      refine va_get (D := D) (ci := 0) (v := .ref r) (C := RX0) (T := TX0) (N := 1) hx hb hts hiX0 hown hK hP 0 rfl rfl 0 (by decide) (hts (.fieldLink RX0 11 "PointerSweep$CellMap" "rows" "[J") (by decide +kernel)) (fun _ h9 => h9) rfl dX0_sizeWithin_20 ?_
      refine lv_iload hx hb dX0_sizeWithin_23 (lv_at hl 1 rfl) ?_
      refine xa_lald hx hb hK hP 1 1 rfl rfl 1 rfl (by decide) (by decide) dX0_sizeWithin_25 ?_
      refine lv_iload_n hx hb dX0_sizeWithin_26 rfl (lv_at hl 5 rfl) ?_
      refine lv_iload hx hb dX0_sizeWithin_27 (lv_at hl 0 rfl) ?_
      refine lv_isub hx hb dX0_sizeWithin_29 ?_
      refine xk_callR (va_runS (As := [.int (nI b1 - (nI (64 * 1)))]) (rest := [.long ((xs_rows S) 1), .int (nI (0 + xp_pc 64 n0))]) ⟨hx, hb, hml, hown, hts⟩ (k_bitsBelow l D cI cJ cS (nI b1 - (nI (64 * 1)))) (va_cwS 1 hts gX0_sizeWithin_X0_bitsBelow rfl rfl rfl (by decide +kernel) ⟨Nat.le_of_ble_eq_true rfl, Nat.le_of_ble_eq_true rfl⟩) (xk_preSr hK hN hP [] rfl) rfl rfl hl.1 rfl (lv_room (Nat.le_of_ble_eq_true rfl)) dX0_sizeWithin_30 ⟨Nat.zero_le _, Nat.zero_le _⟩) ?_
      refine lv_land hx hb dX0_sizeWithin_33 ?_
      refine lv_iload_n hx hb dX0_sizeWithin_34 rfl (lv_at hl 4 rfl) ?_
      refine lv_iload hx hb dX0_sizeWithin_35 (lv_at hl 0 rfl) ?_
      refine lv_isub hx hb dX0_sizeWithin_37 ?_
      refine xk_callR (va_runS (As := [.int (nI a1 - (nI (64 * 1)))]) (rest := [.long (((xs_rows S) 1) &&& (xs_bb (nI b1 - (nI (64 * 1))))), .int (nI (0 + xp_pc 64 n0))]) ⟨hx, hb, hml, hown, hts⟩ (k_bitsBelow l D cI cJ cS (nI a1 - (nI (64 * 1)))) (va_cwS 1 hts gX0_sizeWithin_X0_bitsBelow rfl rfl rfl (by decide +kernel) ⟨Nat.le_of_ble_eq_true rfl, Nat.le_of_ble_eq_true rfl⟩) (xk_preSr hK hN hP [] rfl) rfl rfl hl.1 rfl (lv_room (Nat.le_of_ble_eq_true rfl)) dX0_sizeWithin_38 ⟨Nat.zero_le _, Nat.zero_le _⟩) ?_
      refine lv_ldc2 hx hb hown (hts (.constantLong RX0 19 (-1)) (by decide +kernel)) dX0_sizeWithin_41 ?_
      refine lv_lxor hx hb dX0_sizeWithin_44 ?_
      refine lv_land hx hb dX0_sizeWithin_45 ?_
      refine lv_topl (fun y ey => ?_)
      obtain rfl : y = lN n1 := ey.trans e1
      refine xk_callR (va_runS (As := [.long (lN n1)]) (rest := [.int (nI (0 + xp_pc 64 n0))]) ⟨hx, hb, hml, hown, hts⟩ (k_bitCount l D cI cJ cS n1 hn1) (va_cwS 1 hts gX0_sizeWithin_J13_bitCount_95d88 rfl rfl rfl (by decide +kernel) ⟨Nat.le_of_ble_eq_true rfl, Nat.le_of_ble_eq_true rfl⟩) (xk_preSr hK hN hP [] rfl) rfl rfl hl.1 rfl (lv_room (Nat.le_of_ble_eq_true rfl)) dX0_sizeWithin_46 ⟨Nat.zero_le _, Nat.zero_le _⟩) ?_
      refine lv_iadd hx hb dX0_sizeWithin_49 ?_
      refine lv_topi (fun y ey => ?_)
      obtain rfl : y = nI ((0 + xp_pc 64 n0) + xp_pc 64 n1) := ey.trans (nI_add _ _)
      refine lv_istore_n (lv' := [(3, .int (nI ((0 + xp_pc 64 n0) + xp_pc 64 n1))), (5, .int (nI (64 * 1))), (4, .int 1), (0, .ref h), (1, .int (nI a1)), (2, .int (nI b1))]) hx hb dX0_sizeWithin_50 rfl hl (by decide) rfl (fun ls hl => ?_)
      refine lv_iinc (v := 2) (lv' := [(4, .int 2), (3, .int (nI ((0 + xp_pc 64 n0) + xp_pc 64 n1))), (5, .int (nI (64 * 1))), (0, .ref h), (1, .int (nI a1)), (2, .int (nI b1))]) hx hb dX0_sizeWithin_51 hl (k := 2) rfl (by decide) (by decide) rfl (fun ls hl => ?_)
      refine lv_goto (tgt := 5) hx hb dX0_sizeWithin_54 (by decide) ?_
      refine lv_iload hx hb dX0_sizeWithin_5 (lv_at hl 0 rfl) ?_
      refine lv_iconst (v := 4) hx hb dX0_sizeWithin_7 (by decide) ?_
      refine lv_icmp_ge (tgt := 57) hx hb dX0_sizeWithin_8 (by decide) (fun c_8 => ?_) (fun c_8 => ?_)
      · skip
        exact absurd c_8 (by decide)
      · skip
        refine lv_iload hx hb dX0_sizeWithin_11 (lv_at hl 0 rfl) ?_
        refine lv_bipush (v := 64) hx hb dX0_sizeWithin_13 (by decide) ?_
        refine lv_imul hx hb dX0_sizeWithin_15 ?_
        refine lv_topi (fun y ey => ?_)
        obtain rfl : y = nI (64 * 2) := ey.trans (by decide)
        refine lv_istore (lv' := [(5, .int (nI (64 * 2))), (4, .int 2), (3, .int (nI ((0 + xp_pc 64 n0) + xp_pc 64 n1))), (0, .ref h), (1, .int (nI a1)), (2, .int (nI b1))]) hx hb dX0_sizeWithin_16 hl (by decide) rfl (fun ls hl => ?_)
        refine lv_iload_n hx hb dX0_sizeWithin_18 rfl (lv_at hl 2 rfl) ?_
        refine lv_aload_n hx hb dX0_sizeWithin_19 rfl (lv_at hl 3 rfl) ?_
        refine va_get (D := D) (ci := 0) (v := .ref r) (C := RX0) (T := TX0) (N := 1) hx hb hts hiX0 hown hK hP 0 rfl rfl 0 (by decide) (hts (.fieldLink RX0 11 "PointerSweep$CellMap" "rows" "[J") (by decide +kernel)) (fun _ h9 => h9) rfl dX0_sizeWithin_20 ?_
        refine lv_iload hx hb dX0_sizeWithin_23 (lv_at hl 1 rfl) ?_
        refine xa_lald hx hb hK hP 1 1 rfl rfl 2 rfl (by decide) (by decide) dX0_sizeWithin_25 ?_
        refine lv_iload_n hx hb dX0_sizeWithin_26 rfl (lv_at hl 5 rfl) ?_
        refine lv_iload hx hb dX0_sizeWithin_27 (lv_at hl 0 rfl) ?_
        refine lv_isub hx hb dX0_sizeWithin_29 ?_
        refine xk_callR (va_runS (As := [.int (nI b1 - (nI (64 * 2)))]) (rest := [.long ((xs_rows S) 2), .int (nI ((0 + xp_pc 64 n0) + xp_pc 64 n1))]) ⟨hx, hb, hml, hown, hts⟩ (k_bitsBelow l D cI cJ cS (nI b1 - (nI (64 * 2)))) (va_cwS 1 hts gX0_sizeWithin_X0_bitsBelow rfl rfl rfl (by decide +kernel) ⟨Nat.le_of_ble_eq_true rfl, Nat.le_of_ble_eq_true rfl⟩) (xk_preSr hK hN hP [] rfl) rfl rfl hl.1 rfl (lv_room (Nat.le_of_ble_eq_true rfl)) dX0_sizeWithin_30 ⟨Nat.zero_le _, Nat.zero_le _⟩) ?_
        refine lv_land hx hb dX0_sizeWithin_33 ?_
        refine lv_iload_n hx hb dX0_sizeWithin_34 rfl (lv_at hl 4 rfl) ?_
        refine lv_iload hx hb dX0_sizeWithin_35 (lv_at hl 0 rfl) ?_
        refine lv_isub hx hb dX0_sizeWithin_37 ?_
        refine xk_callR (va_runS (As := [.int (nI a1 - (nI (64 * 2)))]) (rest := [.long (((xs_rows S) 2) &&& (xs_bb (nI b1 - (nI (64 * 2))))), .int (nI ((0 + xp_pc 64 n0) + xp_pc 64 n1))]) ⟨hx, hb, hml, hown, hts⟩ (k_bitsBelow l D cI cJ cS (nI a1 - (nI (64 * 2)))) (va_cwS 1 hts gX0_sizeWithin_X0_bitsBelow rfl rfl rfl (by decide +kernel) ⟨Nat.le_of_ble_eq_true rfl, Nat.le_of_ble_eq_true rfl⟩) (xk_preSr hK hN hP [] rfl) rfl rfl hl.1 rfl (lv_room (Nat.le_of_ble_eq_true rfl)) dX0_sizeWithin_38 ⟨Nat.zero_le _, Nat.zero_le _⟩) ?_
        refine lv_ldc2 hx hb hown (hts (.constantLong RX0 19 (-1)) (by decide +kernel)) dX0_sizeWithin_41 ?_
        refine lv_lxor hx hb dX0_sizeWithin_44 ?_
        refine lv_land hx hb dX0_sizeWithin_45 ?_
        refine lv_topl (fun y ey => ?_)
        obtain rfl : y = lN n2 := ey.trans e2
        refine xk_callR (va_runS (As := [.long (lN n2)]) (rest := [.int (nI ((0 + xp_pc 64 n0) + xp_pc 64 n1))]) ⟨hx, hb, hml, hown, hts⟩ (k_bitCount l D cI cJ cS n2 hn2) (va_cwS 1 hts gX0_sizeWithin_J13_bitCount_95d88 rfl rfl rfl (by decide +kernel) ⟨Nat.le_of_ble_eq_true rfl, Nat.le_of_ble_eq_true rfl⟩) (xk_preSr hK hN hP [] rfl) rfl rfl hl.1 rfl (lv_room (Nat.le_of_ble_eq_true rfl)) dX0_sizeWithin_46 ⟨Nat.zero_le _, Nat.zero_le _⟩) ?_
        refine lv_iadd hx hb dX0_sizeWithin_49 ?_
        refine lv_topi (fun y ey => ?_)
        obtain rfl : y = nI (((0 + xp_pc 64 n0) + xp_pc 64 n1) + xp_pc 64 n2) := ey.trans (nI_add _ _)
        refine lv_istore_n (lv' := [(3, .int (nI (((0 + xp_pc 64 n0) + xp_pc 64 n1) + xp_pc 64 n2))), (5, .int (nI (64 * 2))), (4, .int 2), (0, .ref h), (1, .int (nI a1)), (2, .int (nI b1))]) hx hb dX0_sizeWithin_50 rfl hl (by decide) rfl (fun ls hl => ?_)
        refine lv_iinc (v := 3) (lv' := [(4, .int 3), (3, .int (nI (((0 + xp_pc 64 n0) + xp_pc 64 n1) + xp_pc 64 n2))), (5, .int (nI (64 * 2))), (0, .ref h), (1, .int (nI a1)), (2, .int (nI b1))]) hx hb dX0_sizeWithin_51 hl (k := 2) rfl (by decide) (by decide) rfl (fun ls hl => ?_)
        refine lv_goto (tgt := 5) hx hb dX0_sizeWithin_54 (by decide) ?_
        refine lv_iload hx hb dX0_sizeWithin_5 (lv_at hl 0 rfl) ?_
        refine lv_iconst (v := 4) hx hb dX0_sizeWithin_7 (by decide) ?_
        refine lv_icmp_ge (tgt := 57) hx hb dX0_sizeWithin_8 (by decide) (fun c_8 => ?_) (fun c_8 => ?_)
        · skip
          exact absurd c_8 (by decide)
        · skip
          refine lv_iload hx hb dX0_sizeWithin_11 (lv_at hl 0 rfl) ?_
          refine lv_bipush (v := 64) hx hb dX0_sizeWithin_13 (by decide) ?_
          refine lv_imul hx hb dX0_sizeWithin_15 ?_
          refine lv_topi (fun y ey => ?_)
          obtain rfl : y = nI (64 * 3) := ey.trans (by decide)
          refine lv_istore (lv' := [(5, .int (nI (64 * 3))), (4, .int 3), (3, .int (nI (((0 + xp_pc 64 n0) + xp_pc 64 n1) + xp_pc 64 n2))), (0, .ref h), (1, .int (nI a1)), (2, .int (nI b1))]) hx hb dX0_sizeWithin_16 hl (by decide) rfl (fun ls hl => ?_)
          refine lv_iload_n hx hb dX0_sizeWithin_18 rfl (lv_at hl 2 rfl) ?_
          refine lv_aload_n hx hb dX0_sizeWithin_19 rfl (lv_at hl 3 rfl) ?_
          refine va_get (D := D) (ci := 0) (v := .ref r) (C := RX0) (T := TX0) (N := 1) hx hb hts hiX0 hown hK hP 0 rfl rfl 0 (by decide) (hts (.fieldLink RX0 11 "PointerSweep$CellMap" "rows" "[J") (by decide +kernel)) (fun _ h9 => h9) rfl dX0_sizeWithin_20 ?_
          refine lv_iload hx hb dX0_sizeWithin_23 (lv_at hl 1 rfl) ?_
          refine xa_lald hx hb hK hP 1 1 rfl rfl 3 rfl (by decide) (by decide) dX0_sizeWithin_25 ?_
          refine lv_iload_n hx hb dX0_sizeWithin_26 rfl (lv_at hl 5 rfl) ?_
          refine lv_iload hx hb dX0_sizeWithin_27 (lv_at hl 0 rfl) ?_
          refine lv_isub hx hb dX0_sizeWithin_29 ?_
          refine xk_callR (va_runS (As := [.int (nI b1 - (nI (64 * 3)))]) (rest := [.long ((xs_rows S) 3), .int (nI (((0 + xp_pc 64 n0) + xp_pc 64 n1) + xp_pc 64 n2))]) ⟨hx, hb, hml, hown, hts⟩ (k_bitsBelow l D cI cJ cS (nI b1 - (nI (64 * 3)))) (va_cwS 1 hts gX0_sizeWithin_X0_bitsBelow rfl rfl rfl (by decide +kernel) ⟨Nat.le_of_ble_eq_true rfl, Nat.le_of_ble_eq_true rfl⟩) (xk_preSr hK hN hP [] rfl) rfl rfl hl.1 rfl (lv_room (Nat.le_of_ble_eq_true rfl)) dX0_sizeWithin_30 ⟨Nat.zero_le _, Nat.zero_le _⟩) ?_
          refine lv_land hx hb dX0_sizeWithin_33 ?_
          refine lv_iload_n hx hb dX0_sizeWithin_34 rfl (lv_at hl 4 rfl) ?_
          refine lv_iload hx hb dX0_sizeWithin_35 (lv_at hl 0 rfl) ?_
          refine lv_isub hx hb dX0_sizeWithin_37 ?_
          refine xk_callR (va_runS (As := [.int (nI a1 - (nI (64 * 3)))]) (rest := [.long (((xs_rows S) 3) &&& (xs_bb (nI b1 - (nI (64 * 3))))), .int (nI (((0 + xp_pc 64 n0) + xp_pc 64 n1) + xp_pc 64 n2))]) ⟨hx, hb, hml, hown, hts⟩ (k_bitsBelow l D cI cJ cS (nI a1 - (nI (64 * 3)))) (va_cwS 1 hts gX0_sizeWithin_X0_bitsBelow rfl rfl rfl (by decide +kernel) ⟨Nat.le_of_ble_eq_true rfl, Nat.le_of_ble_eq_true rfl⟩) (xk_preSr hK hN hP [] rfl) rfl rfl hl.1 rfl (lv_room (Nat.le_of_ble_eq_true rfl)) dX0_sizeWithin_38 ⟨Nat.zero_le _, Nat.zero_le _⟩) ?_
          refine lv_ldc2 hx hb hown (hts (.constantLong RX0 19 (-1)) (by decide +kernel)) dX0_sizeWithin_41 ?_
          refine lv_lxor hx hb dX0_sizeWithin_44 ?_
          refine lv_land hx hb dX0_sizeWithin_45 ?_
          refine lv_topl (fun y ey => ?_)
          obtain rfl : y = lN n3 := ey.trans e3
          refine xk_callR (va_runS (As := [.long (lN n3)]) (rest := [.int (nI (((0 + xp_pc 64 n0) + xp_pc 64 n1) + xp_pc 64 n2))]) ⟨hx, hb, hml, hown, hts⟩ (k_bitCount l D cI cJ cS n3 hn3) (va_cwS 1 hts gX0_sizeWithin_J13_bitCount_95d88 rfl rfl rfl (by decide +kernel) ⟨Nat.le_of_ble_eq_true rfl, Nat.le_of_ble_eq_true rfl⟩) (xk_preSr hK hN hP [] rfl) rfl rfl hl.1 rfl (lv_room (Nat.le_of_ble_eq_true rfl)) dX0_sizeWithin_46 ⟨Nat.zero_le _, Nat.zero_le _⟩) ?_
          refine lv_iadd hx hb dX0_sizeWithin_49 ?_
          refine lv_topi (fun y ey => ?_)
          obtain rfl : y = nI ((((0 + xp_pc 64 n0) + xp_pc 64 n1) + xp_pc 64 n2) + xp_pc 64 n3) := ey.trans (nI_add _ _)
          refine lv_istore_n (lv' := [(3, .int (nI ((((0 + xp_pc 64 n0) + xp_pc 64 n1) + xp_pc 64 n2) + xp_pc 64 n3))), (5, .int (nI (64 * 3))), (4, .int 3), (0, .ref h), (1, .int (nI a1)), (2, .int (nI b1))]) hx hb dX0_sizeWithin_50 rfl hl (by decide) rfl (fun ls hl => ?_)
          refine lv_iinc (v := 4) (lv' := [(4, .int 4), (3, .int (nI ((((0 + xp_pc 64 n0) + xp_pc 64 n1) + xp_pc 64 n2) + xp_pc 64 n3))), (5, .int (nI (64 * 3))), (0, .ref h), (1, .int (nI a1)), (2, .int (nI b1))]) hx hb dX0_sizeWithin_51 hl (k := 2) rfl (by decide) (by decide) rfl (fun ls hl => ?_)
          refine lv_goto (tgt := 5) hx hb dX0_sizeWithin_54 (by decide) ?_
          refine lv_iload hx hb dX0_sizeWithin_5 (lv_at hl 0 rfl) ?_
          refine lv_iconst (v := 4) hx hb dX0_sizeWithin_7 (by decide) ?_
          refine lv_icmp_ge (tgt := 57) hx hb dX0_sizeWithin_8 (by decide) (fun c_8 => ?_) (fun c_8 => ?_)
          · skip
            refine lv_iload_n hx hb dX0_sizeWithin_57 rfl (lv_at hl 1 rfl) ?_
            exact xk_iretR hx hb hr hlk (by rw [xs_w4, p0, p1, p2, p3, Nat.zero_add]) dX0_sizeWithin_58
          · skip
            exact absurd (by decide) c_8
set_option maxHeartbeats 4000000 in
set_option maxRecDepth 100000 in
theorem k_size (l : Launch) (D : va_G) (cI cJ cS : ClassId) (h r : Nat) (S : Nat → Bool) : xk_Rd l yX0_size wsX0_size ({ frames := 2, cells := 0, slots := 0, locals := 46 }) D vwCl (xt cI cJ cS) ([(h, .inr (0, [.ref r])), (r, .inl (cJ, 4, .inr (.inl (xs_rows S))))]) [.ref h] (some (.int (nI (xs_w S 0 256)))) := by
  refine xk_rd (cc := cX0_size) (maxL := 1) (ret := (some .int)) (by decide) rfl (Nat.le_of_ble_eq_true rfl) (fun p e s m below meth c ls hx hb hr hlk hml hown hts hl hP hK hN => ?_)
  replace hl : lv_has ls 1 [(0, .ref h)] := hl
  refine lv_aload_n hx hb dX0_size_0 rfl (lv_at hl 0 rfl) ?_
  refine lv_iconst (v := 0) hx hb dX0_size_1 (by decide) ?_
  refine lv_sipush (v := 256) hx hb dX0_size_2 (by decide) ?_
  refine xk_callR (va_runV (As := [.int 0, .int 256]) (rest := []) ⟨hx, hb, hml, hown, hts⟩ (k_sizeWithin l D cI cJ cS h r S 0 256 (by decide) (by decide)) (cwV 2 hts gX0_size_X0_sizeWithin rfl rfl rfl (by decide +kernel) ⟨Nat.le_of_ble_eq_true rfl, Nat.le_of_ble_eq_true rfl⟩) (xk_preVr hK hN hP [0, 1] rfl (ci := 0) rfl 0 rfl) rfl rfl hl.1 rfl (lv_room (Nat.le_of_ble_eq_true rfl)) dX0_size_5 ⟨Nat.zero_le _, Nat.zero_le _⟩) ?_
  exact xk_iretR hx hb hr hlk rfl dX0_size_8
set_option maxHeartbeats 4000000 in
set_option maxRecDepth 100000 in
theorem k_become0 (l : Launch) (D : va_G) (cI cJ cS : ClassId) (h r h2 r2 : Nat) (S U : Nat → Bool) : xk_Wr l yX0_become wsX0_become ({ frames := 1, cells := 0, slots := 0, locals := 60 }) D vwCl (xt cI cJ cS) ([(h, .inr (0, [.ref r])), (r, .inl (cJ, 4, .inr (.inl (xs_rows S)))), (h2, .inr (0, [.ref r2])), (r2, .inl (cJ, 4, .inr (.inl (xs_rows U))))]) [.ref h, .ref h2] ([(h, .inr (0, [.ref r])), (r, .inl (cJ, 4, .inr (.inl (xs_rows U)))), (h2, .inr (0, [.ref r2])), (r2, .inl (cJ, 4, .inr (.inl (xs_rows U))))]) none := by
  refine xk_wr (cc := cX0_become) (maxL := 2) (ret := none) (by decide) rfl (Nat.le_of_ble_eq_true rfl) (fun p e s m below meth c ls hx hb hr hlk hml hown hts hl hP hK hN hD hS => ?_)
  replace hl : lv_has ls 2 [(0, .ref h), (1, .ref h2)] := hl
  have hiX0 : ∀ w ∈ u_ws RX0 TX0 1, w ∈ wsX0_become := by decide +kernel
  refine lv_aload_n hx hb dX0_become_0 rfl (lv_at hl 1 rfl) ?_
  refine va_get (D := D) (ci := 0) (v := .ref r2) (C := RX0) (T := TX0) (N := 1) hx hb hts hiX0 hown hK hP 2 rfl rfl 0 (by decide) (hts (.fieldLink RX0 11 "PointerSweep$CellMap" "rows" "[J") (by decide +kernel)) (fun _ h9 => h9) rfl dX0_become_1 ?_
  refine lv_iconst (v := 0) hx hb dX0_become_4 (by decide) ?_
  refine lv_aload_n hx hb dX0_become_5 rfl (lv_at hl 0 rfl) ?_
  refine va_get (D := D) (ci := 0) (v := .ref r) (C := RX0) (T := TX0) (N := 1) hx hb hts hiX0 hown hK hP 0 rfl rfl 0 (by decide) (hts (.fieldLink RX0 11 "PointerSweep$CellMap" "rows" "[J") (by decide +kernel)) (fun _ h9 => h9) rfl dX0_become_6 ?_
  refine lv_iconst (v := 0) hx hb dX0_become_9 (by decide) ?_
  refine lv_iconst (v := 4) hx hb dX0_become_10 (by decide) ?_
  refine va_copyl hx hb (hml.trans hl.1.symm) hown (hts (.methodLink RX0 21 arraycopyName) (by decide +kernel)) (hts (.native arraycopyName) (by decide +kernel)) (hts (.static arraycopyName) (by decide +kernel)) (hts (.initialized "java/lang/System") (by decide +kernel)) hK hP hD hS 3 1 1 1 rfl rfl rfl rfl rfl (by decide) (by decide) (by decide) (by decide) (by decide) (fun _ _ => rfl) (Nat.le_of_ble_eq_true rfl) (Nat.le_of_ble_eq_true rfl) dX0_become_11 (fun H locs hP hD hS => ?_)
  replace hP : va_P D vwCl ([(h, .inr (0, [.ref r])), (r, .inl (cJ, 4, .inr (.inl (xs_rows U)))), (h2, .inr (0, [.ref r2])), (r2, .inl (cJ, 4, .inr (.inl (xs_rows U))))]) H := xk_Pset (e := .inl (cJ, 4, .inr (.inl (xs_rows U)))) hP 1 rfl (xk_atL (x_cpy (by decide)))
  replace hD : va_D _ ([(h, .inr (0, [.ref r])), (r, .inl (cJ, 4, .inr (.inl (xs_rows U)))), (h2, .inr (0, [.ref r2])), (r2, .inl (cJ, 4, .inr (.inl (xs_rows U))))]) := xk_Df hD rfl
  exact xk_vretW hx hb hr hlk hP hS rfl dX0_become_14
set_option maxHeartbeats 4000000 in
set_option maxRecDepth 100000 in
theorem k_dropAllOf (l : Launch) (D : va_G) (cI cJ cS : ClassId) (h r h2 r2 : Nat) (S U : Nat → Bool) : xk_Wr l yX0_dropAllOf wsX0_dropAllOf ({ frames := 0, cells := 0, slots := 0, locals := 0 }) D vwCl (xt cI cJ cS) ([(h, .inr (0, [.ref r])), (r, .inl (cJ, 4, .inr (.inl (xs_rows S)))), (h2, .inr (0, [.ref r2])), (r2, .inl (cJ, 4, .inr (.inl (xs_rows U))))]) [.ref h, .ref h2] ([(h, .inr (0, [.ref r])), (r, .inl (cJ, 4, .inr (.inl (xs_rows (fun i => S i && !U i))))), (h2, .inr (0, [.ref r2])), (r2, .inl (cJ, 4, .inr (.inl (xs_rows U))))]) none := by
  refine xk_wr (cc := cX0_dropAllOf) (maxL := 3) (ret := none) (by decide) rfl (Nat.le_of_ble_eq_true rfl) (fun p e s m below meth c ls hx hb hr hlk hml hown hts hl hP hK hN hD hS => ?_)
  replace hl : lv_has ls 3 [(0, .ref h), (1, .ref h2)] := hl
  have hiX0 : ∀ w ∈ u_ws RX0 TX0 1, w ∈ wsX0_dropAllOf := by decide +kernel
  have hP : va_P D vwCl ([(h, .inr (0, [.ref r])), (r, .inl (cJ, 4, .inr (.inl (xs_mix S (fun i => S i && !U i) 0)))), (h2, .inr (0, [.ref r2])), (r2, .inl (cJ, 4, .inr (.inl (xs_rows U))))]) s.heap := by rw [xs_mix_0]; exact hP
  have hD : va_D _ ([(h, .inr (0, [.ref r])), (r, .inl (cJ, 4, .inr (.inl (xs_mix S (fun i => S i && !U i) 0)))), (h2, .inr (0, [.ref r2])), (r2, .inl (cJ, 4, .inr (.inl (xs_rows U))))]) := xk_Df hD rfl
  refine lv_iconst (v := 0) hx hb dX0_dropAllOf_0 (by decide) ?_
  refine lv_istore_n (lv' := [(2, .int 0), (0, .ref h), (1, .ref h2)]) hx hb dX0_dropAllOf_1 rfl hl (by decide) rfl (fun ls hl => ?_)
  refine lv_iload_n hx hb dX0_dropAllOf_2 rfl (lv_at hl 0 rfl) ?_
  refine lv_iconst (v := 4) hx hb dX0_dropAllOf_3 (by decide) ?_
  refine lv_icmp_ge (tgt := 32) hx hb dX0_dropAllOf_4 (by decide) (fun c_4 => ?_) (fun c_4 => ?_)
  · skip
    exact absurd c_4 (by decide)
  · skip
    refine lv_aload_n hx hb dX0_dropAllOf_7 rfl (lv_at hl 1 rfl) ?_
    refine va_get (D := D) (ci := 0) (v := .ref r) (C := RX0) (T := TX0) (N := 1) hx hb hts hiX0 hown hK hP 0 rfl rfl 0 (by decide) (hts (.fieldLink RX0 11 "PointerSweep$CellMap" "rows" "[J") (by decide +kernel)) (fun _ h9 => h9) rfl dX0_dropAllOf_8 ?_
    refine lv_iload_n hx hb dX0_dropAllOf_11 rfl (lv_at hl 0 rfl) ?_
    refine lv_dup2_11 hx hb dX0_dropAllOf_12 rfl rfl ?_
    refine xa_lald hx hb hK hP 1 1 rfl rfl 0 rfl (by decide) (by decide) dX0_dropAllOf_13 ?_
    refine lv_aload_n hx hb dX0_dropAllOf_14 rfl (lv_at hl 2 rfl) ?_
    refine va_get (D := D) (ci := 0) (v := .ref r2) (C := RX0) (T := TX0) (N := 1) hx hb hts hiX0 hown hK hP 2 rfl rfl 0 (by decide) (hts (.fieldLink RX0 11 "PointerSweep$CellMap" "rows" "[J") (by decide +kernel)) (fun _ h9 => h9) rfl dX0_dropAllOf_15 ?_
    refine lv_iload_n hx hb dX0_dropAllOf_18 rfl (lv_at hl 0 rfl) ?_
    refine xa_lald hx hb hK hP 3 1 rfl rfl 0 rfl (by decide) (by decide) dX0_dropAllOf_19 ?_
    refine lv_ldc2 hx hb hown (hts (.constantLong RX0 19 (-1)) (by decide +kernel)) dX0_dropAllOf_20 ?_
    refine lv_lxor hx hb dX0_dropAllOf_23 ?_
    refine lv_land hx hb dX0_dropAllOf_24 ?_
    refine lv_topl (fun y ey => ?_)
    obtain rfl : y = xs_rows (fun i => S i && !U i) 0 := ey.trans (xs_mix_and S U _)
    refine xa_last (ws' := [(h, .inr (0, [.ref r])), (r, .inl (cJ, 4, .inr (.inl (vp_updL (xs_mix S (fun i => S i && !U i) 0) 0 (xs_rows (fun i => S i && !U i) 0))))), (h2, .inr (0, [.ref r2])), (r2, .inl (cJ, 4, .inr (.inl (xs_rows U))))]) hx hb hK hP hD hS 1 1 rfl rfl 0 rfl (by decide) (by decide) dX0_dropAllOf_25 rfl (fun H locs hP hD hS => ?_)
    rw [xs_mix_s] at hP hD
    refine lv_iinc (v := 1) (lv' := [(2, .int 1), (0, .ref h), (1, .ref h2)]) hx hb dX0_dropAllOf_26 hl (k := 0) rfl (by decide) (by decide) rfl (fun ls hl => ?_)
    refine lv_goto (tgt := 2) hx hb dX0_dropAllOf_29 (by decide) ?_
    refine lv_iload_n hx hb dX0_dropAllOf_2 rfl (lv_at hl 0 rfl) ?_
    refine lv_iconst (v := 4) hx hb dX0_dropAllOf_3 (by decide) ?_
    refine lv_icmp_ge (tgt := 32) hx hb dX0_dropAllOf_4 (by decide) (fun c_4 => ?_) (fun c_4 => ?_)
    · skip
      exact absurd c_4 (by decide)
    · skip
      refine lv_aload_n hx hb dX0_dropAllOf_7 rfl (lv_at hl 1 rfl) ?_
      refine va_get (D := D) (ci := 0) (v := .ref r) (C := RX0) (T := TX0) (N := 1) hx hb hts hiX0 hown hK hP 0 rfl rfl 0 (by decide) (hts (.fieldLink RX0 11 "PointerSweep$CellMap" "rows" "[J") (by decide +kernel)) (fun _ h9 => h9) rfl dX0_dropAllOf_8 ?_
      refine lv_iload_n hx hb dX0_dropAllOf_11 rfl (lv_at hl 0 rfl) ?_
      refine lv_dup2_11 hx hb dX0_dropAllOf_12 rfl rfl ?_
      refine xa_lald hx hb hK hP 1 1 rfl rfl 1 rfl (by decide) (by decide) dX0_dropAllOf_13 ?_
      refine lv_aload_n hx hb dX0_dropAllOf_14 rfl (lv_at hl 2 rfl) ?_
      refine va_get (D := D) (ci := 0) (v := .ref r2) (C := RX0) (T := TX0) (N := 1) hx hb hts hiX0 hown hK hP 2 rfl rfl 0 (by decide) (hts (.fieldLink RX0 11 "PointerSweep$CellMap" "rows" "[J") (by decide +kernel)) (fun _ h9 => h9) rfl dX0_dropAllOf_15 ?_
      refine lv_iload_n hx hb dX0_dropAllOf_18 rfl (lv_at hl 0 rfl) ?_
      refine xa_lald hx hb hK hP 3 1 rfl rfl 1 rfl (by decide) (by decide) dX0_dropAllOf_19 ?_
      refine lv_ldc2 hx hb hown (hts (.constantLong RX0 19 (-1)) (by decide +kernel)) dX0_dropAllOf_20 ?_
      refine lv_lxor hx hb dX0_dropAllOf_23 ?_
      refine lv_land hx hb dX0_dropAllOf_24 ?_
      refine lv_topl (fun y ey => ?_)
      obtain rfl : y = xs_rows (fun i => S i && !U i) 1 := ey.trans (xs_mix_and S U _)
      refine xa_last (ws' := [(h, .inr (0, [.ref r])), (r, .inl (cJ, 4, .inr (.inl (vp_updL (xs_mix S (fun i => S i && !U i) 1) 1 (xs_rows (fun i => S i && !U i) 1))))), (h2, .inr (0, [.ref r2])), (r2, .inl (cJ, 4, .inr (.inl (xs_rows U))))]) hx hb hK hP hD hS 1 1 rfl rfl 1 rfl (by decide) (by decide) dX0_dropAllOf_25 rfl (fun H locs hP hD hS => ?_)
      rw [xs_mix_s] at hP hD
      refine lv_iinc (v := 2) (lv' := [(2, .int 2), (0, .ref h), (1, .ref h2)]) hx hb dX0_dropAllOf_26 hl (k := 0) rfl (by decide) (by decide) rfl (fun ls hl => ?_)
      refine lv_goto (tgt := 2) hx hb dX0_dropAllOf_29 (by decide) ?_
      refine lv_iload_n hx hb dX0_dropAllOf_2 rfl (lv_at hl 0 rfl) ?_
      refine lv_iconst (v := 4) hx hb dX0_dropAllOf_3 (by decide) ?_
      refine lv_icmp_ge (tgt := 32) hx hb dX0_dropAllOf_4 (by decide) (fun c_4 => ?_) (fun c_4 => ?_)
      · skip
        exact absurd c_4 (by decide)
      · skip
        refine lv_aload_n hx hb dX0_dropAllOf_7 rfl (lv_at hl 1 rfl) ?_
        refine va_get (D := D) (ci := 0) (v := .ref r) (C := RX0) (T := TX0) (N := 1) hx hb hts hiX0 hown hK hP 0 rfl rfl 0 (by decide) (hts (.fieldLink RX0 11 "PointerSweep$CellMap" "rows" "[J") (by decide +kernel)) (fun _ h9 => h9) rfl dX0_dropAllOf_8 ?_
        refine lv_iload_n hx hb dX0_dropAllOf_11 rfl (lv_at hl 0 rfl) ?_
        refine lv_dup2_11 hx hb dX0_dropAllOf_12 rfl rfl ?_
        refine xa_lald hx hb hK hP 1 1 rfl rfl 2 rfl (by decide) (by decide) dX0_dropAllOf_13 ?_
        refine lv_aload_n hx hb dX0_dropAllOf_14 rfl (lv_at hl 2 rfl) ?_
        refine va_get (D := D) (ci := 0) (v := .ref r2) (C := RX0) (T := TX0) (N := 1) hx hb hts hiX0 hown hK hP 2 rfl rfl 0 (by decide) (hts (.fieldLink RX0 11 "PointerSweep$CellMap" "rows" "[J") (by decide +kernel)) (fun _ h9 => h9) rfl dX0_dropAllOf_15 ?_
        refine lv_iload_n hx hb dX0_dropAllOf_18 rfl (lv_at hl 0 rfl) ?_
        refine xa_lald hx hb hK hP 3 1 rfl rfl 2 rfl (by decide) (by decide) dX0_dropAllOf_19 ?_
        refine lv_ldc2 hx hb hown (hts (.constantLong RX0 19 (-1)) (by decide +kernel)) dX0_dropAllOf_20 ?_
        refine lv_lxor hx hb dX0_dropAllOf_23 ?_
        refine lv_land hx hb dX0_dropAllOf_24 ?_
        refine lv_topl (fun y ey => ?_)
        obtain rfl : y = xs_rows (fun i => S i && !U i) 2 := ey.trans (xs_mix_and S U _)
        refine xa_last (ws' := [(h, .inr (0, [.ref r])), (r, .inl (cJ, 4, .inr (.inl (vp_updL (xs_mix S (fun i => S i && !U i) 2) 2 (xs_rows (fun i => S i && !U i) 2))))), (h2, .inr (0, [.ref r2])), (r2, .inl (cJ, 4, .inr (.inl (xs_rows U))))]) hx hb hK hP hD hS 1 1 rfl rfl 2 rfl (by decide) (by decide) dX0_dropAllOf_25 rfl (fun H locs hP hD hS => ?_)
        rw [xs_mix_s] at hP hD
        refine lv_iinc (v := 3) (lv' := [(2, .int 3), (0, .ref h), (1, .ref h2)]) hx hb dX0_dropAllOf_26 hl (k := 0) rfl (by decide) (by decide) rfl (fun ls hl => ?_)
        refine lv_goto (tgt := 2) hx hb dX0_dropAllOf_29 (by decide) ?_
        refine lv_iload_n hx hb dX0_dropAllOf_2 rfl (lv_at hl 0 rfl) ?_
        refine lv_iconst (v := 4) hx hb dX0_dropAllOf_3 (by decide) ?_
        refine lv_icmp_ge (tgt := 32) hx hb dX0_dropAllOf_4 (by decide) (fun c_4 => ?_) (fun c_4 => ?_)
        · skip
          exact absurd c_4 (by decide)
        · skip
          refine lv_aload_n hx hb dX0_dropAllOf_7 rfl (lv_at hl 1 rfl) ?_
          refine va_get (D := D) (ci := 0) (v := .ref r) (C := RX0) (T := TX0) (N := 1) hx hb hts hiX0 hown hK hP 0 rfl rfl 0 (by decide) (hts (.fieldLink RX0 11 "PointerSweep$CellMap" "rows" "[J") (by decide +kernel)) (fun _ h9 => h9) rfl dX0_dropAllOf_8 ?_
          refine lv_iload_n hx hb dX0_dropAllOf_11 rfl (lv_at hl 0 rfl) ?_
          refine lv_dup2_11 hx hb dX0_dropAllOf_12 rfl rfl ?_
          refine xa_lald hx hb hK hP 1 1 rfl rfl 3 rfl (by decide) (by decide) dX0_dropAllOf_13 ?_
          refine lv_aload_n hx hb dX0_dropAllOf_14 rfl (lv_at hl 2 rfl) ?_
          refine va_get (D := D) (ci := 0) (v := .ref r2) (C := RX0) (T := TX0) (N := 1) hx hb hts hiX0 hown hK hP 2 rfl rfl 0 (by decide) (hts (.fieldLink RX0 11 "PointerSweep$CellMap" "rows" "[J") (by decide +kernel)) (fun _ h9 => h9) rfl dX0_dropAllOf_15 ?_
          refine lv_iload_n hx hb dX0_dropAllOf_18 rfl (lv_at hl 0 rfl) ?_
          refine xa_lald hx hb hK hP 3 1 rfl rfl 3 rfl (by decide) (by decide) dX0_dropAllOf_19 ?_
          refine lv_ldc2 hx hb hown (hts (.constantLong RX0 19 (-1)) (by decide +kernel)) dX0_dropAllOf_20 ?_
          refine lv_lxor hx hb dX0_dropAllOf_23 ?_
          refine lv_land hx hb dX0_dropAllOf_24 ?_
          refine lv_topl (fun y ey => ?_)
          obtain rfl : y = xs_rows (fun i => S i && !U i) 3 := ey.trans (xs_mix_and S U _)
          refine xa_last (ws' := [(h, .inr (0, [.ref r])), (r, .inl (cJ, 4, .inr (.inl (vp_updL (xs_mix S (fun i => S i && !U i) 3) 3 (xs_rows (fun i => S i && !U i) 3))))), (h2, .inr (0, [.ref r2])), (r2, .inl (cJ, 4, .inr (.inl (xs_rows U))))]) hx hb hK hP hD hS 1 1 rfl rfl 3 rfl (by decide) (by decide) dX0_dropAllOf_25 rfl (fun H locs hP hD hS => ?_)
          rw [xs_mix_s] at hP hD
          refine lv_iinc (v := 4) (lv' := [(2, .int 4), (0, .ref h), (1, .ref h2)]) hx hb dX0_dropAllOf_26 hl (k := 0) rfl (by decide) (by decide) rfl (fun ls hl => ?_)
          refine lv_goto (tgt := 2) hx hb dX0_dropAllOf_29 (by decide) ?_
          refine lv_iload_n hx hb dX0_dropAllOf_2 rfl (lv_at hl 0 rfl) ?_
          refine lv_iconst (v := 4) hx hb dX0_dropAllOf_3 (by decide) ?_
          refine lv_icmp_ge (tgt := 32) hx hb dX0_dropAllOf_4 (by decide) (fun c_4 => ?_) (fun c_4 => ?_)
          · skip
            replace hP : va_P D vwCl ([(h, .inr (0, [.ref r])), (r, .inl (cJ, 4, .inr (.inl (xs_rows (fun i => S i && !U i))))), (h2, .inr (0, [.ref r2])), (r2, .inl (cJ, 4, .inr (.inl (xs_rows U))))]) H := xk_Pset (e := .inl (cJ, 4, .inr (.inl (xs_rows (fun i => S i && !U i))))) hP 1 rfl (xk_atL (xs_mix_4 S _))
            replace hD : va_D _ ([(h, .inr (0, [.ref r])), (r, .inl (cJ, 4, .inr (.inl (xs_rows (fun i => S i && !U i))))), (h2, .inr (0, [.ref r2])), (r2, .inl (cJ, 4, .inr (.inl (xs_rows U))))]) := xk_Df hD rfl
            exact xk_vretW hx hb hr hlk hP hS rfl dX0_dropAllOf_32
          · skip
            exact absurd (by decide) c_4
set_option maxHeartbeats 4000000 in
set_option maxRecDepth 100000 in
theorem k_dropAllSelf (l : Launch) (D : va_G) (cI cJ cS : ClassId) (h r : Nat) (S : Nat → Bool) : xk_Wr l yX0_dropAllOf wsX0_dropAllOf ({ frames := 0, cells := 0, slots := 0, locals := 0 }) D vwCl (xt cI cJ cS) ([(h, .inr (0, [.ref r])), (r, .inl (cJ, 4, .inr (.inl (xs_rows S))))]) [.ref h, .ref h] ([(h, .inr (0, [.ref r])), (r, .inl (cJ, 4, .inr (.inl (xs_rows (fun i => S i && !S i)))))]) none := by
  refine xk_wr (cc := cX0_dropAllOf) (maxL := 3) (ret := none) (by decide) rfl (Nat.le_of_ble_eq_true rfl) (fun p e s m below meth c ls hx hb hr hlk hml hown hts hl hP hK hN hD hS => ?_)
  replace hl : lv_has ls 3 [(0, .ref h), (1, .ref h)] := hl
  have hiX0 : ∀ w ∈ u_ws RX0 TX0 1, w ∈ wsX0_dropAllOf := by decide +kernel
  have hP : va_P D vwCl ([(h, .inr (0, [.ref r])), (r, .inl (cJ, 4, .inr (.inl (xs_mix S (fun i => S i && !S i) 0))))]) s.heap := by rw [xs_mix_0]; exact hP
  have hD : va_D _ ([(h, .inr (0, [.ref r])), (r, .inl (cJ, 4, .inr (.inl (xs_mix S (fun i => S i && !S i) 0))))]) := xk_Df hD rfl
  refine lv_iconst (v := 0) hx hb dX0_dropAllOf_0 (by decide) ?_
  refine lv_istore_n (lv' := [(2, .int 0), (0, .ref h), (1, .ref h)]) hx hb dX0_dropAllOf_1 rfl hl (by decide) rfl (fun ls hl => ?_)
  refine lv_iload_n hx hb dX0_dropAllOf_2 rfl (lv_at hl 0 rfl) ?_
  refine lv_iconst (v := 4) hx hb dX0_dropAllOf_3 (by decide) ?_
  refine lv_icmp_ge (tgt := 32) hx hb dX0_dropAllOf_4 (by decide) (fun c_4 => ?_) (fun c_4 => ?_)
  · skip
    exact absurd c_4 (by decide)
  · skip
    refine lv_aload_n hx hb dX0_dropAllOf_7 rfl (lv_at hl 1 rfl) ?_
    refine va_get (D := D) (ci := 0) (v := .ref r) (C := RX0) (T := TX0) (N := 1) hx hb hts hiX0 hown hK hP 0 rfl rfl 0 (by decide) (hts (.fieldLink RX0 11 "PointerSweep$CellMap" "rows" "[J") (by decide +kernel)) (fun _ h9 => h9) rfl dX0_dropAllOf_8 ?_
    refine lv_iload_n hx hb dX0_dropAllOf_11 rfl (lv_at hl 0 rfl) ?_
    refine lv_dup2_11 hx hb dX0_dropAllOf_12 rfl rfl ?_
    refine xa_lald hx hb hK hP 1 1 rfl rfl 0 rfl (by decide) (by decide) dX0_dropAllOf_13 ?_
    refine lv_aload_n hx hb dX0_dropAllOf_14 rfl (lv_at hl 2 rfl) ?_
    refine va_get (D := D) (ci := 0) (v := .ref r) (C := RX0) (T := TX0) (N := 1) hx hb hts hiX0 hown hK hP 0 rfl rfl 0 (by decide) (hts (.fieldLink RX0 11 "PointerSweep$CellMap" "rows" "[J") (by decide +kernel)) (fun _ h9 => h9) rfl dX0_dropAllOf_15 ?_
    refine lv_iload_n hx hb dX0_dropAllOf_18 rfl (lv_at hl 0 rfl) ?_
    refine xa_lald hx hb hK hP 1 1 rfl rfl 0 rfl (by decide) (by decide) dX0_dropAllOf_19 ?_
    refine lv_ldc2 hx hb hown (hts (.constantLong RX0 19 (-1)) (by decide +kernel)) dX0_dropAllOf_20 ?_
    refine lv_lxor hx hb dX0_dropAllOf_23 ?_
    refine lv_land hx hb dX0_dropAllOf_24 ?_
    refine lv_topl (fun y ey => ?_)
    obtain rfl : y = xs_rows (fun i => S i && !S i) 0 := ey.trans (xs_mix_and2 S _)
    refine xa_last (ws' := [(h, .inr (0, [.ref r])), (r, .inl (cJ, 4, .inr (.inl (vp_updL (xs_mix S (fun i => S i && !S i) 0) 0 (xs_rows (fun i => S i && !S i) 0)))))]) hx hb hK hP hD hS 1 1 rfl rfl 0 rfl (by decide) (by decide) dX0_dropAllOf_25 rfl (fun H locs hP hD hS => ?_)
    rw [xs_mix_s] at hP hD
    refine lv_iinc (v := 1) (lv' := [(2, .int 1), (0, .ref h), (1, .ref h)]) hx hb dX0_dropAllOf_26 hl (k := 0) rfl (by decide) (by decide) rfl (fun ls hl => ?_)
    refine lv_goto (tgt := 2) hx hb dX0_dropAllOf_29 (by decide) ?_
    refine lv_iload_n hx hb dX0_dropAllOf_2 rfl (lv_at hl 0 rfl) ?_
    refine lv_iconst (v := 4) hx hb dX0_dropAllOf_3 (by decide) ?_
    refine lv_icmp_ge (tgt := 32) hx hb dX0_dropAllOf_4 (by decide) (fun c_4 => ?_) (fun c_4 => ?_)
    · skip
      exact absurd c_4 (by decide)
    · skip
      refine lv_aload_n hx hb dX0_dropAllOf_7 rfl (lv_at hl 1 rfl) ?_
      refine va_get (D := D) (ci := 0) (v := .ref r) (C := RX0) (T := TX0) (N := 1) hx hb hts hiX0 hown hK hP 0 rfl rfl 0 (by decide) (hts (.fieldLink RX0 11 "PointerSweep$CellMap" "rows" "[J") (by decide +kernel)) (fun _ h9 => h9) rfl dX0_dropAllOf_8 ?_
      refine lv_iload_n hx hb dX0_dropAllOf_11 rfl (lv_at hl 0 rfl) ?_
      refine lv_dup2_11 hx hb dX0_dropAllOf_12 rfl rfl ?_
      refine xa_lald hx hb hK hP 1 1 rfl rfl 1 rfl (by decide) (by decide) dX0_dropAllOf_13 ?_
      refine lv_aload_n hx hb dX0_dropAllOf_14 rfl (lv_at hl 2 rfl) ?_
      refine va_get (D := D) (ci := 0) (v := .ref r) (C := RX0) (T := TX0) (N := 1) hx hb hts hiX0 hown hK hP 0 rfl rfl 0 (by decide) (hts (.fieldLink RX0 11 "PointerSweep$CellMap" "rows" "[J") (by decide +kernel)) (fun _ h9 => h9) rfl dX0_dropAllOf_15 ?_
      refine lv_iload_n hx hb dX0_dropAllOf_18 rfl (lv_at hl 0 rfl) ?_
      refine xa_lald hx hb hK hP 1 1 rfl rfl 1 rfl (by decide) (by decide) dX0_dropAllOf_19 ?_
      refine lv_ldc2 hx hb hown (hts (.constantLong RX0 19 (-1)) (by decide +kernel)) dX0_dropAllOf_20 ?_
      refine lv_lxor hx hb dX0_dropAllOf_23 ?_
      refine lv_land hx hb dX0_dropAllOf_24 ?_
      refine lv_topl (fun y ey => ?_)
      obtain rfl : y = xs_rows (fun i => S i && !S i) 1 := ey.trans (xs_mix_and2 S _)
      refine xa_last (ws' := [(h, .inr (0, [.ref r])), (r, .inl (cJ, 4, .inr (.inl (vp_updL (xs_mix S (fun i => S i && !S i) 1) 1 (xs_rows (fun i => S i && !S i) 1)))))]) hx hb hK hP hD hS 1 1 rfl rfl 1 rfl (by decide) (by decide) dX0_dropAllOf_25 rfl (fun H locs hP hD hS => ?_)
      rw [xs_mix_s] at hP hD
      refine lv_iinc (v := 2) (lv' := [(2, .int 2), (0, .ref h), (1, .ref h)]) hx hb dX0_dropAllOf_26 hl (k := 0) rfl (by decide) (by decide) rfl (fun ls hl => ?_)
      refine lv_goto (tgt := 2) hx hb dX0_dropAllOf_29 (by decide) ?_
      refine lv_iload_n hx hb dX0_dropAllOf_2 rfl (lv_at hl 0 rfl) ?_
      refine lv_iconst (v := 4) hx hb dX0_dropAllOf_3 (by decide) ?_
      refine lv_icmp_ge (tgt := 32) hx hb dX0_dropAllOf_4 (by decide) (fun c_4 => ?_) (fun c_4 => ?_)
      · skip
        exact absurd c_4 (by decide)
      · skip
        refine lv_aload_n hx hb dX0_dropAllOf_7 rfl (lv_at hl 1 rfl) ?_
        refine va_get (D := D) (ci := 0) (v := .ref r) (C := RX0) (T := TX0) (N := 1) hx hb hts hiX0 hown hK hP 0 rfl rfl 0 (by decide) (hts (.fieldLink RX0 11 "PointerSweep$CellMap" "rows" "[J") (by decide +kernel)) (fun _ h9 => h9) rfl dX0_dropAllOf_8 ?_
        refine lv_iload_n hx hb dX0_dropAllOf_11 rfl (lv_at hl 0 rfl) ?_
        refine lv_dup2_11 hx hb dX0_dropAllOf_12 rfl rfl ?_
        refine xa_lald hx hb hK hP 1 1 rfl rfl 2 rfl (by decide) (by decide) dX0_dropAllOf_13 ?_
        refine lv_aload_n hx hb dX0_dropAllOf_14 rfl (lv_at hl 2 rfl) ?_
        refine va_get (D := D) (ci := 0) (v := .ref r) (C := RX0) (T := TX0) (N := 1) hx hb hts hiX0 hown hK hP 0 rfl rfl 0 (by decide) (hts (.fieldLink RX0 11 "PointerSweep$CellMap" "rows" "[J") (by decide +kernel)) (fun _ h9 => h9) rfl dX0_dropAllOf_15 ?_
        refine lv_iload_n hx hb dX0_dropAllOf_18 rfl (lv_at hl 0 rfl) ?_
        refine xa_lald hx hb hK hP 1 1 rfl rfl 2 rfl (by decide) (by decide) dX0_dropAllOf_19 ?_
        refine lv_ldc2 hx hb hown (hts (.constantLong RX0 19 (-1)) (by decide +kernel)) dX0_dropAllOf_20 ?_
        refine lv_lxor hx hb dX0_dropAllOf_23 ?_
        refine lv_land hx hb dX0_dropAllOf_24 ?_
        refine lv_topl (fun y ey => ?_)
        obtain rfl : y = xs_rows (fun i => S i && !S i) 2 := ey.trans (xs_mix_and2 S _)
        refine xa_last (ws' := [(h, .inr (0, [.ref r])), (r, .inl (cJ, 4, .inr (.inl (vp_updL (xs_mix S (fun i => S i && !S i) 2) 2 (xs_rows (fun i => S i && !S i) 2)))))]) hx hb hK hP hD hS 1 1 rfl rfl 2 rfl (by decide) (by decide) dX0_dropAllOf_25 rfl (fun H locs hP hD hS => ?_)
        rw [xs_mix_s] at hP hD
        refine lv_iinc (v := 3) (lv' := [(2, .int 3), (0, .ref h), (1, .ref h)]) hx hb dX0_dropAllOf_26 hl (k := 0) rfl (by decide) (by decide) rfl (fun ls hl => ?_)
        refine lv_goto (tgt := 2) hx hb dX0_dropAllOf_29 (by decide) ?_
        refine lv_iload_n hx hb dX0_dropAllOf_2 rfl (lv_at hl 0 rfl) ?_
        refine lv_iconst (v := 4) hx hb dX0_dropAllOf_3 (by decide) ?_
        refine lv_icmp_ge (tgt := 32) hx hb dX0_dropAllOf_4 (by decide) (fun c_4 => ?_) (fun c_4 => ?_)
        · skip
          exact absurd c_4 (by decide)
        · skip
          refine lv_aload_n hx hb dX0_dropAllOf_7 rfl (lv_at hl 1 rfl) ?_
          refine va_get (D := D) (ci := 0) (v := .ref r) (C := RX0) (T := TX0) (N := 1) hx hb hts hiX0 hown hK hP 0 rfl rfl 0 (by decide) (hts (.fieldLink RX0 11 "PointerSweep$CellMap" "rows" "[J") (by decide +kernel)) (fun _ h9 => h9) rfl dX0_dropAllOf_8 ?_
          refine lv_iload_n hx hb dX0_dropAllOf_11 rfl (lv_at hl 0 rfl) ?_
          refine lv_dup2_11 hx hb dX0_dropAllOf_12 rfl rfl ?_
          refine xa_lald hx hb hK hP 1 1 rfl rfl 3 rfl (by decide) (by decide) dX0_dropAllOf_13 ?_
          refine lv_aload_n hx hb dX0_dropAllOf_14 rfl (lv_at hl 2 rfl) ?_
          refine va_get (D := D) (ci := 0) (v := .ref r) (C := RX0) (T := TX0) (N := 1) hx hb hts hiX0 hown hK hP 0 rfl rfl 0 (by decide) (hts (.fieldLink RX0 11 "PointerSweep$CellMap" "rows" "[J") (by decide +kernel)) (fun _ h9 => h9) rfl dX0_dropAllOf_15 ?_
          refine lv_iload_n hx hb dX0_dropAllOf_18 rfl (lv_at hl 0 rfl) ?_
          refine xa_lald hx hb hK hP 1 1 rfl rfl 3 rfl (by decide) (by decide) dX0_dropAllOf_19 ?_
          refine lv_ldc2 hx hb hown (hts (.constantLong RX0 19 (-1)) (by decide +kernel)) dX0_dropAllOf_20 ?_
          refine lv_lxor hx hb dX0_dropAllOf_23 ?_
          refine lv_land hx hb dX0_dropAllOf_24 ?_
          refine lv_topl (fun y ey => ?_)
          obtain rfl : y = xs_rows (fun i => S i && !S i) 3 := ey.trans (xs_mix_and2 S _)
          refine xa_last (ws' := [(h, .inr (0, [.ref r])), (r, .inl (cJ, 4, .inr (.inl (vp_updL (xs_mix S (fun i => S i && !S i) 3) 3 (xs_rows (fun i => S i && !S i) 3)))))]) hx hb hK hP hD hS 1 1 rfl rfl 3 rfl (by decide) (by decide) dX0_dropAllOf_25 rfl (fun H locs hP hD hS => ?_)
          rw [xs_mix_s] at hP hD
          refine lv_iinc (v := 4) (lv' := [(2, .int 4), (0, .ref h), (1, .ref h)]) hx hb dX0_dropAllOf_26 hl (k := 0) rfl (by decide) (by decide) rfl (fun ls hl => ?_)
          refine lv_goto (tgt := 2) hx hb dX0_dropAllOf_29 (by decide) ?_
          refine lv_iload_n hx hb dX0_dropAllOf_2 rfl (lv_at hl 0 rfl) ?_
          refine lv_iconst (v := 4) hx hb dX0_dropAllOf_3 (by decide) ?_
          refine lv_icmp_ge (tgt := 32) hx hb dX0_dropAllOf_4 (by decide) (fun c_4 => ?_) (fun c_4 => ?_)
          · skip
            replace hP : va_P D vwCl ([(h, .inr (0, [.ref r])), (r, .inl (cJ, 4, .inr (.inl (xs_rows (fun i => S i && !S i)))))]) H := xk_Pset (e := .inl (cJ, 4, .inr (.inl (xs_rows (fun i => S i && !S i))))) hP 1 rfl (xk_atL (xs_mix_4 S _))
            replace hD : va_D _ ([(h, .inr (0, [.ref r])), (r, .inl (cJ, 4, .inr (.inl (xs_rows (fun i => S i && !S i)))))]) := xk_Df hD rfl
            exact xk_vretW hx hb hr hlk hP hS rfl dX0_dropAllOf_32
          · skip
            exact absurd (by decide) c_4
end
section
/-! What the methods of State do, as functions of what its cells hold -/
section XST
def xu (G Q : Nat → Bool) (k : Nat) : Int32 := if G k = true then 1 else if Q k = true then 2 else 0
theorem xb_ne {b : Bool} (h : ¬ xb b = 0) : b = true := by
  cases b
  · exact absurd rfl h
  · rfl
theorem xb_eq {b : Bool} (h : xb b = 0) : b = false := xb_0.mp h
theorem xu_1 {G Q : Nat → Bool} {k : Nat} (h : ¬ xb (G k) = 0) : (1 : Int32) = xu G Q k := by unfold xu; rw [if_pos (xb_ne h)]
theorem xu_2 {G Q : Nat → Bool} {k : Nat} (h : xb (G k) = 0) (h2 : ¬ xb (Q k) = 0) : (2 : Int32) = xu G Q k := by unfold xu; rw [if_neg (by rw [xb_eq h]; decide), if_pos (xb_ne h2)]
theorem xu_0 {G Q : Nat → Bool} {k : Nat} (h : xb (G k) = 0) (h2 : xb (Q k) = 0) : (0 : Int32) = xu G Q k := by unfold xu; rw [if_neg (by rw [xb_eq h]; decide), if_neg (by rw [xb_eq h2]; decide)]
/-- the first row of n free cells, from cell c on, m cells being left, free of them before it -/
def x_ffr (u : Nat → Int32) (n : Int32) : Nat → Nat → Int32 → Int32
  | 0, _, _ => -1
  | m + 1, c, fr => if (if u c = 0 then fr + 1 else 0) = n then nI c - n + 1 else x_ffr u n m (c + 1) (if u c = 0 then fr + 1 else 0)
def x_add (G : Nat → Bool) (a b : Nat) : Nat → Bool := fun k => G k || (decide (a ≤ k) && decide (k < b))
def x_sub (G : Nat → Bool) (a b : Nat) : Nat → Bool := fun k => G k && !(decide (a ≤ k) && decide (k < b))
def x_clr (f : Nat → xw) (a b : Nat) : Nat → xw := fun k => if a ≤ k ∧ k < b then (0, none) else f k
theorem x_add_0 (G : Nat → Bool) (a : Nat) : x_add G a a = G := by
  funext k
  simp only [x_add]
  by_cases h : a ≤ k
  · simp [show ¬ k < a by omega]
  · simp [h]
theorem x_sub_0 (G : Nat → Bool) (a : Nat) : x_sub G a a = G := by
  funext k
  simp only [x_sub]
  by_cases h : a ≤ k
  · simp [show ¬ k < a by omega]
  · simp [h]
theorem x_clr_0 (f : Nat → xw) (a : Nat) : x_clr f a a = f := by
  funext k
  simp only [x_clr]
  rw [if_neg (by omega)]
theorem x_add_s (G : Nat → Bool) {a i : Nat} (h : a ≤ i) : va_up (x_add G a i) i true = x_add G a (i + 1) := by
  funext k
  by_cases hk : k = i
  · subst hk; simp [va_up, x_add, h]
  · simp only [va_up, x_add, hk, if_false]
    congr 2
    by_cases h2 : k < i
    · simp [h2, show k < i + 1 by omega]
    · simp [h2, show ¬ k < i + 1 by omega]
theorem x_sub_s (G : Nat → Bool) {a i : Nat} (h : a ≤ i) : va_up (x_sub G a i) i false = x_sub G a (i + 1) := by
  funext k
  by_cases hk : k = i
  · subst hk; simp [va_up, x_sub, h]
  · simp only [va_up, x_sub, hk, if_false]
    congr 3
    by_cases h2 : k < i
    · simp [h2, show k < i + 1 by omega]
    · simp [h2, show ¬ k < i + 1 by omega]
theorem x_clr_s (f : Nat → xw) {a i : Nat} (h : a ≤ i) : va_up (x_clr f a i) i (0, none) = x_clr f a (i + 1) := by
  funext k
  by_cases hk : k = i
  · subst hk; simp [va_up, x_clr, h]
  · simp only [va_up, x_clr, hk, if_false]
    by_cases h2 : a ≤ k ∧ k < i
    · rw [if_pos h2, if_pos (by omega)]
    · rw [if_neg h2, if_neg (by omega)]
def x_rf (F : Nat → Bool) : Nat → Nat
  | 0 => 0
  | k + 1 => if F (k + 1) = true then k + 1 else x_rf F k
def x_rt (G F : Nat → Bool) : Nat → Nat → Nat
  | 0, t => t
  | m + 1, t => if G t = true ∧ F t = false then x_rt G F m (t + 1) else t
theorem x_rt_le (G F : Nat → Bool) : ∀ m t, x_rt G F m t ≤ t + m
  | 0, t => Nat.le_refl _
  | m + 1, t => by
    have := x_rt_le G F m (t + 1)
    show (if G t = true ∧ F t = false then x_rt G F m (t + 1) else t) ≤ _
    split <;> omega
theorem x_rf_le (F : Nat → Bool) : ∀ k, x_rf F k ≤ k
  | 0 => Nat.le_refl _
  | k + 1 => by
    have := x_rf_le F k
    show (if F (k + 1) = true then k + 1 else x_rf F k) ≤ _
    split <;> omega
def x_acc (f : Nat → Int32) (a : Nat) : Nat → Int32
  | 0 => 0
  | n + 1 => x_acc f a n + f (a + n)
def xd (dy : Nat → Bool) : Int32 := nI (xs_n dy 0 16)
theorem xd_is (dy : Nat → Bool) {k : Nat} (hk : k < 16) : (xd dy >>> (nI k &&& 31)) &&& 1 = 0 ↔ dy k = false := by
  have hl := xs_n_lt dy 0 16
  have e1 : nI (xs_n dy 0 16) >>> (nI k &&& 31) = nI (xs_n dy 0 16 / 2 ^ k) := pk_shrN (by omega) _ k (s_l k (by omega))
  have h2 : xs_n dy 0 16 / 2 ^ k < 2 ^ 32 := Nat.lt_of_le_of_lt (Nat.div_le_self _ _) (by omega)
  unfold xd
  rw [e1, pk_andN h2 1 (by decide)]
  have h3 : xs_n dy 0 16 / 2 ^ k % 2 ^ 1 = ((xs_n dy 0 16).testBit k).toNat := by
    rw [Nat.pow_one, Nat.testBit_eq_decide_div_mod_eq]
    rcases Nat.mod_two_eq_zero_or_one (xs_n dy 0 16 / 2 ^ k) with h | h <;> simp [h]
  rw [h3, xs_n_bit]
  simp only [hk, decide_true, Bool.true_and, Nat.zero_add]
  cases dy k <;> decide
theorem xd_add (dy : Nat → Bool) {k : Nat} (hk : k < 16) : xd dy ||| (1 <<< (nI k &&& 31)) = xd (va_up dy k true) := by
  have hl := xs_n_lt dy 0 16
  have e1 : (1 : Int32) <<< (nI k &&& 31) = nI (2 ^ k) := by
    have := pk_shlN (n := 1) (nI k &&& 31) k (s_l k (by omega)) (by rw [Nat.one_mul]; exact Nat.pow_lt_pow_right (by decide) (by omega))
    rw [Nat.one_mul] at this
    exact this
  have hp : 2 ^ k < 2 ^ 16 := Nat.pow_lt_pow_right (by decide) hk
  unfold xd
  rw [e1]
  apply Int32.toBitVec_inj.mp
  apply BitVec.eq_of_toNat_eq
  rw [Int32.toBitVec_or, BitVec.toNat_or]
  have t1 : ∀ x, x < 2 ^ 16 → (nI x).toBitVec.toNat = x := fun x hx => pk_tn (by omega)
  rw [t1 _ hl, t1 _ hp, t1 _ (xs_n_lt _ _ _)]
  apply Nat.eq_of_testBit_eq
  intro q
  rw [Nat.testBit_or, xs_n_bit, xs_n_bit, Nat.testBit_two_pow]
  simp only [Nat.zero_add, va_up]
  by_cases hq : q = k
  · subst hq; simp [hk]
  · simp [hq, show ¬ k = q from fun e => hq e.symm]
def x_stale (X : Nat → Bool) (w : xw) : Bool := xw_p w && decide (0 < xs_w X (xw_f w) (xw_t w))
theorem x_stale_np {X : Nat → Bool} {w : xw} (h : xb (xw_p w) = 0) : (0 : Int32) = xb (x_stale X w) := by unfold x_stale; rw [xb_eq h]; rfl
theorem xs_w_le (S : Nat → Bool) (a b : Nat) : xs_w S a b ≤ 256 := xs_c_le _ _
theorem x_stale_no {X : Nat → Bool} {w : xw} (h : nI (xs_w X (xw_f w) (xw_t w)) ≤ 0) : (0 : Int32) = xb (x_stale X w) := by
  have h1 := xs_w_le X (xw_f w) (xw_t w)
  have h2 : ¬ 0 < xs_w X (xw_f w) (xw_t w) := fun q => nI_nle q (by omega) h
  unfold x_stale
  rw [decide_eq_false h2, Bool.and_false]
  rfl
theorem x_stale_yes {X : Nat → Bool} {w : xw} (hp : ¬ xb (xw_p w) = 0) (h : ¬ nI (xs_w X (xw_f w) (xw_t w)) ≤ 0) : (1 : Int32) = xb (x_stale X w) := by
  have h2 : 0 < xs_w X (xw_f w) (xw_t w) := by
    rcases Nat.eq_zero_or_pos (xs_w X (xw_f w) (xw_t w)) with q | q
    · rw [q] at h; exact absurd (by decide) h
    · exact q
  unfold x_stale
  rw [decide_eq_true h2, xb_ne hp]
  rfl
def x_lk (X : Nat → Bool) (w : xw) : xw := if x_stale X w = true then (w.1, none) else w
theorem x_lk_ok {X : Nat → Bool} {w : xw} (h : xw_ok w) : xw_ok (x_lk X w) := by
  unfold x_lk
  split
  · exact trivial
  · exact h
def x_tk (X : Nat → Bool) (w : xw) (tal : Nat → Int32) : Nat → Int32 := if x_stale X w = true then upd tal 3 (tal 3 + 1) else tal
def x_dk (seen : Nat) (w : xw) (k : Nat) (dy : Nat → Bool) : Nat → Bool := if xw_p w = true ∧ k / 16 < seen then va_up dy (k / 16) true else dy
def x_cl (X : Nat → Bool) (f : Nat → xw) (a b : Nat) : Nat → xw := fun k => if a ≤ k ∧ k < b then x_lk X (f k) else f k
theorem x_cl_0 (X : Nat → Bool) (f : Nat → xw) (a : Nat) : x_cl X f a a = f := by
  funext k
  simp only [x_cl]
  rw [if_neg (by omega)]
theorem x_cl_t (X : Nat → Bool) (f : Nat → xw) {a i : Nat} (h : a ≤ i) (hs : x_stale X (f i) = true) : va_up (x_cl X f a i) i ((f i).1, none) = x_cl X f a (i + 1) := by
  funext k
  by_cases hk : k = i
  · subst hk; simp [va_up, x_cl, h, x_lk, hs]
  · simp only [va_up, x_cl, hk, if_false]
    by_cases h2 : a ≤ k ∧ k < i
    · rw [if_pos h2, if_pos (by omega)]
    · rw [if_neg h2, if_neg (by omega)]
theorem x_cl_f (X : Nat → Bool) (f : Nat → xw) {a i : Nat} (hs : x_stale X (f i) = false) : x_cl X f a i = x_cl X f a (i + 1) := by
  funext k
  simp only [x_cl]
  by_cases hk : k = i
  · subst hk
    rw [if_neg (by omega)]
    by_cases h2 : a ≤ k
    · rw [if_pos (by omega)]; simp [x_lk, hs]
    · rw [if_neg (by omega)]
  · by_cases h2 : a ≤ k ∧ k < i
    · rw [if_pos h2, if_pos (by omega)]
    · rw [if_neg h2, if_neg (by omega)]
theorem x_cl_at (X : Nat → Bool) (f : Nat → xw) (a i : Nat) : x_cl X f a i i = f i := by
  simp only [x_cl]
  rw [if_neg (by omega)]
theorem x_cl_ok {X : Nat → Bool} {f : Nat → xw} (h : ∀ k, xw_ok (f k)) (a b k : Nat) : xw_ok (x_cl X f a b k) := by
  simp only [x_cl]
  split
  · exact x_lk_ok (h k)
  · exact h k
theorem x_nI1 (k : Nat) : nI k + 1 = nI (k + 1) := nI_1 k
theorem xn_ge {a b : Nat} (hb : b < 2 ^ 31) (h : b ≤ a) (ha : a < 2 ^ 31) : nI b ≤ nI a := nI_le h ha
theorem xn_le_of {a b : Nat} (ha : a < 2 ^ 31) (hb : b < 2 ^ 31) (h : nI a ≤ nI b) : a ≤ b := (nI_leI ha hb).mp h
theorem xn_lt_of {a b : Nat} (ha : a < 2 ^ 31) (hb : b < 2 ^ 31) (h : ¬ nI a ≤ nI b) : b < a := by
  rcases Nat.lt_or_ge b a with q | q
  · exact q
  · exact absurd ((nI_leI ha hb).mpr q) h
end XST
section XST2
def x_isr (G F : Nat → Bool) (f t : Nat) : Bool := G f && (F f && decide (x_rt G F (255 - f) (f + 1) = t))
theorem x_isr_g {G F : Nat → Bool} {f t : Nat} (h : xb (G f) = 0) : (0 : Int32) = xb (x_isr G F f t) := by unfold x_isr; rw [xb_eq h]; rfl
theorem x_isr_f {G F : Nat → Bool} {f t : Nat} (h : xb (F f) = 0) : (0 : Int32) = xb (x_isr G F f t) := by unfold x_isr; rw [xb_eq h, Bool.false_and, Bool.and_false]; rfl
theorem x_isr_n {G F : Nat → Bool} {f t : Nat} (h : ¬ nI (x_rt G F (255 - f) (f + 1)) = nI t) : (0 : Int32) = xb (x_isr G F f t) := by
  unfold x_isr
  rw [decide_eq_false (fun q => h (by rw [q])), Bool.and_false, Bool.and_false]
  rfl
theorem x_isr_y {G F : Nat → Bool} {f t : Nat} (hf : f < 256) (ht : t < 512) (h1 : ¬ xb (G f) = 0) (h2 : ¬ xb (F f) = 0) (h : nI (x_rt G F (255 - f) (f + 1)) = nI t) : (1 : Int32) = xb (x_isr G F f t) := by
  have h3 := x_rt_le G F (255 - f) (f + 1)
  unfold x_isr
  rw [xb_ne h1, xb_ne h2, decide_eq_true ((nI_eq (by omega) (by omega)).mp h)]
  rfl
theorem x_acc_s (f : Nat → Int32) {a i : Nat} (h : a ≤ i) : x_acc f a (i - a) + f i = x_acc f a (i + 1 - a) := by
  have e : i + 1 - a = (i - a) + 1 := by omega
  rw [e]
  show _ = x_acc f a (i - a) + f (a + (i - a))
  rw [show a + (i - a) = i by omega]
theorem x_acc_0 (f : Nat → Int32) (a : Nat) : (0 : Int32) = x_acc f a (a - a) := by rw [Nat.sub_self]; rfl
theorem x_acc_congr {f g : Nat → Int32} (a : Nat) : ∀ n, (∀ k, a ≤ k → k < a + n → f k = g k) → x_acc f a n = x_acc g a n
  | 0, _ => rfl
  | n + 1, h => by
    show x_acc f a n + f (a + n) = x_acc g a n + g (a + n)
    rw [x_acc_congr a n (fun k h1 h2 => h k h1 (by omega)), h (a + n) (by omega) (by omega)]
theorem x_acc_app (f : Nat → Int32) (a b : Nat) : ∀ n, x_acc f a b + x_acc f (a + b) n = x_acc f a (b + n)
  | 0 => by show x_acc f a b + 0 = x_acc f a b; exact Int32.add_zero _
  | n + 1 => by
    show x_acc f a b + (x_acc f (a + b) n + f (a + b + n)) = x_acc f a (b + n) + f (a + (b + n))
    rw [← x_acc_app f a b n, Nat.add_assoc a b n, Int32.add_assoc]
def x_cn (X : Nat → Bool) (f : Nat → xw) (a b : Nat) : Int32 := x_acc (fun k => xb (x_stale X (f k))) a (b - a)
theorem x_cl_app (X : Nat → Bool) (f : Nat → xw) {a b c : Nat} (h1 : a ≤ b) (h2 : b ≤ c) : x_cl X (x_cl X f a b) b c = x_cl X f a c := by
  funext k
  simp only [x_cl]
  by_cases h3 : b ≤ k ∧ k < c
  · rw [if_pos h3, if_neg (by omega), if_pos (by omega)]
  · rw [if_neg h3]
    by_cases h4 : a ≤ k ∧ k < b
    · rw [if_pos h4, if_pos (by omega)]
    · rw [if_neg h4, if_neg (by omega)]
theorem x_cn_app (X : Nat → Bool) (f : Nat → xw) {a b c : Nat} (h1 : a ≤ b) (h2 : b ≤ c) : x_cn X f a b + x_cn X (x_cl X f a b) b c = x_cn X f a c := by
  unfold x_cn
  rw [x_acc_congr (g := fun k => xb (x_stale X (f k))) b (c - b) (fun k h3 h4 => by simp only [x_cl]; rw [if_neg (by omega)])]
  have e := x_acc_app (fun k => xb (x_stale X (f k))) a (b - a) (c - b)
  rw [show a + (b - a) = b by omega, show b - a + (c - b) = c - a by omega] at e
  exact e
theorem x_lk_f {X : Nat → Bool} {w : xw} (h : xb (x_stale X w) = 0) : x_lk X w = w := by unfold x_lk; rw [if_neg (by rw [xb_eq h]; decide)]
theorem x_lk_t {X : Nat → Bool} {w : xw} (h : ¬ xb (x_stale X w) = 0) : x_lk X w = (w.1, none) := by unfold x_lk; rw [if_pos (xb_ne h)]
theorem x_tk_f {X : Nat → Bool} {w : xw} {tal : Nat → Int32} (h : xb (x_stale X w) = 0) : x_tk X w tal = tal := by unfold x_tk; rw [if_neg (by rw [xb_eq h]; decide)]
theorem x_tk_t {X : Nat → Bool} {w : xw} {tal : Nat → Int32} (h : ¬ xb (x_stale X w) = 0) : x_tk X w tal = upd tal 3 (tal 3 + 1) := by unfold x_tk; rw [if_pos (xb_ne h)]
theorem x_dk_p {seen k : Nat} {w : xw} {dy : Nat → Bool} (h : xb (xw_p w) = 0) : x_dk seen w k dy = dy := by unfold x_dk; rw [if_neg (fun q => by rw [xb_eq h] at q; exact absurd q.1 (by decide))]
theorem x_dk_s {seen k : Nat} {w : xw} {dy : Nat → Bool} (h : xb (decide (k / 16 < seen)) = 0) : x_dk seen w k dy = dy := by unfold x_dk; rw [if_neg (fun q => of_decide_eq_false (xb_eq h) q.2)]
theorem x_dk_t {seen k : Nat} {w : xw} {dy : Nat → Bool} (h : ¬ xb (xw_p w) = 0) (h2 : ¬ xb (decide (k / 16 < seen)) = 0) : x_dk seen w k dy = va_up dy (k / 16) true := by unfold x_dk; rw [if_pos ⟨xb_ne h, of_decide_eq_true (xb_ne h2)⟩]
theorem xb_fit (b : Bool) : fits .boolean (.int (xb b)) = true := by cases b <;> rfl
theorem x_div16 {k : Nat} (h : k < 256) : nI k / 16 = nI (k / 16) := pk_div (d := 16) (by omega) (by decide) (by decide)
theorem xw_f_le {w : xw} (h : xw_ok w) : xw_f w ≤ 512 := by have := (xw_parts h).2.1; omega
theorem xw_t_le {w : xw} (h : xw_ok w) : xw_t w ≤ 512 := by have := (xw_parts h).2.2.1; omega
theorem x_seen_f {k seen : Nat} (hs : seen < 2 ^ 31) (hk : k < 2 ^ 31) (h : nI seen ≤ nI k) : (0 : Int32) = xb (decide (k < seen)) := by
  have := xn_le_of hs hk h
  rw [decide_eq_false (by omega)]
  rfl
theorem x_seen_t {k seen : Nat} (hs : seen < 2 ^ 31) (hk : k < 2 ^ 31) (h : ¬ nI seen ≤ nI k) : (1 : Int32) = xb (decide (k < seen)) := by
  have := xn_lt_of hs hk h
  rw [decide_eq_true this]
  rfl
end XST2
end
section
set_option maxHeartbeats 4000000 in
set_option maxRecDepth 100000 in
theorem k_useOf (l : Launch) (D : va_G) (cI cJ cS : ClassId) (ad : Nat → Nat) (mem reg : Nat → xw) (tal : Nat → Int32) (G Q X F : Nat → Bool) (on : Bool) (seen : Nat) (dy : Nat → Bool) (k : Nat) (hk : k < 256) : xk_Rd l yX2_useOf wsX2_useOf ({ frames := 2, cells := 0, slots := 0, locals := 41 }) D vwCl (xt cI cJ cS) ([((ad 0), .inr (2, [.ref (ad 1), .ref (ad 2), .ref (ad 3), .ref (ad 4), .ref (ad 6), .ref (ad 8), .ref (ad 10), .int (xb on), .int (nI seen), .int (xd dy)])), ((ad 1), .inl (cJ, 256, .inr (.inl (xw_arr mem)))), ((ad 2), .inl (cJ, 8, .inr (.inl (xw_arr reg)))), ((ad 3), .inl (cI, 7, .inl tal)), ((ad 4), .inr (0, [.ref (ad 5)])), ((ad 5), .inl (cJ, 4, .inr (.inl (xs_rows G)))), ((ad 6), .inr (0, [.ref (ad 7)])), ((ad 7), .inl (cJ, 4, .inr (.inl (xs_rows Q)))), ((ad 8), .inr (0, [.ref (ad 9)])), ((ad 9), .inl (cJ, 4, .inr (.inl (xs_rows X)))), ((ad 10), .inr (0, [.ref (ad 11)])), ((ad 11), .inl (cJ, 4, .inr (.inl (xs_rows F))))]) [.ref (ad 0), .int (nI k)] (some (.int (xu G Q k))) := by
  refine xk_rd (cc := cX2_useOf) (maxL := 2) (ret := (some .int)) (by decide) rfl (Nat.le_of_ble_eq_true rfl) (fun p e s m below meth c ls hx hb hr hlk hml hown hts hl hP hK hN => ?_)
  replace hl : lv_has ls 2 [(0, .ref (ad 0)), (1, .int (nI k))] := hl
  have hiX2 : ∀ w ∈ u_ws RX2 TX2 10, w ∈ wsX2_useOf := by decide +kernel
  refine lv_aload_n hx hb dX2_useOf_0 rfl (lv_at hl 0 rfl) ?_
  refine va_get (D := D) (ci := 2) (v := .ref (ad 4)) (C := RX2) (T := TX2) (N := 10) hx hb hts hiX2 hown hK hP 0 rfl rfl 3 (by decide) (hts (.fieldLink RX2 25 "PointerSweep$State" "given" "LPointerSweep$CellMap;") (by decide +kernel)) (fun _ h9 => h9) rfl dX2_useOf_1 ?_
  refine lv_iload_n hx hb dX2_useOf_4 rfl (lv_at hl 1 rfl) ?_
  refine xk_callR (va_runV (As := [.int (nI k)]) (rest := []) ⟨hx, hb, hml, hown, hts⟩ (k_has l D cI cJ cS (ad 4) (ad 5) G k hk) (cwV 1 hts gX2_useOf_X0_has rfl rfl rfl (by decide +kernel) ⟨Nat.le_of_ble_eq_true rfl, Nat.le_of_ble_eq_true rfl⟩) (xk_preVr hK hN hP [4, 5] rfl (ci := 0) rfl 0 rfl) rfl rfl hl.1 rfl (lv_room (Nat.le_of_ble_eq_true rfl)) dX2_useOf_5 ⟨Nat.zero_le _, Nat.zero_le _⟩) ?_
  refine lv_if_eq (tgt := 13) hx hb dX2_useOf_8 (by decide) (fun c_8 => ?_) (fun c_8 => ?_)
  · skip
    refine lv_aload_n hx hb dX2_useOf_13 rfl (lv_at hl 0 rfl) ?_
    refine va_get (D := D) (ci := 2) (v := .ref (ad 6)) (C := RX2) (T := TX2) (N := 10) hx hb hts hiX2 hown hK hP 0 rfl rfl 4 (by decide) (hts (.fieldLink RX2 29 "PointerSweep$State" "quarantined" "LPointerSweep$CellMap;") (by decide +kernel)) (fun _ h9 => h9) rfl dX2_useOf_14 ?_
    refine lv_iload_n hx hb dX2_useOf_17 rfl (lv_at hl 1 rfl) ?_
    refine xk_callR (va_runV (As := [.int (nI k)]) (rest := []) ⟨hx, hb, hml, hown, hts⟩ (k_has l D cI cJ cS (ad 6) (ad 7) Q k hk) (cwV 1 hts gX2_useOf_X0_has rfl rfl rfl (by decide +kernel) ⟨Nat.le_of_ble_eq_true rfl, Nat.le_of_ble_eq_true rfl⟩) (xk_preVr hK hN hP [6, 7] rfl (ci := 0) rfl 0 rfl) rfl rfl hl.1 rfl (lv_room (Nat.le_of_ble_eq_true rfl)) dX2_useOf_18 ⟨Nat.zero_le _, Nat.zero_le _⟩) ?_
    refine lv_if_eq (tgt := 28) hx hb dX2_useOf_21 (by decide) (fun c_21 => ?_) (fun c_21 => ?_)
    · skip
      refine lv_iconst (v := 0) hx hb dX2_useOf_28 (by decide) ?_
      exact xk_iretR hx hb hr hlk (xu_0 c_8 c_21) dX2_useOf_29
    · skip
      refine lv_iconst (v := 2) hx hb dX2_useOf_24 (by decide) ?_
      refine lv_goto (tgt := 29) hx hb dX2_useOf_25 (by decide) ?_
      exact xk_iretR hx hb hr hlk (xu_2 c_8 c_21) dX2_useOf_29
  · skip
    refine lv_iconst (v := 1) hx hb dX2_useOf_11 (by decide) ?_
    exact xk_iretR hx hb hr hlk (xu_1 c_8) dX2_useOf_12
set_option maxHeartbeats 4000000 in
set_option maxRecDepth 100000 in
theorem k_firstFreeRow (l : Launch) (D : va_G) (cI cJ cS : ClassId) (ad : Nat → Nat) (mem reg : Nat → xw) (tal : Nat → Int32) (G Q X F : Nat → Bool) (on : Bool) (seen : Nat) (dy : Nat → Bool) (x : Int32) : xk_Rd l yX2_firstFreeRow wsX2_firstFreeRow ({ frames := 3, cells := 0, slots := 0, locals := 62 }) D vwCl (xt cI cJ cS) ([((ad 0), .inr (2, [.ref (ad 1), .ref (ad 2), .ref (ad 3), .ref (ad 4), .ref (ad 6), .ref (ad 8), .ref (ad 10), .int (xb on), .int (nI seen), .int (xd dy)])), ((ad 1), .inl (cJ, 256, .inr (.inl (xw_arr mem)))), ((ad 2), .inl (cJ, 8, .inr (.inl (xw_arr reg)))), ((ad 3), .inl (cI, 7, .inl tal)), ((ad 4), .inr (0, [.ref (ad 5)])), ((ad 5), .inl (cJ, 4, .inr (.inl (xs_rows G)))), ((ad 6), .inr (0, [.ref (ad 7)])), ((ad 7), .inl (cJ, 4, .inr (.inl (xs_rows Q)))), ((ad 8), .inr (0, [.ref (ad 9)])), ((ad 9), .inl (cJ, 4, .inr (.inl (xs_rows X)))), ((ad 10), .inr (0, [.ref (ad 11)])), ((ad 11), .inl (cJ, 4, .inr (.inl (xs_rows F))))]) [.ref (ad 0), .int x] (some (.int (x_ffr (xu G Q) x 256 0 0))) := by
  refine xk_rd (cc := cX2_firstFreeRow) (maxL := 4) (ret := (some .int)) (by decide) rfl (Nat.le_of_ble_eq_true rfl) (fun p e s m below meth c ls hx hb hr hlk hml hown hts hl hP hK hN => ?_)
  replace hl : lv_has ls 4 [(0, .ref (ad 0)), (1, .int x)] := hl
  have loop : ∀ (n i : Nat) (fr : Int32) (ls : Array Slot), i + n = 256 → x_ffr (xu G Q) x n i fr = x_ffr (xu G Q) x 256 0 0 → lv_has ls 4 [(3, .int (nI i)), (2, .int fr), (0, .ref (ad 0)), (1, .int x)] → W p l e ({ frames := 3, cells := 0, slots := 0, locals := 62 }) s m ([.ref (ad 0), .int x]).toArray below meth c s.heap [] 0 0 (MQ below (xk_R (some (.int (x_ffr (xu G Q) x 256 0 0)))) ([.ref (ad 0), .int x]).toArray s 0 0 (fun _ => False)) (F0 m 4 ls []) := by
    intro n
    induction n with
    | zero =>
      intro i fr ls hi hv hl
      refine lv_iload_n hx hb dX2_firstFreeRow_4 rfl (lv_at hl 0 rfl) ?_
      refine lv_sipush (v := 256) hx hb dX2_firstFreeRow_5 (by decide) ?_
      refine lv_icmp_ge (tgt := 44) hx hb dX2_firstFreeRow_8 (by decide) (fun c_8 => ?_) (fun c_8 => ?_)
      · skip
        refine lv_iconst (v := (-1)) hx hb dX2_firstFreeRow_44 (by decide) ?_
        exact xk_iretR hx hb hr hlk hv dX2_firstFreeRow_45
      · skip
        exact absurd (nI_le (a := 256) (b := i) (by omega) (by omega)) c_8
    | succ n ih =>
      intro i fr ls hi hv hl
      unfold x_ffr at hv
      refine lv_iload_n hx hb dX2_firstFreeRow_4 rfl (lv_at hl 0 rfl) ?_
      refine lv_sipush (v := 256) hx hb dX2_firstFreeRow_5 (by decide) ?_
      refine lv_icmp_ge (tgt := 44) hx hb dX2_firstFreeRow_8 (by decide) (fun c_8 => ?_) (fun c_8 => ?_)
      · skip
        exact absurd (xn_le_of (a := 256) (by decide) (by omega) c_8) (by omega)
      · skip
        refine lv_aload_n hx hb dX2_firstFreeRow_11 rfl (lv_at hl 2 rfl) ?_
        refine lv_iload_n hx hb dX2_firstFreeRow_12 rfl (lv_at hl 0 rfl) ?_
        refine xk_callR (va_runV (As := [.int (nI i)]) (rest := []) ⟨hx, hb, hml, hown, hts⟩ (k_useOf l D cI cJ cS ad mem reg tal G Q X F on seen dy i (by omega)) (cwV 1 hts gX2_firstFreeRow_X2_useOf rfl rfl rfl (by decide +kernel) ⟨Nat.le_of_ble_eq_true rfl, Nat.le_of_ble_eq_true rfl⟩) (xk_preVr hK hN hP [0, 1, 2, 3, 4, 5, 6, 7, 8, 9, 10, 11] rfl (ci := 2) rfl 0 rfl) rfl rfl hl.1 rfl (lv_room (Nat.le_of_ble_eq_true rfl)) dX2_firstFreeRow_13 ⟨Nat.zero_le _, Nat.zero_le _⟩) ?_
        refine lv_if_ne (tgt := 25) hx hb dX2_firstFreeRow_16 (by decide) (fun c_16 => ?_) (fun c_16 => ?_)
        · skip
          refine lv_iconst (v := 0) hx hb dX2_firstFreeRow_25 (by decide) ?_
          refine lv_istore_n (lv' := [(2, .int 0), (3, .int (nI i)), (0, .ref (ad 0)), (1, .int x)]) hx hb dX2_firstFreeRow_26 rfl hl (by decide) rfl (fun ls hl => ?_)
          refine lv_iload_n hx hb dX2_firstFreeRow_27 rfl (lv_at hl 0 rfl) ?_
          refine lv_iload_n hx hb dX2_firstFreeRow_28 rfl (lv_at hl 3 rfl) ?_
          refine lv_icmp_ne (tgt := 38) hx hb dX2_firstFreeRow_29 (by decide) (fun c_29 => ?_) (fun c_29 => ?_)
          · skip
            refine lv_iinc (v := (nI (i + 1))) (lv' := [(3, .int (nI (i + 1))), (2, .int 0), (0, .ref (ad 0)), (1, .int x)]) hx hb dX2_firstFreeRow_38 hl (k := 1) rfl (nI_1 i) (by decide) rfl (fun ls hl => ?_)
            refine lv_goto (tgt := 4) hx hb dX2_firstFreeRow_41 (by decide) ?_
            exact ih (i + 1) _ ls (by omega) (by rw [if_neg c_16, if_neg c_29] at hv; exact hv) (lv_sub hl [0, 1, 2, 3] rfl)
          · skip
            refine lv_iload_n hx hb dX2_firstFreeRow_32 rfl (lv_at hl 1 rfl) ?_
            refine lv_iload_n hx hb dX2_firstFreeRow_33 rfl (lv_at hl 3 rfl) ?_
            refine lv_isub hx hb dX2_firstFreeRow_34 ?_
            refine lv_iconst (v := 1) hx hb dX2_firstFreeRow_35 (by decide) ?_
            refine lv_iadd hx hb dX2_firstFreeRow_36 ?_
            exact xk_iretR hx hb hr hlk (by rw [if_neg c_16, if_pos c_29] at hv; exact hv) dX2_firstFreeRow_37
        · skip
          refine lv_iload_n hx hb dX2_firstFreeRow_19 rfl (lv_at hl 1 rfl) ?_
          refine lv_iconst (v := 1) hx hb dX2_firstFreeRow_20 (by decide) ?_
          refine lv_iadd hx hb dX2_firstFreeRow_21 ?_
          refine lv_goto (tgt := 26) hx hb dX2_firstFreeRow_22 (by decide) ?_
          refine lv_istore_n (lv' := [(2, .int (fr + 1)), (3, .int (nI i)), (0, .ref (ad 0)), (1, .int x)]) hx hb dX2_firstFreeRow_26 rfl hl (by decide) rfl (fun ls hl => ?_)
          refine lv_iload_n hx hb dX2_firstFreeRow_27 rfl (lv_at hl 0 rfl) ?_
          refine lv_iload_n hx hb dX2_firstFreeRow_28 rfl (lv_at hl 3 rfl) ?_
          refine lv_icmp_ne (tgt := 38) hx hb dX2_firstFreeRow_29 (by decide) (fun c_29 => ?_) (fun c_29 => ?_)
          · skip
            refine lv_iinc (v := (nI (i + 1))) (lv' := [(3, .int (nI (i + 1))), (2, .int (fr + 1)), (0, .ref (ad 0)), (1, .int x)]) hx hb dX2_firstFreeRow_38 hl (k := 1) rfl (nI_1 i) (by decide) rfl (fun ls hl => ?_)
            refine lv_goto (tgt := 4) hx hb dX2_firstFreeRow_41 (by decide) ?_
            exact ih (i + 1) _ ls (by omega) (by rw [if_pos c_16, if_neg c_29] at hv; exact hv) (lv_sub hl [0, 1, 2, 3] rfl)
          · skip
            refine lv_iload_n hx hb dX2_firstFreeRow_32 rfl (lv_at hl 1 rfl) ?_
            refine lv_iload_n hx hb dX2_firstFreeRow_33 rfl (lv_at hl 3 rfl) ?_
            refine lv_isub hx hb dX2_firstFreeRow_34 ?_
            refine lv_iconst (v := 1) hx hb dX2_firstFreeRow_35 (by decide) ?_
            refine lv_iadd hx hb dX2_firstFreeRow_36 ?_
            exact xk_iretR hx hb hr hlk (by rw [if_pos c_16, if_pos c_29] at hv; exact hv) dX2_firstFreeRow_37
  refine lv_iconst (v := 0) hx hb dX2_firstFreeRow_0 (by decide) ?_
  refine lv_istore_n (lv' := [(2, .int 0), (0, .ref (ad 0)), (1, .int x)]) hx hb dX2_firstFreeRow_1 rfl hl (by decide) rfl (fun ls hl => ?_)
  refine lv_iconst (v := 0) hx hb dX2_firstFreeRow_2 (by decide) ?_
  refine lv_istore_n (lv' := [(3, .int 0), (2, .int 0), (0, .ref (ad 0)), (1, .int x)]) hx hb dX2_firstFreeRow_3 rfl hl (by decide) rfl (fun ls hl => ?_)
  exact loop 256 0 0 ls rfl rfl (lv_sub hl [0, 1, 2, 3] rfl)
set_option maxHeartbeats 4000000 in
set_option maxRecDepth 100000 in
theorem k_rangeFrom (l : Launch) (D : va_G) (cI cJ cS : ClassId) (ad : Nat → Nat) (mem reg : Nat → xw) (tal : Nat → Int32) (G Q X F : Nat → Bool) (on : Bool) (seen : Nat) (dy : Nat → Bool) (k : Nat) (hk : k < 256) : xk_Rd l yX2_rangeFrom wsX2_rangeFrom ({ frames := 2, cells := 0, slots := 0, locals := 41 }) D vwCl (xt cI cJ cS) ([((ad 0), .inr (2, [.ref (ad 1), .ref (ad 2), .ref (ad 3), .ref (ad 4), .ref (ad 6), .ref (ad 8), .ref (ad 10), .int (xb on), .int (nI seen), .int (xd dy)])), ((ad 1), .inl (cJ, 256, .inr (.inl (xw_arr mem)))), ((ad 2), .inl (cJ, 8, .inr (.inl (xw_arr reg)))), ((ad 3), .inl (cI, 7, .inl tal)), ((ad 4), .inr (0, [.ref (ad 5)])), ((ad 5), .inl (cJ, 4, .inr (.inl (xs_rows G)))), ((ad 6), .inr (0, [.ref (ad 7)])), ((ad 7), .inl (cJ, 4, .inr (.inl (xs_rows Q)))), ((ad 8), .inr (0, [.ref (ad 9)])), ((ad 9), .inl (cJ, 4, .inr (.inl (xs_rows X)))), ((ad 10), .inr (0, [.ref (ad 11)])), ((ad 11), .inl (cJ, 4, .inr (.inl (xs_rows F))))]) [.ref (ad 0), .int (nI k)] (some (.int (nI (x_rf F k)))) := by
  refine xk_rd (cc := cX2_rangeFrom) (maxL := 3) (ret := (some .int)) (by decide) rfl (Nat.le_of_ble_eq_true rfl) (fun p e s m below meth c ls hx hb hr hlk hml hown hts hl hP hK hN => ?_)
  replace hl : lv_has ls 3 [(0, .ref (ad 0)), (1, .int (nI k))] := hl
  have hiX2 : ∀ w ∈ u_ws RX2 TX2 10, w ∈ wsX2_rangeFrom := by decide +kernel
  have loop : ∀ (j : Nat) (ls : Array Slot), j < 256 → x_rf F j = x_rf F k → lv_has ls 3 [(2, .int (nI j)), (0, .ref (ad 0)), (1, .int (nI k))] → W p l e ({ frames := 2, cells := 0, slots := 0, locals := 41 }) s m ([.ref (ad 0), .int (nI k)]).toArray below meth c s.heap [] 0 0 (MQ below (xk_R (some (.int (nI (x_rf F k))))) ([.ref (ad 0), .int (nI k)]).toArray s 0 0 (fun _ => False)) (F0 m 2 ls []) := by
    intro j
    induction j with
    | zero =>
      intro ls hj hv hl
      refine lv_iload_n hx hb dX2_rangeFrom_2 rfl (lv_at hl 0 rfl) ?_
      refine lv_if_le (tgt := 23) hx hb dX2_rangeFrom_3 (by decide) (fun c_3 => ?_) (fun c_3 => ?_)
      · skip
        refine lv_iload_n hx hb dX2_rangeFrom_23 rfl (lv_at hl 0 rfl) ?_
        exact xk_iretR hx hb hr hlk (congrArg nI hv) dX2_rangeFrom_24
      · skip
        exact absurd (by decide) c_3
    | succ j ih =>
      intro ls hj hv hl
      replace hv : (if F (j + 1) = true then j + 1 else x_rf F j) = x_rf F k := hv
      refine lv_iload_n hx hb dX2_rangeFrom_2 rfl (lv_at hl 0 rfl) ?_
      refine lv_if_le (tgt := 23) hx hb dX2_rangeFrom_3 (by decide) (fun c_3 => ?_) (fun c_3 => ?_)
      · skip
        exact absurd c_3 (nI_nle (by omega) (by omega))
      · skip
        refine lv_aload_n hx hb dX2_rangeFrom_6 rfl (lv_at hl 1 rfl) ?_
        refine va_get (D := D) (ci := 2) (v := .ref (ad 10)) (C := RX2) (T := TX2) (N := 10) hx hb hts hiX2 hown hK hP 0 rfl rfl 6 (by decide) (hts (.fieldLink RX2 35 "PointerSweep$State" "firsts" "LPointerSweep$CellMap;") (by decide +kernel)) (fun _ h9 => h9) rfl dX2_rangeFrom_7 ?_
        refine lv_iload_n hx hb dX2_rangeFrom_10 rfl (lv_at hl 0 rfl) ?_
        refine xk_callR (va_runV (As := [.int (nI (j + 1))]) (rest := []) ⟨hx, hb, hml, hown, hts⟩ (k_has l D cI cJ cS (ad 10) (ad 11) F (j + 1) hj) (cwV 1 hts gX2_rangeFrom_X0_has rfl rfl rfl (by decide +kernel) ⟨Nat.le_of_ble_eq_true rfl, Nat.le_of_ble_eq_true rfl⟩) (xk_preVr hK hN hP [10, 11] rfl (ci := 0) rfl 0 rfl) rfl rfl hl.1 rfl (lv_room (Nat.le_of_ble_eq_true rfl)) dX2_rangeFrom_11 ⟨Nat.zero_le _, Nat.zero_le _⟩) ?_
        refine lv_if_ne (tgt := 23) hx hb dX2_rangeFrom_14 (by decide) (fun c_14 => ?_) (fun c_14 => ?_)
        · skip
          refine lv_iload_n hx hb dX2_rangeFrom_23 rfl (lv_at hl 0 rfl) ?_
          exact xk_iretR hx hb hr hlk (by rw [if_pos (xb_ne c_14)] at hv; exact congrArg nI hv) dX2_rangeFrom_24
        · skip
          refine lv_iinc (v := (nI j)) (lv' := [(2, .int (nI j)), (0, .ref (ad 0)), (1, .int (nI k))]) hx hb dX2_rangeFrom_17 hl (k := 0) rfl (pk_m1 j) (by decide) rfl (fun ls hl => ?_)
          refine lv_goto (tgt := 2) hx hb dX2_rangeFrom_20 (by decide) ?_
          exact ih ls (by omega) (by rw [if_neg (by rw [xb_eq c_14]; decide)] at hv; exact hv) (lv_sub hl [0, 1, 2] rfl)
  refine lv_iload_n hx hb dX2_rangeFrom_0 rfl (lv_at hl 1 rfl) ?_
  refine lv_istore_n (lv' := [(2, .int (nI k)), (0, .ref (ad 0)), (1, .int (nI k))]) hx hb dX2_rangeFrom_1 rfl hl (by decide) rfl (fun ls hl => ?_)
  exact loop k ls hk rfl (lv_sub hl [0, 1, 2] rfl)
set_option maxHeartbeats 4000000 in
set_option maxRecDepth 100000 in
theorem k_rangeTo (l : Launch) (D : va_G) (cI cJ cS : ClassId) (ad : Nat → Nat) (mem reg : Nat → xw) (tal : Nat → Int32) (G Q X F : Nat → Bool) (on : Bool) (seen : Nat) (dy : Nat → Bool) (k : Nat) (hk : k < 256) : xk_Rd l yX2_rangeTo wsX2_rangeTo ({ frames := 2, cells := 0, slots := 0, locals := 41 }) D vwCl (xt cI cJ cS) ([((ad 0), .inr (2, [.ref (ad 1), .ref (ad 2), .ref (ad 3), .ref (ad 4), .ref (ad 6), .ref (ad 8), .ref (ad 10), .int (xb on), .int (nI seen), .int (xd dy)])), ((ad 1), .inl (cJ, 256, .inr (.inl (xw_arr mem)))), ((ad 2), .inl (cJ, 8, .inr (.inl (xw_arr reg)))), ((ad 3), .inl (cI, 7, .inl tal)), ((ad 4), .inr (0, [.ref (ad 5)])), ((ad 5), .inl (cJ, 4, .inr (.inl (xs_rows G)))), ((ad 6), .inr (0, [.ref (ad 7)])), ((ad 7), .inl (cJ, 4, .inr (.inl (xs_rows Q)))), ((ad 8), .inr (0, [.ref (ad 9)])), ((ad 9), .inl (cJ, 4, .inr (.inl (xs_rows X)))), ((ad 10), .inr (0, [.ref (ad 11)])), ((ad 11), .inl (cJ, 4, .inr (.inl (xs_rows F))))]) [.ref (ad 0), .int (nI k)] (some (.int (nI (x_rt G F (255 - k) (k + 1))))) := by
  refine xk_rd (cc := cX2_rangeTo) (maxL := 3) (ret := (some .int)) (by decide) rfl (Nat.le_of_ble_eq_true rfl) (fun p e s m below meth c ls hx hb hr hlk hml hown hts hl hP hK hN => ?_)
  replace hl : lv_has ls 3 [(0, .ref (ad 0)), (1, .int (nI k))] := hl
  have hiX2 : ∀ w ∈ u_ws RX2 TX2 10, w ∈ wsX2_rangeTo := by decide +kernel
  have loop : ∀ (n t : Nat) (ls : Array Slot), t + n = 256 → x_rt G F n t = x_rt G F (255 - k) (k + 1) → lv_has ls 3 [(2, .int (nI t)), (0, .ref (ad 0)), (1, .int (nI k))] → W p l e ({ frames := 2, cells := 0, slots := 0, locals := 41 }) s m ([.ref (ad 0), .int (nI k)]).toArray below meth c s.heap [] 0 0 (MQ below (xk_R (some (.int (nI (x_rt G F (255 - k) (k + 1)))))) ([.ref (ad 0), .int (nI k)]).toArray s 0 0 (fun _ => False)) (F0 m 4 ls []) := by
    intro n
    induction n with
    | zero =>
      intro t ls ht hv hl
      refine lv_iload_n hx hb dX2_rangeTo_4 rfl (lv_at hl 0 rfl) ?_
      refine lv_sipush (v := 256) hx hb dX2_rangeTo_5 (by decide) ?_
      refine lv_icmp_ge (tgt := 39) hx hb dX2_rangeTo_8 (by decide) (fun c_8 => ?_) (fun c_8 => ?_)
      · skip
        refine lv_iload_n hx hb dX2_rangeTo_39 rfl (lv_at hl 0 rfl) ?_
        exact xk_iretR hx hb hr hlk (congrArg nI hv) dX2_rangeTo_40
      · skip
        exact absurd (nI_le (a := 256) (b := t) (by omega) (by omega)) c_8
    | succ n ih =>
      intro t ls ht hv hl
      replace hv : (if G t = true ∧ F t = false then x_rt G F n (t + 1) else t) = x_rt G F (255 - k) (k + 1) := hv
      refine lv_iload_n hx hb dX2_rangeTo_4 rfl (lv_at hl 0 rfl) ?_
      refine lv_sipush (v := 256) hx hb dX2_rangeTo_5 (by decide) ?_
      refine lv_icmp_ge (tgt := 39) hx hb dX2_rangeTo_8 (by decide) (fun c_8 => ?_) (fun c_8 => ?_)
      · skip
        exact absurd (xn_le_of (a := 256) (by decide) (by omega) c_8) (by omega)
      · skip
        refine lv_aload_n hx hb dX2_rangeTo_11 rfl (lv_at hl 1 rfl) ?_
        refine va_get (D := D) (ci := 2) (v := .ref (ad 4)) (C := RX2) (T := TX2) (N := 10) hx hb hts hiX2 hown hK hP 0 rfl rfl 3 (by decide) (hts (.fieldLink RX2 25 "PointerSweep$State" "given" "LPointerSweep$CellMap;") (by decide +kernel)) (fun _ h9 => h9) rfl dX2_rangeTo_12 ?_
        refine lv_iload_n hx hb dX2_rangeTo_15 rfl (lv_at hl 0 rfl) ?_
        refine xk_callR (va_runV (As := [.int (nI t)]) (rest := []) ⟨hx, hb, hml, hown, hts⟩ (k_has l D cI cJ cS (ad 4) (ad 5) G t (by omega)) (cwV 1 hts gX2_rangeTo_X0_has rfl rfl rfl (by decide +kernel) ⟨Nat.le_of_ble_eq_true rfl, Nat.le_of_ble_eq_true rfl⟩) (xk_preVr hK hN hP [4, 5] rfl (ci := 0) rfl 0 rfl) rfl rfl hl.1 rfl (lv_room (Nat.le_of_ble_eq_true rfl)) dX2_rangeTo_16 ⟨Nat.zero_le _, Nat.zero_le _⟩) ?_
        refine lv_if_eq (tgt := 39) hx hb dX2_rangeTo_19 (by decide) (fun c_19 => ?_) (fun c_19 => ?_)
        · skip
          refine lv_iload_n hx hb dX2_rangeTo_39 rfl (lv_at hl 0 rfl) ?_
          exact xk_iretR hx hb hr hlk (by rw [if_neg (fun q => by rw [xb_eq c_19] at q; exact absurd q.1 (by decide))] at hv; exact congrArg nI hv) dX2_rangeTo_40
        · skip
          refine lv_aload_n hx hb dX2_rangeTo_22 rfl (lv_at hl 1 rfl) ?_
          refine va_get (D := D) (ci := 2) (v := .ref (ad 10)) (C := RX2) (T := TX2) (N := 10) hx hb hts hiX2 hown hK hP 0 rfl rfl 6 (by decide) (hts (.fieldLink RX2 35 "PointerSweep$State" "firsts" "LPointerSweep$CellMap;") (by decide +kernel)) (fun _ h9 => h9) rfl dX2_rangeTo_23 ?_
          refine lv_iload_n hx hb dX2_rangeTo_26 rfl (lv_at hl 0 rfl) ?_
          refine xk_callR (va_runV (As := [.int (nI t)]) (rest := []) ⟨hx, hb, hml, hown, hts⟩ (k_has l D cI cJ cS (ad 10) (ad 11) F t (by omega)) (cwV 1 hts gX2_rangeTo_X0_has rfl rfl rfl (by decide +kernel) ⟨Nat.le_of_ble_eq_true rfl, Nat.le_of_ble_eq_true rfl⟩) (xk_preVr hK hN hP [10, 11] rfl (ci := 0) rfl 0 rfl) rfl rfl hl.1 rfl (lv_room (Nat.le_of_ble_eq_true rfl)) dX2_rangeTo_27 ⟨Nat.zero_le _, Nat.zero_le _⟩) ?_
          refine lv_if_ne (tgt := 39) hx hb dX2_rangeTo_30 (by decide) (fun c_30 => ?_) (fun c_30 => ?_)
          · skip
            refine lv_iload_n hx hb dX2_rangeTo_39 rfl (lv_at hl 0 rfl) ?_
            exact xk_iretR hx hb hr hlk (by rw [if_neg (fun q => by rw [xb_ne c_30] at q; exact absurd q.2 (by decide))] at hv; exact congrArg nI hv) dX2_rangeTo_40
          · skip
            refine lv_iinc (v := (nI (t + 1))) (lv' := [(2, .int (nI (t + 1))), (0, .ref (ad 0)), (1, .int (nI k))]) hx hb dX2_rangeTo_33 hl (k := 0) rfl (nI_1 t) (by decide) rfl (fun ls hl => ?_)
            refine lv_goto (tgt := 4) hx hb dX2_rangeTo_36 (by decide) ?_
            exact ih (t + 1) ls (by omega) (by rw [if_pos ⟨xb_ne c_19, xb_eq c_30⟩] at hv; exact hv) (lv_sub hl [0, 1, 2] rfl)
  refine lv_iload_n hx hb dX2_rangeTo_0 rfl (lv_at hl 1 rfl) ?_
  refine lv_iconst (v := 1) hx hb dX2_rangeTo_1 (by decide) ?_
  refine lv_iadd hx hb dX2_rangeTo_2 ?_
  refine lv_topi (fun y ey => ?_)
  obtain rfl : y = nI (k + 1) := ey.trans (nI_1 k)
  refine lv_istore_n (lv' := [(2, .int (nI (k + 1))), (0, .ref (ad 0)), (1, .int (nI k))]) hx hb dX2_rangeTo_3 rfl hl (by decide) rfl (fun ls hl => ?_)
  exact loop (255 - k) (k + 1) ls (by omega) rfl (lv_sub hl [0, 1, 2] rfl)
set_option maxHeartbeats 4000000 in
set_option maxRecDepth 100000 in
theorem k_isRange (l : Launch) (D : va_G) (cI cJ cS : ClassId) (ad : Nat → Nat) (mem reg : Nat → xw) (tal : Nat → Int32) (G Q X F : Nat → Bool) (on : Bool) (seen : Nat) (dy : Nat → Bool) (k : Nat) (hk : k < 256) (t : Nat) (ht : t < 512) : xk_Rd l yX2_isRange wsX2_isRange ({ frames := 3, cells := 0, slots := 0, locals := 63 }) D vwCl (xt cI cJ cS) ([((ad 0), .inr (2, [.ref (ad 1), .ref (ad 2), .ref (ad 3), .ref (ad 4), .ref (ad 6), .ref (ad 8), .ref (ad 10), .int (xb on), .int (nI seen), .int (xd dy)])), ((ad 1), .inl (cJ, 256, .inr (.inl (xw_arr mem)))), ((ad 2), .inl (cJ, 8, .inr (.inl (xw_arr reg)))), ((ad 3), .inl (cI, 7, .inl tal)), ((ad 4), .inr (0, [.ref (ad 5)])), ((ad 5), .inl (cJ, 4, .inr (.inl (xs_rows G)))), ((ad 6), .inr (0, [.ref (ad 7)])), ((ad 7), .inl (cJ, 4, .inr (.inl (xs_rows Q)))), ((ad 8), .inr (0, [.ref (ad 9)])), ((ad 9), .inl (cJ, 4, .inr (.inl (xs_rows X)))), ((ad 10), .inr (0, [.ref (ad 11)])), ((ad 11), .inl (cJ, 4, .inr (.inl (xs_rows F))))]) [.ref (ad 0), .int (nI k), .int (nI t)] (some (.int (xb (x_isr G F k t)))) := by
  refine xk_rd (cc := cX2_isRange) (maxL := 3) (ret := (some .boolean)) (by decide) rfl (Nat.le_of_ble_eq_true rfl) (fun p e s m below meth c ls hx hb hr hlk hml hown hts hl hP hK hN => ?_)
  replace hl : lv_has ls 3 [(0, .ref (ad 0)), (1, .int (nI k)), (2, .int (nI t))] := hl
  have hiX2 : ∀ w ∈ u_ws RX2 TX2 10, w ∈ wsX2_isRange := by decide +kernel
  refine lv_aload_n hx hb dX2_isRange_0 rfl (lv_at hl 0 rfl) ?_
  refine va_get (D := D) (ci := 2) (v := .ref (ad 4)) (C := RX2) (T := TX2) (N := 10) hx hb hts hiX2 hown hK hP 0 rfl rfl 3 (by decide) (hts (.fieldLink RX2 25 "PointerSweep$State" "given" "LPointerSweep$CellMap;") (by decide +kernel)) (fun _ h9 => h9) rfl dX2_isRange_1 ?_
  refine lv_iload_n hx hb dX2_isRange_4 rfl (lv_at hl 1 rfl) ?_
  refine xk_callR (va_runV (As := [.int (nI k)]) (rest := []) ⟨hx, hb, hml, hown, hts⟩ (k_has l D cI cJ cS (ad 4) (ad 5) G k hk) (cwV 1 hts gX2_isRange_X0_has rfl rfl rfl (by decide +kernel) ⟨Nat.le_of_ble_eq_true rfl, Nat.le_of_ble_eq_true rfl⟩) (xk_preVr hK hN hP [4, 5] rfl (ci := 0) rfl 0 rfl) rfl rfl hl.1 rfl (lv_room (Nat.le_of_ble_eq_true rfl)) dX2_isRange_5 ⟨Nat.zero_le _, Nat.zero_le _⟩) ?_
  refine lv_if_eq (tgt := 35) hx hb dX2_isRange_8 (by decide) (fun c_8 => ?_) (fun c_8 => ?_)
  · skip
    refine lv_iconst (v := 0) hx hb dX2_isRange_35 (by decide) ?_
    exact xk_zretR hx hb hr hlk rfl (x_isr_g c_8) dX2_isRange_36
  · skip
    refine lv_aload_n hx hb dX2_isRange_11 rfl (lv_at hl 0 rfl) ?_
    refine va_get (D := D) (ci := 2) (v := .ref (ad 10)) (C := RX2) (T := TX2) (N := 10) hx hb hts hiX2 hown hK hP 0 rfl rfl 6 (by decide) (hts (.fieldLink RX2 35 "PointerSweep$State" "firsts" "LPointerSweep$CellMap;") (by decide +kernel)) (fun _ h9 => h9) rfl dX2_isRange_12 ?_
    refine lv_iload_n hx hb dX2_isRange_15 rfl (lv_at hl 1 rfl) ?_
    refine xk_callR (va_runV (As := [.int (nI k)]) (rest := []) ⟨hx, hb, hml, hown, hts⟩ (k_has l D cI cJ cS (ad 10) (ad 11) F k hk) (cwV 1 hts gX2_isRange_X0_has rfl rfl rfl (by decide +kernel) ⟨Nat.le_of_ble_eq_true rfl, Nat.le_of_ble_eq_true rfl⟩) (xk_preVr hK hN hP [10, 11] rfl (ci := 0) rfl 0 rfl) rfl rfl hl.1 rfl (lv_room (Nat.le_of_ble_eq_true rfl)) dX2_isRange_16 ⟨Nat.zero_le _, Nat.zero_le _⟩) ?_
    refine lv_if_eq (tgt := 35) hx hb dX2_isRange_19 (by decide) (fun c_19 => ?_) (fun c_19 => ?_)
    · skip
      refine lv_iconst (v := 0) hx hb dX2_isRange_35 (by decide) ?_
      exact xk_zretR hx hb hr hlk rfl (x_isr_f c_19) dX2_isRange_36
    · skip
      refine lv_aload_n hx hb dX2_isRange_22 rfl (lv_at hl 0 rfl) ?_
      refine lv_iload_n hx hb dX2_isRange_23 rfl (lv_at hl 1 rfl) ?_
      refine xk_callR (va_runV (As := [.int (nI k)]) (rest := []) ⟨hx, hb, hml, hown, hts⟩ (k_rangeTo l D cI cJ cS ad mem reg tal G Q X F on seen dy k hk) (cwV 1 hts gX2_isRange_X2_rangeTo rfl rfl rfl (by decide +kernel) ⟨Nat.le_of_ble_eq_true rfl, Nat.le_of_ble_eq_true rfl⟩) (xk_preVr hK hN hP [0, 1, 2, 3, 4, 5, 6, 7, 8, 9, 10, 11] rfl (ci := 2) rfl 0 rfl) rfl rfl hl.1 rfl (lv_room (Nat.le_of_ble_eq_true rfl)) dX2_isRange_24 ⟨Nat.zero_le _, Nat.zero_le _⟩) ?_
      refine lv_iload_n hx hb dX2_isRange_27 rfl (lv_at hl 2 rfl) ?_
      refine lv_icmp_ne (tgt := 35) hx hb dX2_isRange_28 (by decide) (fun c_28 => ?_) (fun c_28 => ?_)
      · skip
        refine lv_iconst (v := 0) hx hb dX2_isRange_35 (by decide) ?_
        exact xk_zretR hx hb hr hlk rfl (x_isr_n c_28) dX2_isRange_36
      · skip
        refine lv_iconst (v := 1) hx hb dX2_isRange_31 (by decide) ?_
        refine lv_goto (tgt := 36) hx hb dX2_isRange_32 (by decide) ?_
        exact xk_zretR hx hb hr hlk rfl (x_isr_y hk ht c_8 c_19 c_28) dX2_isRange_36
set_option maxHeartbeats 4000000 in
set_option maxRecDepth 100000 in
theorem k_pointersIn (l : Launch) (D : va_G) (cI cJ cS : ClassId) (ad : Nat → Nat) (mem reg : Nat → xw) (tal : Nat → Int32) (G Q X F : Nat → Bool) (on : Bool) (seen : Nat) (dy : Nat → Bool) (hm : ∀ k, xw_ok (mem k)) (a1 b1 : Nat) (hab : a1 ≤ b1) (hb1 : b1 ≤ 256) : xk_Rd l yX2_pointersIn wsX2_pointersIn ({ frames := 1, cells := 0, slots := 0, locals := 21 }) D vwCl (xt cI cJ cS) ([((ad 0), .inr (2, [.ref (ad 1), .ref (ad 2), .ref (ad 3), .ref (ad 4), .ref (ad 6), .ref (ad 8), .ref (ad 10), .int (xb on), .int (nI seen), .int (xd dy)])), ((ad 1), .inl (cJ, 256, .inr (.inl (xw_arr mem)))), ((ad 2), .inl (cJ, 8, .inr (.inl (xw_arr reg)))), ((ad 3), .inl (cI, 7, .inl tal)), ((ad 4), .inr (0, [.ref (ad 5)])), ((ad 5), .inl (cJ, 4, .inr (.inl (xs_rows G)))), ((ad 6), .inr (0, [.ref (ad 7)])), ((ad 7), .inl (cJ, 4, .inr (.inl (xs_rows Q)))), ((ad 8), .inr (0, [.ref (ad 9)])), ((ad 9), .inl (cJ, 4, .inr (.inl (xs_rows X)))), ((ad 10), .inr (0, [.ref (ad 11)])), ((ad 11), .inl (cJ, 4, .inr (.inl (xs_rows F))))]) [.ref (ad 0), .int (nI a1), .int (nI b1)] (some (.int (x_acc (fun k => xb (xw_p (mem k))) a1 (b1 - a1)))) := by
  refine xk_rd (cc := cX2_pointersIn) (maxL := 5) (ret := (some .int)) (by decide) rfl (Nat.le_of_ble_eq_true rfl) (fun p e s m below meth c ls hx hb hr hlk hml hown hts hl hP hK hN => ?_)
  replace hl : lv_has ls 5 [(0, .ref (ad 0)), (1, .int (nI a1)), (2, .int (nI b1))] := hl
  have hiX2 : ∀ w ∈ u_ws RX2 TX2 10, w ∈ wsX2_pointersIn := by decide +kernel
  have loop : ∀ (n i : Nat) (ls : Array Slot), a1 ≤ i → i + n = b1 → lv_has ls 5 [(4, .int (nI i)), (3, .int (x_acc (fun k => xb (xw_p (mem k))) a1 (i - a1))), (0, .ref (ad 0)), (1, .int (nI a1)), (2, .int (nI b1))] → W p l e ({ frames := 1, cells := 0, slots := 0, locals := 21 }) s m ([.ref (ad 0), .int (nI a1), .int (nI b1)]).toArray below meth c s.heap [] 0 0 (MQ below (xk_R (some (.int (x_acc (fun k => xb (xw_p (mem k))) a1 (b1 - a1))))) ([.ref (ad 0), .int (nI a1), .int (nI b1)]).toArray s 0 0 (fun _ => False)) (F0 m 5 ls []) := by
    intro n
    induction n with
    | zero =>
      intro i ls hi hn hl
      refine lv_iload hx hb dX2_pointersIn_5 (lv_at hl 0 rfl) ?_
      refine lv_iload_n hx hb dX2_pointersIn_7 rfl (lv_at hl 4 rfl) ?_
      refine lv_icmp_ge (tgt := 33) hx hb dX2_pointersIn_8 (by decide) (fun c_8 => ?_) (fun c_8 => ?_)
      · skip
        refine lv_iload_n hx hb dX2_pointersIn_33 rfl (lv_at hl 1 rfl) ?_
        exact xk_iretR hx hb hr hlk (by rw [← hn]; rfl) dX2_pointersIn_34
      · skip
        exact absurd (nI_le (a := b1) (b := i) (by omega) (by omega)) c_8
    | succ n ih =>
      intro i ls hi hn hl
      refine lv_iload hx hb dX2_pointersIn_5 (lv_at hl 0 rfl) ?_
      refine lv_iload_n hx hb dX2_pointersIn_7 rfl (lv_at hl 4 rfl) ?_
      refine lv_icmp_ge (tgt := 33) hx hb dX2_pointersIn_8 (by decide) (fun c_8 => ?_) (fun c_8 => ?_)
      · skip
        exact absurd (xn_le_of (by omega) (by omega) c_8) (by omega)
      · skip
        refine lv_iload_n hx hb dX2_pointersIn_11 rfl (lv_at hl 1 rfl) ?_
        refine lv_aload_n hx hb dX2_pointersIn_12 rfl (lv_at hl 2 rfl) ?_
        refine va_get (D := D) (ci := 2) (v := .ref (ad 1)) (C := RX2) (T := TX2) (N := 10) hx hb hts hiX2 hown hK hP 0 rfl rfl 0 (by decide) (hts (.fieldLink RX2 9 "PointerSweep$State" "cells" "[J") (by decide +kernel)) (fun _ h9 => h9) rfl dX2_pointersIn_13 ?_
        refine lv_iload hx hb dX2_pointersIn_16 (lv_at hl 0 rfl) ?_
        refine xa_lald hx hb hK hP 1 1 rfl rfl i rfl (by omega) (by decide) dX2_pointersIn_18 ?_
        refine xk_callR (va_runS (As := [.long (xw_enc (mem i))]) (rest := [.int (x_acc (fun k => xb (xw_p (mem k))) a1 (i - a1))]) ⟨hx, hb, hml, hown, hts⟩ (k_isPointer l D cI cJ cS (mem i) (hm i) ) (va_cwS 1 hts gX2_pointersIn_X3_isPointer rfl rfl rfl (by decide +kernel) ⟨Nat.le_of_ble_eq_true rfl, Nat.le_of_ble_eq_true rfl⟩) (xk_preSr hK hN hP [] rfl) rfl rfl hl.1 rfl (lv_room (Nat.le_of_ble_eq_true rfl)) dX2_pointersIn_19 ⟨Nat.zero_le _, Nat.zero_le _⟩) ?_
        refine xk_callR (va_runSN (As := [.int (xb (xw_p (mem i)))]) (rest := [.int (x_acc (fun k => xb (xw_p (mem k))) a1 (i - a1))]) ⟨hx, hb, hml, hown, hts⟩ (k_oneIf l D cI cJ cS (xw_p (mem i))) ⟨va_cnB 1 hts gX2_pointersIn_X4_oneIf_n87 rfl rfl rfl (hN.1 (.methodLinkNest RX2 87 yX4_oneIf "PointerSweep") (by decide +kernel)) (hts (.initialized RX4) (by decide +kernel)) (by decide +kernel) ⟨Nat.le_of_ble_eq_true rfl, Nat.le_of_ble_eq_true rfl⟩, hts (.static yX4_oneIf) (by decide +kernel), trivial⟩ (xk_preSr hK hN hP [] rfl) rfl rfl hl.1 rfl (lv_room (Nat.le_of_ble_eq_true rfl)) dX2_pointersIn_22 ⟨Nat.zero_le _, Nat.zero_le _⟩) ?_
        refine lv_iadd hx hb dX2_pointersIn_25 ?_
        refine lv_topi (fun y ey => ?_)
        obtain rfl : y = x_acc (fun k => xb (xw_p (mem k))) a1 (i + 1 - a1) := ey.trans (x_acc_s (fun k => xb (xw_p (mem k))) hi)
        refine lv_istore_n (lv' := [(3, .int (x_acc (fun k => xb (xw_p (mem k))) a1 (i + 1 - a1))), (4, .int (nI i)), (0, .ref (ad 0)), (1, .int (nI a1)), (2, .int (nI b1))]) hx hb dX2_pointersIn_26 rfl hl (by decide) rfl (fun ls hl => ?_)
        refine lv_iinc (v := (nI (i + 1))) (lv' := [(4, .int (nI (i + 1))), (3, .int (x_acc (fun k => xb (xw_p (mem k))) a1 (i + 1 - a1))), (0, .ref (ad 0)), (1, .int (nI a1)), (2, .int (nI b1))]) hx hb dX2_pointersIn_27 hl (k := 1) rfl (nI_1 i) (by decide) rfl (fun ls hl => ?_)
        refine lv_goto (tgt := 5) hx hb dX2_pointersIn_30 (by decide) ?_
        exact ih (i + 1) ls (by omega) (by omega) (lv_sub hl [0, 1, 2, 3, 4] rfl)
  refine lv_iconst (v := 0) hx hb dX2_pointersIn_0 (by decide) ?_
  refine lv_topi (fun y ey => ?_)
  obtain rfl : y = x_acc (fun k => xb (xw_p (mem k))) a1 (a1 - a1) := ey.trans (x_acc_0 _ _)
  refine lv_istore_n (lv' := [(3, .int (x_acc (fun k => xb (xw_p (mem k))) a1 (a1 - a1))), (0, .ref (ad 0)), (1, .int (nI a1)), (2, .int (nI b1))]) hx hb dX2_pointersIn_1 rfl hl (by decide) rfl (fun ls hl => ?_)
  refine lv_iload_n hx hb dX2_pointersIn_2 rfl (lv_at hl 2 rfl) ?_
  refine lv_istore (lv' := [(4, .int (nI a1)), (3, .int (x_acc (fun k => xb (xw_p (mem k))) a1 (a1 - a1))), (0, .ref (ad 0)), (1, .int (nI a1)), (2, .int (nI b1))]) hx hb dX2_pointersIn_3 hl (by decide) rfl (fun ls hl => ?_)
  exact loop (b1 - a1) a1 ls (Nat.le_refl _) (by omega) (lv_sub hl [0, 1, 2, 3, 4] rfl)
set_option maxHeartbeats 4000000 in
set_option maxRecDepth 100000 in
theorem k_isSeen (l : Launch) (D : va_G) (cI cJ cS : ClassId) (ad : Nat → Nat) (mem reg : Nat → xw) (tal : Nat → Int32) (G Q X F : Nat → Bool) (on : Bool) (seen : Nat) (dy : Nat → Bool) (hse : seen ≤ 16) (k : Nat) (hk : k < 16) : xk_Rd l yX2_isSeen wsX2_isSeen ({ frames := 0, cells := 0, slots := 0, locals := 0 }) D vwCl (xt cI cJ cS) ([((ad 0), .inr (2, [.ref (ad 1), .ref (ad 2), .ref (ad 3), .ref (ad 4), .ref (ad 6), .ref (ad 8), .ref (ad 10), .int (xb on), .int (nI seen), .int (xd dy)])), ((ad 1), .inl (cJ, 256, .inr (.inl (xw_arr mem)))), ((ad 2), .inl (cJ, 8, .inr (.inl (xw_arr reg)))), ((ad 3), .inl (cI, 7, .inl tal)), ((ad 4), .inr (0, [.ref (ad 5)])), ((ad 5), .inl (cJ, 4, .inr (.inl (xs_rows G)))), ((ad 6), .inr (0, [.ref (ad 7)])), ((ad 7), .inl (cJ, 4, .inr (.inl (xs_rows Q)))), ((ad 8), .inr (0, [.ref (ad 9)])), ((ad 9), .inl (cJ, 4, .inr (.inl (xs_rows X)))), ((ad 10), .inr (0, [.ref (ad 11)])), ((ad 11), .inl (cJ, 4, .inr (.inl (xs_rows F))))]) [.ref (ad 0), .int (nI k)] (some (.int (xb (decide (k < seen))))) := by
  refine xk_rd (cc := cX2_isSeen) (maxL := 2) (ret := (some .boolean)) (by decide) rfl (Nat.le_of_ble_eq_true rfl) (fun p e s m below meth c ls hx hb hr hlk hml hown hts hl hP hK hN => ?_)
  replace hl : lv_has ls 2 [(0, .ref (ad 0)), (1, .int (nI k))] := hl
  have hiX2 : ∀ w ∈ u_ws RX2 TX2 10, w ∈ wsX2_isSeen := by decide +kernel
  refine lv_iload_n hx hb dX2_isSeen_0 rfl (lv_at hl 1 rfl) ?_
  refine lv_aload_n hx hb dX2_isSeen_1 rfl (lv_at hl 0 rfl) ?_
  refine va_get (D := D) (ci := 2) (v := .int (nI seen)) (C := RX2) (T := TX2) (N := 10) hx hb hts hiX2 hown hK hP 0 rfl rfl 8 (by decide) (hts (.fieldLink RX2 42 "PointerSweep$State" "seenPages" "I") (by decide +kernel)) (fun _ h9 => h9) rfl dX2_isSeen_2 ?_
  refine lv_icmp_ge (tgt := 12) hx hb dX2_isSeen_5 (by decide) (fun c_5 => ?_) (fun c_5 => ?_)
  · skip
    refine lv_iconst (v := 0) hx hb dX2_isSeen_12 (by decide) ?_
    exact xk_zretR hx hb hr hlk rfl (x_seen_f (by omega) (by omega) c_5) dX2_isSeen_13
  · skip
    refine lv_iconst (v := 1) hx hb dX2_isSeen_8 (by decide) ?_
    refine lv_goto (tgt := 13) hx hb dX2_isSeen_9 (by decide) ?_
    exact xk_zretR hx hb hr hlk rfl (x_seen_t (by omega) (by omega) c_5) dX2_isSeen_13
set_option maxHeartbeats 4000000 in
set_option maxRecDepth 100000 in
theorem k_isDirty (l : Launch) (D : va_G) (cI cJ cS : ClassId) (ad : Nat → Nat) (mem reg : Nat → xw) (tal : Nat → Int32) (G Q X F : Nat → Bool) (on : Bool) (seen : Nat) (dy : Nat → Bool) (k : Nat) (hk : k < 16) : xk_Rd l yX2_isDirty wsX2_isDirty ({ frames := 0, cells := 0, slots := 0, locals := 0 }) D vwCl (xt cI cJ cS) ([((ad 0), .inr (2, [.ref (ad 1), .ref (ad 2), .ref (ad 3), .ref (ad 4), .ref (ad 6), .ref (ad 8), .ref (ad 10), .int (xb on), .int (nI seen), .int (xd dy)])), ((ad 1), .inl (cJ, 256, .inr (.inl (xw_arr mem)))), ((ad 2), .inl (cJ, 8, .inr (.inl (xw_arr reg)))), ((ad 3), .inl (cI, 7, .inl tal)), ((ad 4), .inr (0, [.ref (ad 5)])), ((ad 5), .inl (cJ, 4, .inr (.inl (xs_rows G)))), ((ad 6), .inr (0, [.ref (ad 7)])), ((ad 7), .inl (cJ, 4, .inr (.inl (xs_rows Q)))), ((ad 8), .inr (0, [.ref (ad 9)])), ((ad 9), .inl (cJ, 4, .inr (.inl (xs_rows X)))), ((ad 10), .inr (0, [.ref (ad 11)])), ((ad 11), .inl (cJ, 4, .inr (.inl (xs_rows F))))]) [.ref (ad 0), .int (nI k)] (some (.int (xb (dy k)))) := by
  refine xk_rd (cc := cX2_isDirty) (maxL := 2) (ret := (some .boolean)) (by decide) rfl (Nat.le_of_ble_eq_true rfl) (fun p e s m below meth c ls hx hb hr hlk hml hown hts hl hP hK hN => ?_)
  replace hl : lv_has ls 2 [(0, .ref (ad 0)), (1, .int (nI k))] := hl
  have hiX2 : ∀ w ∈ u_ws RX2 TX2 10, w ∈ wsX2_isDirty := by decide +kernel
  refine lv_aload_n hx hb dX2_isDirty_0 rfl (lv_at hl 0 rfl) ?_
  refine va_get (D := D) (ci := 2) (v := .int (xd dy)) (C := RX2) (T := TX2) (N := 10) hx hb hts hiX2 hown hK hP 0 rfl rfl 9 (by decide) (hts (.fieldLink RX2 46 "PointerSweep$State" "dirtyPages" "I") (by decide +kernel)) (fun _ h9 => h9) rfl dX2_isDirty_1 ?_
  refine lv_iload_n hx hb dX2_isDirty_4 rfl (lv_at hl 1 rfl) ?_
  refine lv_ishr hx hb dX2_isDirty_5 ?_
  refine lv_iconst (v := 1) hx hb dX2_isDirty_6 (by decide) ?_
  refine lv_iand hx hb dX2_isDirty_7 ?_
  refine lv_if_eq (tgt := 15) hx hb dX2_isDirty_8 (by decide) (fun c_8 => ?_) (fun c_8 => ?_)
  · skip
    refine lv_iconst (v := 0) hx hb dX2_isDirty_15 (by decide) ?_
    exact xk_zretR hx hb hr hlk rfl (xb_p0 (xd_is dy hk) c_8) dX2_isDirty_16
  · skip
    refine lv_iconst (v := 1) hx hb dX2_isDirty_11 (by decide) ?_
    refine lv_goto (tgt := 16) hx hb dX2_isDirty_12 (by decide) ?_
    exact xk_zretR hx hb hr hlk rfl (xb_p1 (xd_is dy hk) c_8) dX2_isDirty_16
set_option maxHeartbeats 4000000 in
set_option maxRecDepth 100000 in
theorem k_isStale (l : Launch) (D : va_G) (cI cJ cS : ClassId) (ad : Nat → Nat) (mem reg : Nat → xw) (tal : Nat → Int32) (G Q X F : Nat → Bool) (on : Bool) (seen : Nat) (dy : Nat → Bool) (w : xw) (hw : xw_ok w) : xk_Rd l yX2_isStale wsX2_isStale ({ frames := 2, cells := 0, slots := 0, locals := 46 }) D vwCl (xt cI cJ cS) ([((ad 0), .inr (2, [.ref (ad 1), .ref (ad 2), .ref (ad 3), .ref (ad 4), .ref (ad 6), .ref (ad 8), .ref (ad 10), .int (xb on), .int (nI seen), .int (xd dy)])), ((ad 8), .inr (0, [.ref (ad 9)])), ((ad 9), .inl (cJ, 4, .inr (.inl (xs_rows X))))]) [.ref (ad 0), .long (xw_enc w)] (some (.int (xb (x_stale X w)))) := by
  refine xk_rd (cc := cX2_isStale) (maxL := 3) (ret := (some .boolean)) (by decide) rfl (Nat.le_of_ble_eq_true rfl) (fun p e s m below meth c ls hx hb hr hlk hml hown hts hl hP hK hN => ?_)
  replace hl : lv_has ls 3 [(0, .ref (ad 0)), (1, .long (xw_enc w))] := hl
  have hiX2 : ∀ w ∈ u_ws RX2 TX2 10, w ∈ wsX2_isStale := by decide +kernel
  refine lv_lload_n hx hb dX2_isStale_0 rfl (lv_at hl 1 rfl) ?_
  refine xk_callR (va_runS (As := [.long (xw_enc w)]) (rest := []) ⟨hx, hb, hml, hown, hts⟩ (k_isPointer l D cI cJ cS w hw ) (va_cwS 1 hts gX2_isStale_X3_isPointer rfl rfl rfl (by decide +kernel) ⟨Nat.le_of_ble_eq_true rfl, Nat.le_of_ble_eq_true rfl⟩) (xk_preSr hK hN hP [] rfl) rfl rfl hl.1 rfl (lv_room (Nat.le_of_ble_eq_true rfl)) dX2_isStale_1 ⟨Nat.zero_le _, Nat.zero_le _⟩) ?_
  refine lv_if_eq (tgt := 29) hx hb dX2_isStale_4 (by decide) (fun c_4 => ?_) (fun c_4 => ?_)
  · skip
    refine lv_iconst (v := 0) hx hb dX2_isStale_29 (by decide) ?_
    exact xk_zretR hx hb hr hlk rfl (x_stale_np c_4) dX2_isStale_30
  · skip
    refine lv_aload_n hx hb dX2_isStale_7 rfl (lv_at hl 0 rfl) ?_
    refine va_get (D := D) (ci := 2) (v := .ref (ad 8)) (C := RX2) (T := TX2) (N := 10) hx hb hts hiX2 hown hK hP 0 rfl rfl 5 (by decide) (hts (.fieldLink RX2 32 "PointerSweep$State" "doomed" "LPointerSweep$CellMap;") (by decide +kernel)) (fun _ h9 => h9) rfl dX2_isStale_8 ?_
    refine lv_lload_n hx hb dX2_isStale_11 rfl (lv_at hl 1 rfl) ?_
    refine xk_callR (va_runS (As := [.long (xw_enc w)]) (rest := [.ref (ad 8)]) ⟨hx, hb, hml, hown, hts⟩ (k_from l D cI cJ cS w hw ) (va_cwS 1 hts gX2_isStale_X3_from rfl rfl rfl (by decide +kernel) ⟨Nat.le_of_ble_eq_true rfl, Nat.le_of_ble_eq_true rfl⟩) (xk_preSr hK hN hP [] rfl) rfl rfl hl.1 rfl (lv_room (Nat.le_of_ble_eq_true rfl)) dX2_isStale_12 ⟨Nat.zero_le _, Nat.zero_le _⟩) ?_
    refine lv_lload_n hx hb dX2_isStale_15 rfl (lv_at hl 1 rfl) ?_
    refine xk_callR (va_runS (As := [.long (xw_enc w)]) (rest := [.int (nI (xw_f w)), .ref (ad 8)]) ⟨hx, hb, hml, hown, hts⟩ (k_to l D cI cJ cS w hw ) (va_cwS 1 hts gX2_isStale_X3_to rfl rfl rfl (by decide +kernel) ⟨Nat.le_of_ble_eq_true rfl, Nat.le_of_ble_eq_true rfl⟩) (xk_preSr hK hN hP [] rfl) rfl rfl hl.1 rfl (lv_room (Nat.le_of_ble_eq_true rfl)) dX2_isStale_16 ⟨Nat.zero_le _, Nat.zero_le _⟩) ?_
    refine xk_callR (va_runV (As := [.int (nI (xw_f w)), .int (nI (xw_t w))]) (rest := []) ⟨hx, hb, hml, hown, hts⟩ (k_sizeWithin l D cI cJ cS (ad 8) (ad 9) X (xw_f w) (xw_t w) (xw_f_le hw) (xw_t_le hw)) (cwV 2 hts gX2_isStale_X0_sizeWithin rfl rfl rfl (by decide +kernel) ⟨Nat.le_of_ble_eq_true rfl, Nat.le_of_ble_eq_true rfl⟩) (xk_preVr hK hN hP [1, 2] rfl (ci := 0) rfl 0 rfl) rfl rfl hl.1 rfl (lv_room (Nat.le_of_ble_eq_true rfl)) dX2_isStale_19 ⟨Nat.zero_le _, Nat.zero_le _⟩) ?_
    refine lv_if_le (tgt := 29) hx hb dX2_isStale_22 (by decide) (fun c_22 => ?_) (fun c_22 => ?_)
    · skip
      refine lv_iconst (v := 0) hx hb dX2_isStale_29 (by decide) ?_
      exact xk_zretR hx hb hr hlk rfl (x_stale_no c_22) dX2_isStale_30
    · skip
      refine lv_iconst (v := 1) hx hb dX2_isStale_25 (by decide) ?_
      refine lv_goto (tgt := 30) hx hb dX2_isStale_26 (by decide) ?_
      exact xk_zretR hx hb hr hlk rfl (x_stale_yes c_4 c_22) dX2_isStale_30
end
section
set_option maxHeartbeats 4000000 in
set_option maxRecDepth 100000 in
theorem k_lookUp (l : Launch) (D : va_G) (cI cJ cS : ClassId) (ad : Nat → Nat) (mem reg : Nat → xw) (tal : Nat → Int32) (G Q X F : Nat → Bool) (on : Bool) (seen : Nat) (dy : Nat → Bool) (hm : ∀ k, xw_ok (mem k)) (k : Nat) (hk : k < 256) : xk_Wr l yX2_lookUp wsX2_lookUp ({ frames := 3, cells := 0, slots := 0, locals := 68 }) D vwCl (xt cI cJ cS) ([((ad 0), .inr (2, [.ref (ad 1), .ref (ad 2), .ref (ad 3), .ref (ad 4), .ref (ad 6), .ref (ad 8), .ref (ad 10), .int (xb on), .int (nI seen), .int (xd dy)])), ((ad 1), .inl (cJ, 256, .inr (.inl (xw_arr mem)))), ((ad 2), .inl (cJ, 8, .inr (.inl (xw_arr reg)))), ((ad 3), .inl (cI, 7, .inl tal)), ((ad 4), .inr (0, [.ref (ad 5)])), ((ad 5), .inl (cJ, 4, .inr (.inl (xs_rows G)))), ((ad 6), .inr (0, [.ref (ad 7)])), ((ad 7), .inl (cJ, 4, .inr (.inl (xs_rows Q)))), ((ad 8), .inr (0, [.ref (ad 9)])), ((ad 9), .inl (cJ, 4, .inr (.inl (xs_rows X)))), ((ad 10), .inr (0, [.ref (ad 11)])), ((ad 11), .inl (cJ, 4, .inr (.inl (xs_rows F))))]) [.ref (ad 0), .int (nI k)] ([((ad 0), .inr (2, [.ref (ad 1), .ref (ad 2), .ref (ad 3), .ref (ad 4), .ref (ad 6), .ref (ad 8), .ref (ad 10), .int (xb on), .int (nI seen), .int (xd dy)])), ((ad 1), .inl (cJ, 256, .inr (.inl (xw_arr mem)))), ((ad 2), .inl (cJ, 8, .inr (.inl (xw_arr reg)))), ((ad 3), .inl (cI, 7, .inl (x_tk X (mem k) tal))), ((ad 4), .inr (0, [.ref (ad 5)])), ((ad 5), .inl (cJ, 4, .inr (.inl (xs_rows G)))), ((ad 6), .inr (0, [.ref (ad 7)])), ((ad 7), .inl (cJ, 4, .inr (.inl (xs_rows Q)))), ((ad 8), .inr (0, [.ref (ad 9)])), ((ad 9), .inl (cJ, 4, .inr (.inl (xs_rows X)))), ((ad 10), .inr (0, [.ref (ad 11)])), ((ad 11), .inl (cJ, 4, .inr (.inl (xs_rows F))))]) (some (.long (xw_enc (x_lk X (mem k))))) := by
  refine xk_wr (cc := cX2_lookUp) (maxL := 4) (ret := (some .long)) (by decide) rfl (Nat.le_of_ble_eq_true rfl) (fun p e s m below meth c ls hx hb hr hlk hml hown hts hl hP hK hN hD hS => ?_)
  replace hl : lv_has ls 4 [(0, .ref (ad 0)), (1, .int (nI k))] := hl
  have hiX2 : ∀ w ∈ u_ws RX2 TX2 10, w ∈ wsX2_lookUp := by decide +kernel
  refine lv_aload_n hx hb dX2_lookUp_0 rfl (lv_at hl 0 rfl) ?_
  refine va_get (D := D) (ci := 2) (v := .ref (ad 1)) (C := RX2) (T := TX2) (N := 10) hx hb hts hiX2 hown hK hP 0 rfl rfl 0 (by decide) (hts (.fieldLink RX2 9 "PointerSweep$State" "cells" "[J") (by decide +kernel)) (fun _ h9 => h9) rfl dX2_lookUp_1 ?_
  refine lv_iload_n hx hb dX2_lookUp_4 rfl (lv_at hl 1 rfl) ?_
  refine xa_lald hx hb hK hP 1 1 rfl rfl k rfl hk (by decide) dX2_lookUp_5 ?_
  refine lv_lstore_n (lv' := [(2, .long (xw_enc (mem k))), (0, .ref (ad 0)), (1, .int (nI k))]) hx hb dX2_lookUp_6 rfl hl (by decide) rfl (fun ls hl => ?_)
  refine lv_aload_n hx hb dX2_lookUp_7 rfl (lv_at hl 1 rfl) ?_
  refine lv_lload_n hx hb dX2_lookUp_8 rfl (lv_at hl 0 rfl) ?_
  refine xk_callR (va_runV (As := [.long (xw_enc (mem k))]) (rest := []) ⟨hx, hb, hml, hown, hts⟩ (k_isStale l D cI cJ cS ad mem reg tal G Q X F on seen dy (mem k) (hm k)) (cwV 1 hts gX2_lookUp_X2_isStale rfl rfl rfl (by decide +kernel) ⟨Nat.le_of_ble_eq_true rfl, Nat.le_of_ble_eq_true rfl⟩) (xk_preVr hK hN hP [0, 8, 9] rfl (ci := 2) rfl 0 rfl) rfl rfl hl.1 rfl (lv_room (Nat.le_of_ble_eq_true rfl)) dX2_lookUp_9 ⟨Nat.zero_le _, Nat.zero_le _⟩) ?_
  refine lv_if_ne (tgt := 17) hx hb dX2_lookUp_12 (by decide) (fun c_12 => ?_) (fun c_12 => ?_)
  · skip
    refine lv_aload_n hx hb dX2_lookUp_17 rfl (lv_at hl 1 rfl) ?_
    refine va_get (D := D) (ci := 2) (v := .ref (ad 3)) (C := RX2) (T := TX2) (N := 10) hx hb hts hiX2 hown hK hP 0 rfl rfl 2 (by decide) (hts (.fieldLink RX2 18 "PointerSweep$State" "tallies" "[I") (by decide +kernel)) (fun _ h9 => h9) rfl dX2_lookUp_18 ?_
    refine lv_iconst (v := 3) hx hb dX2_lookUp_21 (by decide) ?_
    refine lv_dup2_11 hx hb dX2_lookUp_22 rfl rfl ?_
    refine xa_iald hx hb hK hP 3 0 rfl rfl 3 rfl (by decide) (by decide) dX2_lookUp_23 ?_
    refine lv_iconst (v := 1) hx hb dX2_lookUp_24 (by decide) ?_
    refine lv_iadd hx hb dX2_lookUp_25 ?_
    refine xa_iast (ws' := [((ad 0), .inr (2, [.ref (ad 1), .ref (ad 2), .ref (ad 3), .ref (ad 4), .ref (ad 6), .ref (ad 8), .ref (ad 10), .int (xb on), .int (nI seen), .int (xd dy)])), ((ad 1), .inl (cJ, 256, .inr (.inl (xw_arr mem)))), ((ad 2), .inl (cJ, 8, .inr (.inl (xw_arr reg)))), ((ad 3), .inl (cI, 7, .inl (upd tal 3 ((tal 3) + 1)))), ((ad 4), .inr (0, [.ref (ad 5)])), ((ad 5), .inl (cJ, 4, .inr (.inl (xs_rows G)))), ((ad 6), .inr (0, [.ref (ad 7)])), ((ad 7), .inl (cJ, 4, .inr (.inl (xs_rows Q)))), ((ad 8), .inr (0, [.ref (ad 9)])), ((ad 9), .inl (cJ, 4, .inr (.inl (xs_rows X)))), ((ad 10), .inr (0, [.ref (ad 11)])), ((ad 11), .inl (cJ, 4, .inr (.inl (xs_rows F))))]) hx hb hK hP hD hS 3 0 rfl rfl 3 rfl (by decide) (by decide) dX2_lookUp_26 rfl (fun H locs hP hD hS => ?_)
    refine lv_lload_n hx hb dX2_lookUp_27 rfl (lv_at hl 0 rfl) ?_
    refine xk_callR (va_runS (As := [.long (xw_enc (mem k))]) (rest := []) ⟨hx, hb, hml, hown, hts⟩ (k_at l D cI cJ cS (mem k) (hm k) ) (va_cwS 1 hts gX2_lookUp_X3_at rfl rfl rfl (by decide +kernel) ⟨Nat.le_of_ble_eq_true rfl, Nat.le_of_ble_eq_true rfl⟩) (xk_preSr hK hN hP [] rfl) rfl rfl hl.1 rfl (lv_room (Nat.le_of_ble_eq_true rfl)) dX2_lookUp_28 ⟨Nat.zero_le _, Nat.zero_le _⟩) ?_
    refine xk_callR (va_runS (As := [.int ((mem k).1)]) (rest := []) ⟨hx, hb, hml, hown, hts⟩ (k_ofNumber l D cI cJ cS ((mem k).1)) (va_cwS 1 hts gX2_lookUp_X3_ofNumber rfl rfl rfl (by decide +kernel) ⟨Nat.le_of_ble_eq_true rfl, Nat.le_of_ble_eq_true rfl⟩) (xk_preSr hK hN hP [] rfl) rfl rfl hl.1 rfl (lv_room (Nat.le_of_ble_eq_true rfl)) dX2_lookUp_31 ⟨Nat.zero_le _, Nat.zero_le _⟩) ?_
    exact xk_lretW hx hb hr hlk hP hS (by rw [x_lk_t c_12]) (by rw [x_tk_t c_12]) dX2_lookUp_34
  · skip
    refine lv_lload_n hx hb dX2_lookUp_15 rfl (lv_at hl 0 rfl) ?_
    exact xk_lretW hx hb hr hlk hP hS (by rw [x_lk_f c_12]) (by rw [x_tk_f c_12]) dX2_lookUp_16
set_option maxHeartbeats 4000000 in
set_option maxRecDepth 100000 in
theorem k_layDown (l : Launch) (D : va_G) (cI cJ cS : ClassId) (ad : Nat → Nat) (mem reg : Nat → xw) (tal : Nat → Int32) (G Q X F : Nat → Bool) (on : Bool) (seen : Nat) (dy : Nat → Bool) (hse : seen ≤ 16) (k : Nat) (hk : k < 256) (w : xw) (hw : xw_ok w) : xk_Wr l yX2_layDown wsX2_layDown ({ frames := 1, cells := 0, slots := 0, locals := 21 }) D vwCl (xt cI cJ cS) ([((ad 0), .inr (2, [.ref (ad 1), .ref (ad 2), .ref (ad 3), .ref (ad 4), .ref (ad 6), .ref (ad 8), .ref (ad 10), .int (xb on), .int (nI seen), .int (xd dy)])), ((ad 1), .inl (cJ, 256, .inr (.inl (xw_arr mem)))), ((ad 2), .inl (cJ, 8, .inr (.inl (xw_arr reg)))), ((ad 3), .inl (cI, 7, .inl tal)), ((ad 4), .inr (0, [.ref (ad 5)])), ((ad 5), .inl (cJ, 4, .inr (.inl (xs_rows G)))), ((ad 6), .inr (0, [.ref (ad 7)])), ((ad 7), .inl (cJ, 4, .inr (.inl (xs_rows Q)))), ((ad 8), .inr (0, [.ref (ad 9)])), ((ad 9), .inl (cJ, 4, .inr (.inl (xs_rows X)))), ((ad 10), .inr (0, [.ref (ad 11)])), ((ad 11), .inl (cJ, 4, .inr (.inl (xs_rows F))))]) [.ref (ad 0), .int (nI k), .long (xw_enc w)] ([((ad 0), .inr (2, [.ref (ad 1), .ref (ad 2), .ref (ad 3), .ref (ad 4), .ref (ad 6), .ref (ad 8), .ref (ad 10), .int (xb on), .int (nI seen), .int (xd (x_dk seen w k dy))])), ((ad 1), .inl (cJ, 256, .inr (.inl (xw_arr (va_up mem k w))))), ((ad 2), .inl (cJ, 8, .inr (.inl (xw_arr reg)))), ((ad 3), .inl (cI, 7, .inl tal)), ((ad 4), .inr (0, [.ref (ad 5)])), ((ad 5), .inl (cJ, 4, .inr (.inl (xs_rows G)))), ((ad 6), .inr (0, [.ref (ad 7)])), ((ad 7), .inl (cJ, 4, .inr (.inl (xs_rows Q)))), ((ad 8), .inr (0, [.ref (ad 9)])), ((ad 9), .inl (cJ, 4, .inr (.inl (xs_rows X)))), ((ad 10), .inr (0, [.ref (ad 11)])), ((ad 11), .inl (cJ, 4, .inr (.inl (xs_rows F))))]) none := by
  refine xk_wr (cc := cX2_layDown) (maxL := 5) (ret := none) (by decide) rfl (Nat.le_of_ble_eq_true rfl) (fun p e s m below meth c ls hx hb hr hlk hml hown hts hl hP hK hN hD hS => ?_)
  replace hl : lv_has ls 5 [(0, .ref (ad 0)), (1, .int (nI k)), (2, .long (xw_enc w))] := hl
  have hiX2 : ∀ w ∈ u_ws RX2 TX2 10, w ∈ wsX2_layDown := by decide +kernel
  refine lv_aload_n hx hb dX2_layDown_0 rfl (lv_at hl 0 rfl) ?_
  refine va_get (D := D) (ci := 2) (v := .ref (ad 1)) (C := RX2) (T := TX2) (N := 10) hx hb hts hiX2 hown hK hP 0 rfl rfl 0 (by decide) (hts (.fieldLink RX2 9 "PointerSweep$State" "cells" "[J") (by decide +kernel)) (fun _ h9 => h9) rfl dX2_layDown_1 ?_
  refine lv_iload_n hx hb dX2_layDown_4 rfl (lv_at hl 1 rfl) ?_
  refine lv_lload_n hx hb dX2_layDown_5 rfl (lv_at hl 2 rfl) ?_
  refine xa_last (ws' := [((ad 0), .inr (2, [.ref (ad 1), .ref (ad 2), .ref (ad 3), .ref (ad 4), .ref (ad 6), .ref (ad 8), .ref (ad 10), .int (xb on), .int (nI seen), .int (xd dy)])), ((ad 1), .inl (cJ, 256, .inr (.inl (vp_updL (xw_arr mem) k (xw_enc w))))), ((ad 2), .inl (cJ, 8, .inr (.inl (xw_arr reg)))), ((ad 3), .inl (cI, 7, .inl tal)), ((ad 4), .inr (0, [.ref (ad 5)])), ((ad 5), .inl (cJ, 4, .inr (.inl (xs_rows G)))), ((ad 6), .inr (0, [.ref (ad 7)])), ((ad 7), .inl (cJ, 4, .inr (.inl (xs_rows Q)))), ((ad 8), .inr (0, [.ref (ad 9)])), ((ad 9), .inl (cJ, 4, .inr (.inl (xs_rows X)))), ((ad 10), .inr (0, [.ref (ad 11)])), ((ad 11), .inl (cJ, 4, .inr (.inl (xs_rows F))))]) hx hb hK hP hD hS 1 1 rfl rfl k rfl hk (by decide) dX2_layDown_6 rfl (fun H locs hP hD hS => ?_)
  rw [xw_upd] at hP hD
  refine lv_iload_n hx hb dX2_layDown_7 rfl (lv_at hl 1 rfl) ?_
  refine lv_bipush (v := 16) hx hb dX2_layDown_8 (by decide) ?_
  refine lv_idiv hx hb dX2_layDown_10 (by decide) ?_
  refine lv_topi (fun y ey => ?_)
  obtain rfl : y = nI (k / 16) := ey.trans (x_div16 hk)
  refine lv_istore (lv' := [(4, .int (nI (k / 16))), (0, .ref (ad 0)), (1, .int (nI k)), (2, .long (xw_enc w))]) hx hb dX2_layDown_11 hl (by decide) rfl (fun ls hl => ?_)
  refine lv_lload_n hx hb dX2_layDown_13 rfl (lv_at hl 3 rfl) ?_
  refine xk_callR (va_runS (As := [.long (xw_enc w)]) (rest := []) ⟨hx, hb, hml, hown, hts⟩ (k_isPointer l D cI cJ cS w hw ) (va_cwS 1 hts gX2_layDown_X3_isPointer rfl rfl rfl (by decide +kernel) ⟨Nat.le_of_ble_eq_true rfl, Nat.le_of_ble_eq_true rfl⟩) (xk_preSr hK hN hP [] rfl) rfl rfl hl.1 rfl (lv_room (Nat.le_of_ble_eq_true rfl)) dX2_layDown_14 ⟨Nat.zero_le _, Nat.zero_le _⟩) ?_
  refine lv_if_eq (tgt := 42) hx hb dX2_layDown_17 (by decide) (fun c_17 => ?_) (fun c_17 => ?_)
  · skip
    exact xk_vretW hx hb hr hlk hP hS (by rw [x_dk_p c_17]) dX2_layDown_42
  · skip
    refine lv_aload_n hx hb dX2_layDown_20 rfl (lv_at hl 1 rfl) ?_
    refine lv_iload hx hb dX2_layDown_21 (lv_at hl 0 rfl) ?_
    refine xk_callR (va_runV (As := [.int (nI (k / 16))]) (rest := []) ⟨hx, hb, hml, hown, hts⟩ (k_isSeen l D cI cJ cS ad (va_up mem k w) reg tal G Q X F on seen dy hse (k / 16) (by omega)) (cwV 1 hts gX2_layDown_X2_isSeen rfl rfl rfl (by decide +kernel) ⟨Nat.le_of_ble_eq_true rfl, Nat.le_of_ble_eq_true rfl⟩) (xk_preVr hK hN hP [0, 1, 2, 3, 4, 5, 6, 7, 8, 9, 10, 11] rfl (ci := 2) rfl 0 rfl) rfl rfl hl.1 rfl (lv_room (Nat.le_of_ble_eq_true rfl)) dX2_layDown_23 ⟨Nat.zero_le _, Nat.zero_le _⟩) ?_
    refine lv_if_eq (tgt := 42) hx hb dX2_layDown_26 (by decide) (fun c_26 => ?_) (fun c_26 => ?_)
    · skip
      exact xk_vretW hx hb hr hlk hP hS (by rw [x_dk_s c_26]) dX2_layDown_42
    · skip
      refine lv_aload_n hx hb dX2_layDown_29 rfl (lv_at hl 1 rfl) ?_
      refine lv_dup hx hb dX2_layDown_30 rfl ?_
      refine va_get (D := D) (ci := 2) (v := .int (xd dy)) (C := RX2) (T := TX2) (N := 10) hx hb hts hiX2 hown hK hP 0 rfl rfl 9 (by decide) (hts (.fieldLink RX2 46 "PointerSweep$State" "dirtyPages" "I") (by decide +kernel)) (fun _ h9 => h9) rfl dX2_layDown_31 ?_
      refine lv_iconst (v := 1) hx hb dX2_layDown_34 (by decide) ?_
      refine lv_iload hx hb dX2_layDown_35 (lv_at hl 0 rfl) ?_
      refine lv_ishl hx hb dX2_layDown_37 ?_
      refine lv_ior hx hb dX2_layDown_38 ?_
      refine xa_put (ci := 2) (v := .int ((xd dy) ||| (1 <<< ((nI (k / 16)) &&& 31)))) (ty := .int) (C := RX2) (T := TX2) (N := 10) (ws' := [((ad 0), .inr (2, [.ref (ad 1), .ref (ad 2), .ref (ad 3), .ref (ad 4), .ref (ad 6), .ref (ad 8), .ref (ad 10), .int (xb on), .int (nI seen), .int ((xd dy) ||| (1 <<< ((nI (k / 16)) &&& 31)))])), ((ad 1), .inl (cJ, 256, .inr (.inl (xw_arr (va_up mem k w))))), ((ad 2), .inl (cJ, 8, .inr (.inl (xw_arr reg)))), ((ad 3), .inl (cI, 7, .inl tal)), ((ad 4), .inr (0, [.ref (ad 5)])), ((ad 5), .inl (cJ, 4, .inr (.inl (xs_rows G)))), ((ad 6), .inr (0, [.ref (ad 7)])), ((ad 7), .inl (cJ, 4, .inr (.inl (xs_rows Q)))), ((ad 8), .inr (0, [.ref (ad 9)])), ((ad 9), .inl (cJ, 4, .inr (.inl (xs_rows X)))), ((ad 10), .inr (0, [.ref (ad 11)])), ((ad 11), .inl (cJ, 4, .inr (.inl (xs_rows F))))]) hx hb hts hiX2 tyX2 tyX2_ok nmX2 hown hK hP hD hS 0 rfl rfl 9 (by decide) (hts (.fieldLink RX2 46 "PointerSweep$State" "dirtyPages" "I") (by decide +kernel)) (fun _ h9 => h9) rfl (by decide +kernel) rfl rfl (Nat.le_of_ble_eq_true rfl) dX2_layDown_39 rfl (fun H locs hP hD hS => ?_)
      exact xk_vretW hx hb hr hlk hP hS (by rw [x_dk_t c_17 c_26, xd_add dy (by omega)]) dX2_layDown_42
set_option maxHeartbeats 4000000 in
set_option maxRecDepth 100000 in
theorem k_beginSweep (l : Launch) (D : va_G) (cI cJ cS : ClassId) (ad : Nat → Nat) (mem reg : Nat → xw) (tal : Nat → Int32) (G Q X F : Nat → Bool) (on : Bool) (seen : Nat) (dy : Nat → Bool) : xk_Wr l yX2_beginSweep wsX2_beginSweep ({ frames := 3, cells := 0, slots := 0, locals := 81 }) D vwCl (xt cI cJ cS) ([((ad 0), .inr (2, [.ref (ad 1), .ref (ad 2), .ref (ad 3), .ref (ad 4), .ref (ad 6), .ref (ad 8), .ref (ad 10), .int (xb on), .int (nI seen), .int (xd dy)])), ((ad 1), .inl (cJ, 256, .inr (.inl (xw_arr mem)))), ((ad 2), .inl (cJ, 8, .inr (.inl (xw_arr reg)))), ((ad 3), .inl (cI, 7, .inl tal)), ((ad 4), .inr (0, [.ref (ad 5)])), ((ad 5), .inl (cJ, 4, .inr (.inl (xs_rows G)))), ((ad 6), .inr (0, [.ref (ad 7)])), ((ad 7), .inl (cJ, 4, .inr (.inl (xs_rows Q)))), ((ad 8), .inr (0, [.ref (ad 9)])), ((ad 9), .inl (cJ, 4, .inr (.inl (xs_rows X)))), ((ad 10), .inr (0, [.ref (ad 11)])), ((ad 11), .inl (cJ, 4, .inr (.inl (xs_rows F))))]) [.ref (ad 0)] ([((ad 0), .inr (2, [.ref (ad 1), .ref (ad 2), .ref (ad 3), .ref (ad 4), .ref (ad 6), .ref (ad 8), .ref (ad 10), .int (xb true), .int (nI seen), .int (xd dy)])), ((ad 1), .inl (cJ, 256, .inr (.inl (xw_arr mem)))), ((ad 2), .inl (cJ, 8, .inr (.inl (xw_arr reg)))), ((ad 3), .inl (cI, 7, .inl tal)), ((ad 4), .inr (0, [.ref (ad 5)])), ((ad 5), .inl (cJ, 4, .inr (.inl (xs_rows G)))), ((ad 6), .inr (0, [.ref (ad 7)])), ((ad 7), .inl (cJ, 4, .inr (.inl (xs_rows Q)))), ((ad 8), .inr (0, [.ref (ad 9)])), ((ad 9), .inl (cJ, 4, .inr (.inl (xs_rows Q)))), ((ad 10), .inr (0, [.ref (ad 11)])), ((ad 11), .inl (cJ, 4, .inr (.inl (xs_rows F))))]) (some (.int (nI (xs_w Q 0 256)))) := by
  refine xk_wr (cc := cX2_beginSweep) (maxL := 1) (ret := (some .int)) (by decide) rfl (Nat.le_of_ble_eq_true rfl) (fun p e s m below meth c ls hx hb hr hlk hml hown hts hl hP hK hN hD hS => ?_)
  replace hl : lv_has ls 1 [(0, .ref (ad 0))] := hl
  have hiX2 : ∀ w ∈ u_ws RX2 TX2 10, w ∈ wsX2_beginSweep := by decide +kernel
  refine lv_aload_n hx hb dX2_beginSweep_0 rfl (lv_at hl 0 rfl) ?_
  refine lv_iconst (v := 1) hx hb dX2_beginSweep_1 (by decide) ?_
  refine xa_put (ci := 2) (v := .int 1) (ty := .boolean) (C := RX2) (T := TX2) (N := 10) (ws' := [((ad 0), .inr (2, [.ref (ad 1), .ref (ad 2), .ref (ad 3), .ref (ad 4), .ref (ad 6), .ref (ad 8), .ref (ad 10), .int 1, .int (nI seen), .int (xd dy)])), ((ad 1), .inl (cJ, 256, .inr (.inl (xw_arr mem)))), ((ad 2), .inl (cJ, 8, .inr (.inl (xw_arr reg)))), ((ad 3), .inl (cI, 7, .inl tal)), ((ad 4), .inr (0, [.ref (ad 5)])), ((ad 5), .inl (cJ, 4, .inr (.inl (xs_rows G)))), ((ad 6), .inr (0, [.ref (ad 7)])), ((ad 7), .inl (cJ, 4, .inr (.inl (xs_rows Q)))), ((ad 8), .inr (0, [.ref (ad 9)])), ((ad 9), .inl (cJ, 4, .inr (.inl (xs_rows X)))), ((ad 10), .inr (0, [.ref (ad 11)])), ((ad 11), .inl (cJ, 4, .inr (.inl (xs_rows F))))]) hx hb hts hiX2 tyX2 tyX2_ok nmX2 hown hK hP hD hS 0 rfl rfl 7 (by decide) (hts (.fieldLink RX2 38 "PointerSweep$State" "sweeping" "Z") (by decide +kernel)) (fun _ h9 => h9) rfl (by decide +kernel) rfl rfl (Nat.le_of_ble_eq_true rfl) dX2_beginSweep_2 rfl (fun H locs hP hD hS => ?_)
  refine lv_aload_n hx hb dX2_beginSweep_5 rfl (lv_at hl 0 rfl) ?_
  refine va_get (D := D) (ci := 2) (v := .ref (ad 8)) (C := RX2) (T := TX2) (N := 10) hx hb hts hiX2 hown hK hP 0 rfl rfl 5 (by decide) (hts (.fieldLink RX2 32 "PointerSweep$State" "doomed" "LPointerSweep$CellMap;") (by decide +kernel)) (fun _ h9 => h9) rfl dX2_beginSweep_6 ?_
  refine lv_aload_n hx hb dX2_beginSweep_9 rfl (lv_at hl 0 rfl) ?_
  refine va_get (D := D) (ci := 2) (v := .ref (ad 6)) (C := RX2) (T := TX2) (N := 10) hx hb hts hiX2 hown hK hP 0 rfl rfl 4 (by decide) (hts (.fieldLink RX2 29 "PointerSweep$State" "quarantined" "LPointerSweep$CellMap;") (by decide +kernel)) (fun _ h9 => h9) rfl dX2_beginSweep_10 ?_
  refine xk_callW (ws' := [((ad 0), .inr (2, [.ref (ad 1), .ref (ad 2), .ref (ad 3), .ref (ad 4), .ref (ad 6), .ref (ad 8), .ref (ad 10), .int 1, .int (nI seen), .int (xd dy)])), ((ad 1), .inl (cJ, 256, .inr (.inl (xw_arr mem)))), ((ad 2), .inl (cJ, 8, .inr (.inl (xw_arr reg)))), ((ad 3), .inl (cI, 7, .inl tal)), ((ad 4), .inr (0, [.ref (ad 5)])), ((ad 5), .inl (cJ, 4, .inr (.inl (xs_rows G)))), ((ad 6), .inr (0, [.ref (ad 7)])), ((ad 7), .inl (cJ, 4, .inr (.inl (xs_rows Q)))), ((ad 8), .inr (0, [.ref (ad 9)])), ((ad 9), .inl (cJ, 4, .inr (.inl (xs_rows Q)))), ((ad 10), .inr (0, [.ref (ad 11)])), ((ad 11), .inl (cJ, 4, .inr (.inl (xs_rows F))))]) (va_runV (As := [.ref (ad 6)]) (rest := []) ⟨hx, hb, hml, hown, hts⟩ (k_become0 l D cI cJ cS (ad 8) (ad 9) (ad 6) (ad 7) X Q) (cwV 1 hts gX2_beginSweep_X0_become rfl rfl rfl (by decide +kernel) ⟨Nat.le_of_ble_eq_true rfl, Nat.le_of_ble_eq_true rfl⟩) (xk_preVw hK hN hP hD [8, 9, 6, 7] rfl rfl (ci := 0) rfl 0 rfl) rfl rfl hl.1 rfl (lv_room (Nat.le_of_ble_eq_true rfl)) dX2_beginSweep_13 ⟨Nat.zero_le _, Nat.zero_le _⟩) hP hD hS [8, 9, 6, 7] rfl rfl rfl (fun H locs hP hD hS => ?_)
  refine lv_aload_n hx hb dX2_beginSweep_16 rfl (lv_at hl 0 rfl) ?_
  refine va_get (D := D) (ci := 2) (v := .ref (ad 8)) (C := RX2) (T := TX2) (N := 10) hx hb hts hiX2 hown hK hP 0 rfl rfl 5 (by decide) (hts (.fieldLink RX2 32 "PointerSweep$State" "doomed" "LPointerSweep$CellMap;") (by decide +kernel)) (fun _ h9 => h9) rfl dX2_beginSweep_17 ?_
  refine xk_callR (va_runV (As := []) (rest := []) ⟨hx, hb, hml, hown, hts⟩ (k_size l D cI cJ cS (ad 8) (ad 9) Q) (cwV 0 hts gX2_beginSweep_X0_size rfl rfl rfl (by decide +kernel) ⟨Nat.le_of_ble_eq_true rfl, Nat.le_of_ble_eq_true rfl⟩) (xk_preVr hK hN hP [8, 9] rfl (ci := 0) rfl 0 rfl) rfl rfl hl.1 rfl (lv_room (Nat.le_of_ble_eq_true rfl)) dX2_beginSweep_20 ⟨Nat.zero_le _, Nat.zero_le _⟩) ?_
  exact xk_iretW hx hb hr hlk hP hS rfl rfl dX2_beginSweep_23
set_option maxHeartbeats 4000000 in
set_option maxRecDepth 100000 in
theorem k_become (l : Launch) (D : va_G) (cI cJ cS : ClassId) (ad : Nat → Nat) (mem reg : Nat → xw) (tal : Nat → Int32) (G Q X F : Nat → Bool) (on : Bool) (seen : Nat) (dy : Nat → Bool) (bd : Nat → Nat) (mem2 reg2 : Nat → xw) (tal2 : Nat → Int32) (G2 Q2 X2 F2 : Nat → Bool) (on2 : Bool) (seen2 : Nat) (dy2 : Nat → Bool) : xk_Wr l yX2_become wsX2_become ({ frames := 2, cells := 0, slots := 0, locals := 81 }) D vwCl (xt cI cJ cS) ([((ad 0), .inr (2, [.ref (ad 1), .ref (ad 2), .ref (ad 3), .ref (ad 4), .ref (ad 6), .ref (ad 8), .ref (ad 10), .int (xb on), .int (nI seen), .int (xd dy)])), ((ad 1), .inl (cJ, 256, .inr (.inl (xw_arr mem)))), ((ad 2), .inl (cJ, 8, .inr (.inl (xw_arr reg)))), ((ad 3), .inl (cI, 7, .inl tal)), ((ad 4), .inr (0, [.ref (ad 5)])), ((ad 5), .inl (cJ, 4, .inr (.inl (xs_rows G)))), ((ad 6), .inr (0, [.ref (ad 7)])), ((ad 7), .inl (cJ, 4, .inr (.inl (xs_rows Q)))), ((ad 8), .inr (0, [.ref (ad 9)])), ((ad 9), .inl (cJ, 4, .inr (.inl (xs_rows X)))), ((ad 10), .inr (0, [.ref (ad 11)])), ((ad 11), .inl (cJ, 4, .inr (.inl (xs_rows F)))), ((bd 0), .inr (2, [.ref (bd 1), .ref (bd 2), .ref (bd 3), .ref (bd 4), .ref (bd 6), .ref (bd 8), .ref (bd 10), .int (xb on2), .int (nI seen2), .int (xd dy2)])), ((bd 1), .inl (cJ, 256, .inr (.inl (xw_arr mem2)))), ((bd 2), .inl (cJ, 8, .inr (.inl (xw_arr reg2)))), ((bd 3), .inl (cI, 7, .inl tal2)), ((bd 4), .inr (0, [.ref (bd 5)])), ((bd 5), .inl (cJ, 4, .inr (.inl (xs_rows G2)))), ((bd 6), .inr (0, [.ref (bd 7)])), ((bd 7), .inl (cJ, 4, .inr (.inl (xs_rows Q2)))), ((bd 8), .inr (0, [.ref (bd 9)])), ((bd 9), .inl (cJ, 4, .inr (.inl (xs_rows X2)))), ((bd 10), .inr (0, [.ref (bd 11)])), ((bd 11), .inl (cJ, 4, .inr (.inl (xs_rows F2))))]) [.ref (ad 0), .ref (bd 0)] ([((ad 0), .inr (2, [.ref (ad 1), .ref (ad 2), .ref (ad 3), .ref (ad 4), .ref (ad 6), .ref (ad 8), .ref (ad 10), .int (xb on2), .int (nI seen2), .int (xd dy2)])), ((ad 1), .inl (cJ, 256, .inr (.inl (xw_arr mem2)))), ((ad 2), .inl (cJ, 8, .inr (.inl (xw_arr reg2)))), ((ad 3), .inl (cI, 7, .inl tal2)), ((ad 4), .inr (0, [.ref (ad 5)])), ((ad 5), .inl (cJ, 4, .inr (.inl (xs_rows G2)))), ((ad 6), .inr (0, [.ref (ad 7)])), ((ad 7), .inl (cJ, 4, .inr (.inl (xs_rows Q2)))), ((ad 8), .inr (0, [.ref (ad 9)])), ((ad 9), .inl (cJ, 4, .inr (.inl (xs_rows X2)))), ((ad 10), .inr (0, [.ref (ad 11)])), ((ad 11), .inl (cJ, 4, .inr (.inl (xs_rows F2)))), ((bd 0), .inr (2, [.ref (bd 1), .ref (bd 2), .ref (bd 3), .ref (bd 4), .ref (bd 6), .ref (bd 8), .ref (bd 10), .int (xb on2), .int (nI seen2), .int (xd dy2)])), ((bd 1), .inl (cJ, 256, .inr (.inl (xw_arr mem2)))), ((bd 2), .inl (cJ, 8, .inr (.inl (xw_arr reg2)))), ((bd 3), .inl (cI, 7, .inl tal2)), ((bd 4), .inr (0, [.ref (bd 5)])), ((bd 5), .inl (cJ, 4, .inr (.inl (xs_rows G2)))), ((bd 6), .inr (0, [.ref (bd 7)])), ((bd 7), .inl (cJ, 4, .inr (.inl (xs_rows Q2)))), ((bd 8), .inr (0, [.ref (bd 9)])), ((bd 9), .inl (cJ, 4, .inr (.inl (xs_rows X2)))), ((bd 10), .inr (0, [.ref (bd 11)])), ((bd 11), .inl (cJ, 4, .inr (.inl (xs_rows F2))))]) none := by
  refine xk_wr (cc := cX2_become) (maxL := 2) (ret := none) (by decide) rfl (Nat.le_of_ble_eq_true rfl) (fun p e s m below meth c ls hx hb hr hlk hml hown hts hl hP hK hN hD hS => ?_)
  replace hl : lv_has ls 2 [(0, .ref (ad 0)), (1, .ref (bd 0))] := hl
  have hiX2 : ∀ w ∈ u_ws RX2 TX2 10, w ∈ wsX2_become := by decide +kernel
  refine lv_aload_n hx hb dX2_become_0 rfl (lv_at hl 1 rfl) ?_
  refine va_get (D := D) (ci := 2) (v := .ref (bd 1)) (C := RX2) (T := TX2) (N := 10) hx hb hts hiX2 hown hK hP 12 rfl rfl 0 (by decide) (hts (.fieldLink RX2 9 "PointerSweep$State" "cells" "[J") (by decide +kernel)) (fun _ h9 => h9) rfl dX2_become_1 ?_
  refine lv_iconst (v := 0) hx hb dX2_become_4 (by decide) ?_
  refine lv_aload_n hx hb dX2_become_5 rfl (lv_at hl 0 rfl) ?_
  refine va_get (D := D) (ci := 2) (v := .ref (ad 1)) (C := RX2) (T := TX2) (N := 10) hx hb hts hiX2 hown hK hP 0 rfl rfl 0 (by decide) (hts (.fieldLink RX2 9 "PointerSweep$State" "cells" "[J") (by decide +kernel)) (fun _ h9 => h9) rfl dX2_become_6 ?_
  refine lv_iconst (v := 0) hx hb dX2_become_9 (by decide) ?_
  refine lv_sipush (v := 256) hx hb dX2_become_10 (by decide) ?_
  refine va_copyl hx hb (hml.trans hl.1.symm) hown (hts (.methodLink RX2 49 arraycopyName) (by decide +kernel)) (hts (.native arraycopyName) (by decide +kernel)) (hts (.static arraycopyName) (by decide +kernel)) (hts (.initialized "java/lang/System") (by decide +kernel)) hK hP hD hS 13 1 1 1 rfl rfl rfl rfl rfl (by decide) (by decide) (by decide) (by decide) (by decide) (fun _ _ => rfl) (Nat.le_of_ble_eq_true rfl) (Nat.le_of_ble_eq_true rfl) dX2_become_13 (fun H locs hP hD hS => ?_)
  replace hP : va_P D vwCl ([((ad 0), .inr (2, [.ref (ad 1), .ref (ad 2), .ref (ad 3), .ref (ad 4), .ref (ad 6), .ref (ad 8), .ref (ad 10), .int (xb on), .int (nI seen), .int (xd dy)])), ((ad 1), .inl (cJ, 256, .inr (.inl (xw_arr mem2)))), ((ad 2), .inl (cJ, 8, .inr (.inl (xw_arr reg)))), ((ad 3), .inl (cI, 7, .inl tal)), ((ad 4), .inr (0, [.ref (ad 5)])), ((ad 5), .inl (cJ, 4, .inr (.inl (xs_rows G)))), ((ad 6), .inr (0, [.ref (ad 7)])), ((ad 7), .inl (cJ, 4, .inr (.inl (xs_rows Q)))), ((ad 8), .inr (0, [.ref (ad 9)])), ((ad 9), .inl (cJ, 4, .inr (.inl (xs_rows X)))), ((ad 10), .inr (0, [.ref (ad 11)])), ((ad 11), .inl (cJ, 4, .inr (.inl (xs_rows F)))), ((bd 0), .inr (2, [.ref (bd 1), .ref (bd 2), .ref (bd 3), .ref (bd 4), .ref (bd 6), .ref (bd 8), .ref (bd 10), .int (xb on2), .int (nI seen2), .int (xd dy2)])), ((bd 1), .inl (cJ, 256, .inr (.inl (xw_arr mem2)))), ((bd 2), .inl (cJ, 8, .inr (.inl (xw_arr reg2)))), ((bd 3), .inl (cI, 7, .inl tal2)), ((bd 4), .inr (0, [.ref (bd 5)])), ((bd 5), .inl (cJ, 4, .inr (.inl (xs_rows G2)))), ((bd 6), .inr (0, [.ref (bd 7)])), ((bd 7), .inl (cJ, 4, .inr (.inl (xs_rows Q2)))), ((bd 8), .inr (0, [.ref (bd 9)])), ((bd 9), .inl (cJ, 4, .inr (.inl (xs_rows X2)))), ((bd 10), .inr (0, [.ref (bd 11)])), ((bd 11), .inl (cJ, 4, .inr (.inl (xs_rows F2))))]) H := xk_Pset (e := .inl (cJ, 256, .inr (.inl (xw_arr mem2)))) hP 1 rfl (xk_atL (x_cpy (by decide)))
  replace hD : va_D _ ([((ad 0), .inr (2, [.ref (ad 1), .ref (ad 2), .ref (ad 3), .ref (ad 4), .ref (ad 6), .ref (ad 8), .ref (ad 10), .int (xb on), .int (nI seen), .int (xd dy)])), ((ad 1), .inl (cJ, 256, .inr (.inl (xw_arr mem2)))), ((ad 2), .inl (cJ, 8, .inr (.inl (xw_arr reg)))), ((ad 3), .inl (cI, 7, .inl tal)), ((ad 4), .inr (0, [.ref (ad 5)])), ((ad 5), .inl (cJ, 4, .inr (.inl (xs_rows G)))), ((ad 6), .inr (0, [.ref (ad 7)])), ((ad 7), .inl (cJ, 4, .inr (.inl (xs_rows Q)))), ((ad 8), .inr (0, [.ref (ad 9)])), ((ad 9), .inl (cJ, 4, .inr (.inl (xs_rows X)))), ((ad 10), .inr (0, [.ref (ad 11)])), ((ad 11), .inl (cJ, 4, .inr (.inl (xs_rows F)))), ((bd 0), .inr (2, [.ref (bd 1), .ref (bd 2), .ref (bd 3), .ref (bd 4), .ref (bd 6), .ref (bd 8), .ref (bd 10), .int (xb on2), .int (nI seen2), .int (xd dy2)])), ((bd 1), .inl (cJ, 256, .inr (.inl (xw_arr mem2)))), ((bd 2), .inl (cJ, 8, .inr (.inl (xw_arr reg2)))), ((bd 3), .inl (cI, 7, .inl tal2)), ((bd 4), .inr (0, [.ref (bd 5)])), ((bd 5), .inl (cJ, 4, .inr (.inl (xs_rows G2)))), ((bd 6), .inr (0, [.ref (bd 7)])), ((bd 7), .inl (cJ, 4, .inr (.inl (xs_rows Q2)))), ((bd 8), .inr (0, [.ref (bd 9)])), ((bd 9), .inl (cJ, 4, .inr (.inl (xs_rows X2)))), ((bd 10), .inr (0, [.ref (bd 11)])), ((bd 11), .inl (cJ, 4, .inr (.inl (xs_rows F2))))]) := xk_Df hD rfl
  refine lv_aload_n hx hb dX2_become_16 rfl (lv_at hl 1 rfl) ?_
  refine va_get (D := D) (ci := 2) (v := .ref (bd 2)) (C := RX2) (T := TX2) (N := 10) hx hb hts hiX2 hown hK hP 12 rfl rfl 1 (by decide) (hts (.fieldLink RX2 15 "PointerSweep$State" "registers" "[J") (by decide +kernel)) (fun _ h9 => h9) rfl dX2_become_17 ?_
  refine lv_iconst (v := 0) hx hb dX2_become_20 (by decide) ?_
  refine lv_aload_n hx hb dX2_become_21 rfl (lv_at hl 0 rfl) ?_
  refine va_get (D := D) (ci := 2) (v := .ref (ad 2)) (C := RX2) (T := TX2) (N := 10) hx hb hts hiX2 hown hK hP 0 rfl rfl 1 (by decide) (hts (.fieldLink RX2 15 "PointerSweep$State" "registers" "[J") (by decide +kernel)) (fun _ h9 => h9) rfl dX2_become_22 ?_
  refine lv_iconst (v := 0) hx hb dX2_become_25 (by decide) ?_
  refine lv_bipush (v := 8) hx hb dX2_become_26 (by decide) ?_
  refine va_copyl hx hb (hml.trans hl.1.symm) hown (hts (.methodLink RX2 49 arraycopyName) (by decide +kernel)) (hts (.native arraycopyName) (by decide +kernel)) (hts (.static arraycopyName) (by decide +kernel)) (hts (.initialized "java/lang/System") (by decide +kernel)) hK hP hD hS 14 2 1 1 rfl rfl rfl rfl rfl (by decide) (by decide) (by decide) (by decide) (by decide) (fun _ _ => rfl) (Nat.le_of_ble_eq_true rfl) (Nat.le_of_ble_eq_true rfl) dX2_become_28 (fun H locs hP hD hS => ?_)
  replace hP : va_P D vwCl ([((ad 0), .inr (2, [.ref (ad 1), .ref (ad 2), .ref (ad 3), .ref (ad 4), .ref (ad 6), .ref (ad 8), .ref (ad 10), .int (xb on), .int (nI seen), .int (xd dy)])), ((ad 1), .inl (cJ, 256, .inr (.inl (xw_arr mem2)))), ((ad 2), .inl (cJ, 8, .inr (.inl (xw_arr reg2)))), ((ad 3), .inl (cI, 7, .inl tal)), ((ad 4), .inr (0, [.ref (ad 5)])), ((ad 5), .inl (cJ, 4, .inr (.inl (xs_rows G)))), ((ad 6), .inr (0, [.ref (ad 7)])), ((ad 7), .inl (cJ, 4, .inr (.inl (xs_rows Q)))), ((ad 8), .inr (0, [.ref (ad 9)])), ((ad 9), .inl (cJ, 4, .inr (.inl (xs_rows X)))), ((ad 10), .inr (0, [.ref (ad 11)])), ((ad 11), .inl (cJ, 4, .inr (.inl (xs_rows F)))), ((bd 0), .inr (2, [.ref (bd 1), .ref (bd 2), .ref (bd 3), .ref (bd 4), .ref (bd 6), .ref (bd 8), .ref (bd 10), .int (xb on2), .int (nI seen2), .int (xd dy2)])), ((bd 1), .inl (cJ, 256, .inr (.inl (xw_arr mem2)))), ((bd 2), .inl (cJ, 8, .inr (.inl (xw_arr reg2)))), ((bd 3), .inl (cI, 7, .inl tal2)), ((bd 4), .inr (0, [.ref (bd 5)])), ((bd 5), .inl (cJ, 4, .inr (.inl (xs_rows G2)))), ((bd 6), .inr (0, [.ref (bd 7)])), ((bd 7), .inl (cJ, 4, .inr (.inl (xs_rows Q2)))), ((bd 8), .inr (0, [.ref (bd 9)])), ((bd 9), .inl (cJ, 4, .inr (.inl (xs_rows X2)))), ((bd 10), .inr (0, [.ref (bd 11)])), ((bd 11), .inl (cJ, 4, .inr (.inl (xs_rows F2))))]) H := xk_Pset (e := .inl (cJ, 8, .inr (.inl (xw_arr reg2)))) hP 2 rfl (xk_atL (x_cpy (by decide)))
  replace hD : va_D _ ([((ad 0), .inr (2, [.ref (ad 1), .ref (ad 2), .ref (ad 3), .ref (ad 4), .ref (ad 6), .ref (ad 8), .ref (ad 10), .int (xb on), .int (nI seen), .int (xd dy)])), ((ad 1), .inl (cJ, 256, .inr (.inl (xw_arr mem2)))), ((ad 2), .inl (cJ, 8, .inr (.inl (xw_arr reg2)))), ((ad 3), .inl (cI, 7, .inl tal)), ((ad 4), .inr (0, [.ref (ad 5)])), ((ad 5), .inl (cJ, 4, .inr (.inl (xs_rows G)))), ((ad 6), .inr (0, [.ref (ad 7)])), ((ad 7), .inl (cJ, 4, .inr (.inl (xs_rows Q)))), ((ad 8), .inr (0, [.ref (ad 9)])), ((ad 9), .inl (cJ, 4, .inr (.inl (xs_rows X)))), ((ad 10), .inr (0, [.ref (ad 11)])), ((ad 11), .inl (cJ, 4, .inr (.inl (xs_rows F)))), ((bd 0), .inr (2, [.ref (bd 1), .ref (bd 2), .ref (bd 3), .ref (bd 4), .ref (bd 6), .ref (bd 8), .ref (bd 10), .int (xb on2), .int (nI seen2), .int (xd dy2)])), ((bd 1), .inl (cJ, 256, .inr (.inl (xw_arr mem2)))), ((bd 2), .inl (cJ, 8, .inr (.inl (xw_arr reg2)))), ((bd 3), .inl (cI, 7, .inl tal2)), ((bd 4), .inr (0, [.ref (bd 5)])), ((bd 5), .inl (cJ, 4, .inr (.inl (xs_rows G2)))), ((bd 6), .inr (0, [.ref (bd 7)])), ((bd 7), .inl (cJ, 4, .inr (.inl (xs_rows Q2)))), ((bd 8), .inr (0, [.ref (bd 9)])), ((bd 9), .inl (cJ, 4, .inr (.inl (xs_rows X2)))), ((bd 10), .inr (0, [.ref (bd 11)])), ((bd 11), .inl (cJ, 4, .inr (.inl (xs_rows F2))))]) := xk_Df hD rfl
  refine lv_aload_n hx hb dX2_become_31 rfl (lv_at hl 1 rfl) ?_
  refine va_get (D := D) (ci := 2) (v := .ref (bd 3)) (C := RX2) (T := TX2) (N := 10) hx hb hts hiX2 hown hK hP 12 rfl rfl 2 (by decide) (hts (.fieldLink RX2 18 "PointerSweep$State" "tallies" "[I") (by decide +kernel)) (fun _ h9 => h9) rfl dX2_become_32 ?_
  refine lv_iconst (v := 0) hx hb dX2_become_35 (by decide) ?_
  refine lv_aload_n hx hb dX2_become_36 rfl (lv_at hl 0 rfl) ?_
  refine va_get (D := D) (ci := 2) (v := .ref (ad 3)) (C := RX2) (T := TX2) (N := 10) hx hb hts hiX2 hown hK hP 0 rfl rfl 2 (by decide) (hts (.fieldLink RX2 18 "PointerSweep$State" "tallies" "[I") (by decide +kernel)) (fun _ h9 => h9) rfl dX2_become_37 ?_
  refine lv_iconst (v := 0) hx hb dX2_become_40 (by decide) ?_
  refine lv_bipush (v := 7) hx hb dX2_become_41 (by decide) ?_
  refine va_copyi hx hb (hml.trans hl.1.symm) hown (hts (.methodLink RX2 49 arraycopyName) (by decide +kernel)) (hts (.native arraycopyName) (by decide +kernel)) (hts (.static arraycopyName) (by decide +kernel)) (hts (.initialized "java/lang/System") (by decide +kernel)) hK hP hD hS 15 3 0 0 rfl rfl rfl rfl rfl (by decide) (by decide) (by decide) (by decide) (by decide) (fun _ _ => rfl) (Nat.le_of_ble_eq_true rfl) (Nat.le_of_ble_eq_true rfl) dX2_become_43 (fun H locs hP hD hS => ?_)
  replace hP : va_P D vwCl ([((ad 0), .inr (2, [.ref (ad 1), .ref (ad 2), .ref (ad 3), .ref (ad 4), .ref (ad 6), .ref (ad 8), .ref (ad 10), .int (xb on), .int (nI seen), .int (xd dy)])), ((ad 1), .inl (cJ, 256, .inr (.inl (xw_arr mem2)))), ((ad 2), .inl (cJ, 8, .inr (.inl (xw_arr reg2)))), ((ad 3), .inl (cI, 7, .inl tal2)), ((ad 4), .inr (0, [.ref (ad 5)])), ((ad 5), .inl (cJ, 4, .inr (.inl (xs_rows G)))), ((ad 6), .inr (0, [.ref (ad 7)])), ((ad 7), .inl (cJ, 4, .inr (.inl (xs_rows Q)))), ((ad 8), .inr (0, [.ref (ad 9)])), ((ad 9), .inl (cJ, 4, .inr (.inl (xs_rows X)))), ((ad 10), .inr (0, [.ref (ad 11)])), ((ad 11), .inl (cJ, 4, .inr (.inl (xs_rows F)))), ((bd 0), .inr (2, [.ref (bd 1), .ref (bd 2), .ref (bd 3), .ref (bd 4), .ref (bd 6), .ref (bd 8), .ref (bd 10), .int (xb on2), .int (nI seen2), .int (xd dy2)])), ((bd 1), .inl (cJ, 256, .inr (.inl (xw_arr mem2)))), ((bd 2), .inl (cJ, 8, .inr (.inl (xw_arr reg2)))), ((bd 3), .inl (cI, 7, .inl tal2)), ((bd 4), .inr (0, [.ref (bd 5)])), ((bd 5), .inl (cJ, 4, .inr (.inl (xs_rows G2)))), ((bd 6), .inr (0, [.ref (bd 7)])), ((bd 7), .inl (cJ, 4, .inr (.inl (xs_rows Q2)))), ((bd 8), .inr (0, [.ref (bd 9)])), ((bd 9), .inl (cJ, 4, .inr (.inl (xs_rows X2)))), ((bd 10), .inr (0, [.ref (bd 11)])), ((bd 11), .inl (cJ, 4, .inr (.inl (xs_rows F2))))]) H := xk_Pset (e := .inl (cI, 7, .inl tal2)) hP 3 rfl (xk_atI (x_cpy (by decide)))
  replace hD : va_D _ ([((ad 0), .inr (2, [.ref (ad 1), .ref (ad 2), .ref (ad 3), .ref (ad 4), .ref (ad 6), .ref (ad 8), .ref (ad 10), .int (xb on), .int (nI seen), .int (xd dy)])), ((ad 1), .inl (cJ, 256, .inr (.inl (xw_arr mem2)))), ((ad 2), .inl (cJ, 8, .inr (.inl (xw_arr reg2)))), ((ad 3), .inl (cI, 7, .inl tal2)), ((ad 4), .inr (0, [.ref (ad 5)])), ((ad 5), .inl (cJ, 4, .inr (.inl (xs_rows G)))), ((ad 6), .inr (0, [.ref (ad 7)])), ((ad 7), .inl (cJ, 4, .inr (.inl (xs_rows Q)))), ((ad 8), .inr (0, [.ref (ad 9)])), ((ad 9), .inl (cJ, 4, .inr (.inl (xs_rows X)))), ((ad 10), .inr (0, [.ref (ad 11)])), ((ad 11), .inl (cJ, 4, .inr (.inl (xs_rows F)))), ((bd 0), .inr (2, [.ref (bd 1), .ref (bd 2), .ref (bd 3), .ref (bd 4), .ref (bd 6), .ref (bd 8), .ref (bd 10), .int (xb on2), .int (nI seen2), .int (xd dy2)])), ((bd 1), .inl (cJ, 256, .inr (.inl (xw_arr mem2)))), ((bd 2), .inl (cJ, 8, .inr (.inl (xw_arr reg2)))), ((bd 3), .inl (cI, 7, .inl tal2)), ((bd 4), .inr (0, [.ref (bd 5)])), ((bd 5), .inl (cJ, 4, .inr (.inl (xs_rows G2)))), ((bd 6), .inr (0, [.ref (bd 7)])), ((bd 7), .inl (cJ, 4, .inr (.inl (xs_rows Q2)))), ((bd 8), .inr (0, [.ref (bd 9)])), ((bd 9), .inl (cJ, 4, .inr (.inl (xs_rows X2)))), ((bd 10), .inr (0, [.ref (bd 11)])), ((bd 11), .inl (cJ, 4, .inr (.inl (xs_rows F2))))]) := xk_Df hD rfl
  refine lv_aload_n hx hb dX2_become_46 rfl (lv_at hl 0 rfl) ?_
  refine va_get (D := D) (ci := 2) (v := .ref (ad 4)) (C := RX2) (T := TX2) (N := 10) hx hb hts hiX2 hown hK hP 0 rfl rfl 3 (by decide) (hts (.fieldLink RX2 25 "PointerSweep$State" "given" "LPointerSweep$CellMap;") (by decide +kernel)) (fun _ h9 => h9) rfl dX2_become_47 ?_
  refine lv_aload_n hx hb dX2_become_50 rfl (lv_at hl 1 rfl) ?_
  refine va_get (D := D) (ci := 2) (v := .ref (bd 4)) (C := RX2) (T := TX2) (N := 10) hx hb hts hiX2 hown hK hP 12 rfl rfl 3 (by decide) (hts (.fieldLink RX2 25 "PointerSweep$State" "given" "LPointerSweep$CellMap;") (by decide +kernel)) (fun _ h9 => h9) rfl dX2_become_51 ?_
  refine xk_callW (ws' := [((ad 0), .inr (2, [.ref (ad 1), .ref (ad 2), .ref (ad 3), .ref (ad 4), .ref (ad 6), .ref (ad 8), .ref (ad 10), .int (xb on), .int (nI seen), .int (xd dy)])), ((ad 1), .inl (cJ, 256, .inr (.inl (xw_arr mem2)))), ((ad 2), .inl (cJ, 8, .inr (.inl (xw_arr reg2)))), ((ad 3), .inl (cI, 7, .inl tal2)), ((ad 4), .inr (0, [.ref (ad 5)])), ((ad 5), .inl (cJ, 4, .inr (.inl (xs_rows G2)))), ((ad 6), .inr (0, [.ref (ad 7)])), ((ad 7), .inl (cJ, 4, .inr (.inl (xs_rows Q)))), ((ad 8), .inr (0, [.ref (ad 9)])), ((ad 9), .inl (cJ, 4, .inr (.inl (xs_rows X)))), ((ad 10), .inr (0, [.ref (ad 11)])), ((ad 11), .inl (cJ, 4, .inr (.inl (xs_rows F)))), ((bd 0), .inr (2, [.ref (bd 1), .ref (bd 2), .ref (bd 3), .ref (bd 4), .ref (bd 6), .ref (bd 8), .ref (bd 10), .int (xb on2), .int (nI seen2), .int (xd dy2)])), ((bd 1), .inl (cJ, 256, .inr (.inl (xw_arr mem2)))), ((bd 2), .inl (cJ, 8, .inr (.inl (xw_arr reg2)))), ((bd 3), .inl (cI, 7, .inl tal2)), ((bd 4), .inr (0, [.ref (bd 5)])), ((bd 5), .inl (cJ, 4, .inr (.inl (xs_rows G2)))), ((bd 6), .inr (0, [.ref (bd 7)])), ((bd 7), .inl (cJ, 4, .inr (.inl (xs_rows Q2)))), ((bd 8), .inr (0, [.ref (bd 9)])), ((bd 9), .inl (cJ, 4, .inr (.inl (xs_rows X2)))), ((bd 10), .inr (0, [.ref (bd 11)])), ((bd 11), .inl (cJ, 4, .inr (.inl (xs_rows F2))))]) (va_runV (As := [.ref (bd 4)]) (rest := []) ⟨hx, hb, hml, hown, hts⟩ (k_become0 l D cI cJ cS (ad 4) (ad 5) (bd 4) (bd 5) G G2) (cwV 1 hts gX2_become_X0_become rfl rfl rfl (by decide +kernel) ⟨Nat.le_of_ble_eq_true rfl, Nat.le_of_ble_eq_true rfl⟩) (xk_preVw hK hN hP hD [4, 5, 16, 17] rfl rfl (ci := 0) rfl 0 rfl) rfl rfl hl.1 rfl (lv_room (Nat.le_of_ble_eq_true rfl)) dX2_become_54 ⟨Nat.zero_le _, Nat.zero_le _⟩) hP hD hS [4, 5, 16, 17] rfl rfl rfl (fun H locs hP hD hS => ?_)
  refine lv_aload_n hx hb dX2_become_57 rfl (lv_at hl 0 rfl) ?_
  refine va_get (D := D) (ci := 2) (v := .ref (ad 6)) (C := RX2) (T := TX2) (N := 10) hx hb hts hiX2 hown hK hP 0 rfl rfl 4 (by decide) (hts (.fieldLink RX2 29 "PointerSweep$State" "quarantined" "LPointerSweep$CellMap;") (by decide +kernel)) (fun _ h9 => h9) rfl dX2_become_58 ?_
  refine lv_aload_n hx hb dX2_become_61 rfl (lv_at hl 1 rfl) ?_
  refine va_get (D := D) (ci := 2) (v := .ref (bd 6)) (C := RX2) (T := TX2) (N := 10) hx hb hts hiX2 hown hK hP 12 rfl rfl 4 (by decide) (hts (.fieldLink RX2 29 "PointerSweep$State" "quarantined" "LPointerSweep$CellMap;") (by decide +kernel)) (fun _ h9 => h9) rfl dX2_become_62 ?_
  refine xk_callW (ws' := [((ad 0), .inr (2, [.ref (ad 1), .ref (ad 2), .ref (ad 3), .ref (ad 4), .ref (ad 6), .ref (ad 8), .ref (ad 10), .int (xb on), .int (nI seen), .int (xd dy)])), ((ad 1), .inl (cJ, 256, .inr (.inl (xw_arr mem2)))), ((ad 2), .inl (cJ, 8, .inr (.inl (xw_arr reg2)))), ((ad 3), .inl (cI, 7, .inl tal2)), ((ad 4), .inr (0, [.ref (ad 5)])), ((ad 5), .inl (cJ, 4, .inr (.inl (xs_rows G2)))), ((ad 6), .inr (0, [.ref (ad 7)])), ((ad 7), .inl (cJ, 4, .inr (.inl (xs_rows Q2)))), ((ad 8), .inr (0, [.ref (ad 9)])), ((ad 9), .inl (cJ, 4, .inr (.inl (xs_rows X)))), ((ad 10), .inr (0, [.ref (ad 11)])), ((ad 11), .inl (cJ, 4, .inr (.inl (xs_rows F)))), ((bd 0), .inr (2, [.ref (bd 1), .ref (bd 2), .ref (bd 3), .ref (bd 4), .ref (bd 6), .ref (bd 8), .ref (bd 10), .int (xb on2), .int (nI seen2), .int (xd dy2)])), ((bd 1), .inl (cJ, 256, .inr (.inl (xw_arr mem2)))), ((bd 2), .inl (cJ, 8, .inr (.inl (xw_arr reg2)))), ((bd 3), .inl (cI, 7, .inl tal2)), ((bd 4), .inr (0, [.ref (bd 5)])), ((bd 5), .inl (cJ, 4, .inr (.inl (xs_rows G2)))), ((bd 6), .inr (0, [.ref (bd 7)])), ((bd 7), .inl (cJ, 4, .inr (.inl (xs_rows Q2)))), ((bd 8), .inr (0, [.ref (bd 9)])), ((bd 9), .inl (cJ, 4, .inr (.inl (xs_rows X2)))), ((bd 10), .inr (0, [.ref (bd 11)])), ((bd 11), .inl (cJ, 4, .inr (.inl (xs_rows F2))))]) (va_runV (As := [.ref (bd 6)]) (rest := []) ⟨hx, hb, hml, hown, hts⟩ (k_become0 l D cI cJ cS (ad 6) (ad 7) (bd 6) (bd 7) Q Q2) (cwV 1 hts gX2_become_X0_become rfl rfl rfl (by decide +kernel) ⟨Nat.le_of_ble_eq_true rfl, Nat.le_of_ble_eq_true rfl⟩) (xk_preVw hK hN hP hD [6, 7, 18, 19] rfl rfl (ci := 0) rfl 0 rfl) rfl rfl hl.1 rfl (lv_room (Nat.le_of_ble_eq_true rfl)) dX2_become_65 ⟨Nat.zero_le _, Nat.zero_le _⟩) hP hD hS [6, 7, 18, 19] rfl rfl rfl (fun H locs hP hD hS => ?_)
  refine lv_aload_n hx hb dX2_become_68 rfl (lv_at hl 0 rfl) ?_
  refine va_get (D := D) (ci := 2) (v := .ref (ad 8)) (C := RX2) (T := TX2) (N := 10) hx hb hts hiX2 hown hK hP 0 rfl rfl 5 (by decide) (hts (.fieldLink RX2 32 "PointerSweep$State" "doomed" "LPointerSweep$CellMap;") (by decide +kernel)) (fun _ h9 => h9) rfl dX2_become_69 ?_
  refine lv_aload_n hx hb dX2_become_72 rfl (lv_at hl 1 rfl) ?_
  refine va_get (D := D) (ci := 2) (v := .ref (bd 8)) (C := RX2) (T := TX2) (N := 10) hx hb hts hiX2 hown hK hP 12 rfl rfl 5 (by decide) (hts (.fieldLink RX2 32 "PointerSweep$State" "doomed" "LPointerSweep$CellMap;") (by decide +kernel)) (fun _ h9 => h9) rfl dX2_become_73 ?_
  refine xk_callW (ws' := [((ad 0), .inr (2, [.ref (ad 1), .ref (ad 2), .ref (ad 3), .ref (ad 4), .ref (ad 6), .ref (ad 8), .ref (ad 10), .int (xb on), .int (nI seen), .int (xd dy)])), ((ad 1), .inl (cJ, 256, .inr (.inl (xw_arr mem2)))), ((ad 2), .inl (cJ, 8, .inr (.inl (xw_arr reg2)))), ((ad 3), .inl (cI, 7, .inl tal2)), ((ad 4), .inr (0, [.ref (ad 5)])), ((ad 5), .inl (cJ, 4, .inr (.inl (xs_rows G2)))), ((ad 6), .inr (0, [.ref (ad 7)])), ((ad 7), .inl (cJ, 4, .inr (.inl (xs_rows Q2)))), ((ad 8), .inr (0, [.ref (ad 9)])), ((ad 9), .inl (cJ, 4, .inr (.inl (xs_rows X2)))), ((ad 10), .inr (0, [.ref (ad 11)])), ((ad 11), .inl (cJ, 4, .inr (.inl (xs_rows F)))), ((bd 0), .inr (2, [.ref (bd 1), .ref (bd 2), .ref (bd 3), .ref (bd 4), .ref (bd 6), .ref (bd 8), .ref (bd 10), .int (xb on2), .int (nI seen2), .int (xd dy2)])), ((bd 1), .inl (cJ, 256, .inr (.inl (xw_arr mem2)))), ((bd 2), .inl (cJ, 8, .inr (.inl (xw_arr reg2)))), ((bd 3), .inl (cI, 7, .inl tal2)), ((bd 4), .inr (0, [.ref (bd 5)])), ((bd 5), .inl (cJ, 4, .inr (.inl (xs_rows G2)))), ((bd 6), .inr (0, [.ref (bd 7)])), ((bd 7), .inl (cJ, 4, .inr (.inl (xs_rows Q2)))), ((bd 8), .inr (0, [.ref (bd 9)])), ((bd 9), .inl (cJ, 4, .inr (.inl (xs_rows X2)))), ((bd 10), .inr (0, [.ref (bd 11)])), ((bd 11), .inl (cJ, 4, .inr (.inl (xs_rows F2))))]) (va_runV (As := [.ref (bd 8)]) (rest := []) ⟨hx, hb, hml, hown, hts⟩ (k_become0 l D cI cJ cS (ad 8) (ad 9) (bd 8) (bd 9) X X2) (cwV 1 hts gX2_become_X0_become rfl rfl rfl (by decide +kernel) ⟨Nat.le_of_ble_eq_true rfl, Nat.le_of_ble_eq_true rfl⟩) (xk_preVw hK hN hP hD [8, 9, 20, 21] rfl rfl (ci := 0) rfl 0 rfl) rfl rfl hl.1 rfl (lv_room (Nat.le_of_ble_eq_true rfl)) dX2_become_76 ⟨Nat.zero_le _, Nat.zero_le _⟩) hP hD hS [8, 9, 20, 21] rfl rfl rfl (fun H locs hP hD hS => ?_)
  refine lv_aload_n hx hb dX2_become_79 rfl (lv_at hl 0 rfl) ?_
  refine va_get (D := D) (ci := 2) (v := .ref (ad 10)) (C := RX2) (T := TX2) (N := 10) hx hb hts hiX2 hown hK hP 0 rfl rfl 6 (by decide) (hts (.fieldLink RX2 35 "PointerSweep$State" "firsts" "LPointerSweep$CellMap;") (by decide +kernel)) (fun _ h9 => h9) rfl dX2_become_80 ?_
  refine lv_aload_n hx hb dX2_become_83 rfl (lv_at hl 1 rfl) ?_
  refine va_get (D := D) (ci := 2) (v := .ref (bd 10)) (C := RX2) (T := TX2) (N := 10) hx hb hts hiX2 hown hK hP 12 rfl rfl 6 (by decide) (hts (.fieldLink RX2 35 "PointerSweep$State" "firsts" "LPointerSweep$CellMap;") (by decide +kernel)) (fun _ h9 => h9) rfl dX2_become_84 ?_
  refine xk_callW (ws' := [((ad 0), .inr (2, [.ref (ad 1), .ref (ad 2), .ref (ad 3), .ref (ad 4), .ref (ad 6), .ref (ad 8), .ref (ad 10), .int (xb on), .int (nI seen), .int (xd dy)])), ((ad 1), .inl (cJ, 256, .inr (.inl (xw_arr mem2)))), ((ad 2), .inl (cJ, 8, .inr (.inl (xw_arr reg2)))), ((ad 3), .inl (cI, 7, .inl tal2)), ((ad 4), .inr (0, [.ref (ad 5)])), ((ad 5), .inl (cJ, 4, .inr (.inl (xs_rows G2)))), ((ad 6), .inr (0, [.ref (ad 7)])), ((ad 7), .inl (cJ, 4, .inr (.inl (xs_rows Q2)))), ((ad 8), .inr (0, [.ref (ad 9)])), ((ad 9), .inl (cJ, 4, .inr (.inl (xs_rows X2)))), ((ad 10), .inr (0, [.ref (ad 11)])), ((ad 11), .inl (cJ, 4, .inr (.inl (xs_rows F2)))), ((bd 0), .inr (2, [.ref (bd 1), .ref (bd 2), .ref (bd 3), .ref (bd 4), .ref (bd 6), .ref (bd 8), .ref (bd 10), .int (xb on2), .int (nI seen2), .int (xd dy2)])), ((bd 1), .inl (cJ, 256, .inr (.inl (xw_arr mem2)))), ((bd 2), .inl (cJ, 8, .inr (.inl (xw_arr reg2)))), ((bd 3), .inl (cI, 7, .inl tal2)), ((bd 4), .inr (0, [.ref (bd 5)])), ((bd 5), .inl (cJ, 4, .inr (.inl (xs_rows G2)))), ((bd 6), .inr (0, [.ref (bd 7)])), ((bd 7), .inl (cJ, 4, .inr (.inl (xs_rows Q2)))), ((bd 8), .inr (0, [.ref (bd 9)])), ((bd 9), .inl (cJ, 4, .inr (.inl (xs_rows X2)))), ((bd 10), .inr (0, [.ref (bd 11)])), ((bd 11), .inl (cJ, 4, .inr (.inl (xs_rows F2))))]) (va_runV (As := [.ref (bd 10)]) (rest := []) ⟨hx, hb, hml, hown, hts⟩ (k_become0 l D cI cJ cS (ad 10) (ad 11) (bd 10) (bd 11) F F2) (cwV 1 hts gX2_become_X0_become rfl rfl rfl (by decide +kernel) ⟨Nat.le_of_ble_eq_true rfl, Nat.le_of_ble_eq_true rfl⟩) (xk_preVw hK hN hP hD [10, 11, 22, 23] rfl rfl (ci := 0) rfl 0 rfl) rfl rfl hl.1 rfl (lv_room (Nat.le_of_ble_eq_true rfl)) dX2_become_87 ⟨Nat.zero_le _, Nat.zero_le _⟩) hP hD hS [10, 11, 22, 23] rfl rfl rfl (fun H locs hP hD hS => ?_)
  refine lv_aload_n hx hb dX2_become_90 rfl (lv_at hl 0 rfl) ?_
  refine lv_aload_n hx hb dX2_become_91 rfl (lv_at hl 1 rfl) ?_
  refine va_get (D := D) (ci := 2) (v := .int (xb on2)) (C := RX2) (T := TX2) (N := 10) hx hb hts hiX2 hown hK hP 12 rfl rfl 7 (by decide) (hts (.fieldLink RX2 38 "PointerSweep$State" "sweeping" "Z") (by decide +kernel)) (fun _ h9 => h9) rfl dX2_become_92 ?_
  refine xa_put (ci := 2) (v := .int (xb on2)) (ty := .boolean) (C := RX2) (T := TX2) (N := 10) (ws' := [((ad 0), .inr (2, [.ref (ad 1), .ref (ad 2), .ref (ad 3), .ref (ad 4), .ref (ad 6), .ref (ad 8), .ref (ad 10), .int (xb on2), .int (nI seen), .int (xd dy)])), ((ad 1), .inl (cJ, 256, .inr (.inl (xw_arr mem2)))), ((ad 2), .inl (cJ, 8, .inr (.inl (xw_arr reg2)))), ((ad 3), .inl (cI, 7, .inl tal2)), ((ad 4), .inr (0, [.ref (ad 5)])), ((ad 5), .inl (cJ, 4, .inr (.inl (xs_rows G2)))), ((ad 6), .inr (0, [.ref (ad 7)])), ((ad 7), .inl (cJ, 4, .inr (.inl (xs_rows Q2)))), ((ad 8), .inr (0, [.ref (ad 9)])), ((ad 9), .inl (cJ, 4, .inr (.inl (xs_rows X2)))), ((ad 10), .inr (0, [.ref (ad 11)])), ((ad 11), .inl (cJ, 4, .inr (.inl (xs_rows F2)))), ((bd 0), .inr (2, [.ref (bd 1), .ref (bd 2), .ref (bd 3), .ref (bd 4), .ref (bd 6), .ref (bd 8), .ref (bd 10), .int (xb on2), .int (nI seen2), .int (xd dy2)])), ((bd 1), .inl (cJ, 256, .inr (.inl (xw_arr mem2)))), ((bd 2), .inl (cJ, 8, .inr (.inl (xw_arr reg2)))), ((bd 3), .inl (cI, 7, .inl tal2)), ((bd 4), .inr (0, [.ref (bd 5)])), ((bd 5), .inl (cJ, 4, .inr (.inl (xs_rows G2)))), ((bd 6), .inr (0, [.ref (bd 7)])), ((bd 7), .inl (cJ, 4, .inr (.inl (xs_rows Q2)))), ((bd 8), .inr (0, [.ref (bd 9)])), ((bd 9), .inl (cJ, 4, .inr (.inl (xs_rows X2)))), ((bd 10), .inr (0, [.ref (bd 11)])), ((bd 11), .inl (cJ, 4, .inr (.inl (xs_rows F2))))]) hx hb hts hiX2 tyX2 tyX2_ok nmX2 hown hK hP hD hS 0 rfl rfl 7 (by decide) (hts (.fieldLink RX2 38 "PointerSweep$State" "sweeping" "Z") (by decide +kernel)) (fun _ h9 => h9) rfl (by decide +kernel) (xb_nar _) (xb_fit _) (Nat.le_of_ble_eq_true rfl) dX2_become_95 rfl (fun H locs hP hD hS => ?_)
  refine lv_aload_n hx hb dX2_become_98 rfl (lv_at hl 0 rfl) ?_
  refine lv_aload_n hx hb dX2_become_99 rfl (lv_at hl 1 rfl) ?_
  refine va_get (D := D) (ci := 2) (v := .int (nI seen2)) (C := RX2) (T := TX2) (N := 10) hx hb hts hiX2 hown hK hP 12 rfl rfl 8 (by decide) (hts (.fieldLink RX2 42 "PointerSweep$State" "seenPages" "I") (by decide +kernel)) (fun _ h9 => h9) rfl dX2_become_100 ?_
  refine xa_put (ci := 2) (v := .int (nI seen2)) (ty := .int) (C := RX2) (T := TX2) (N := 10) (ws' := [((ad 0), .inr (2, [.ref (ad 1), .ref (ad 2), .ref (ad 3), .ref (ad 4), .ref (ad 6), .ref (ad 8), .ref (ad 10), .int (xb on2), .int (nI seen2), .int (xd dy)])), ((ad 1), .inl (cJ, 256, .inr (.inl (xw_arr mem2)))), ((ad 2), .inl (cJ, 8, .inr (.inl (xw_arr reg2)))), ((ad 3), .inl (cI, 7, .inl tal2)), ((ad 4), .inr (0, [.ref (ad 5)])), ((ad 5), .inl (cJ, 4, .inr (.inl (xs_rows G2)))), ((ad 6), .inr (0, [.ref (ad 7)])), ((ad 7), .inl (cJ, 4, .inr (.inl (xs_rows Q2)))), ((ad 8), .inr (0, [.ref (ad 9)])), ((ad 9), .inl (cJ, 4, .inr (.inl (xs_rows X2)))), ((ad 10), .inr (0, [.ref (ad 11)])), ((ad 11), .inl (cJ, 4, .inr (.inl (xs_rows F2)))), ((bd 0), .inr (2, [.ref (bd 1), .ref (bd 2), .ref (bd 3), .ref (bd 4), .ref (bd 6), .ref (bd 8), .ref (bd 10), .int (xb on2), .int (nI seen2), .int (xd dy2)])), ((bd 1), .inl (cJ, 256, .inr (.inl (xw_arr mem2)))), ((bd 2), .inl (cJ, 8, .inr (.inl (xw_arr reg2)))), ((bd 3), .inl (cI, 7, .inl tal2)), ((bd 4), .inr (0, [.ref (bd 5)])), ((bd 5), .inl (cJ, 4, .inr (.inl (xs_rows G2)))), ((bd 6), .inr (0, [.ref (bd 7)])), ((bd 7), .inl (cJ, 4, .inr (.inl (xs_rows Q2)))), ((bd 8), .inr (0, [.ref (bd 9)])), ((bd 9), .inl (cJ, 4, .inr (.inl (xs_rows X2)))), ((bd 10), .inr (0, [.ref (bd 11)])), ((bd 11), .inl (cJ, 4, .inr (.inl (xs_rows F2))))]) hx hb hts hiX2 tyX2 tyX2_ok nmX2 hown hK hP hD hS 0 rfl rfl 8 (by decide) (hts (.fieldLink RX2 42 "PointerSweep$State" "seenPages" "I") (by decide +kernel)) (fun _ h9 => h9) rfl (by decide +kernel) rfl rfl (Nat.le_of_ble_eq_true rfl) dX2_become_103 rfl (fun H locs hP hD hS => ?_)
  refine lv_aload_n hx hb dX2_become_106 rfl (lv_at hl 0 rfl) ?_
  refine lv_aload_n hx hb dX2_become_107 rfl (lv_at hl 1 rfl) ?_
  refine va_get (D := D) (ci := 2) (v := .int (xd dy2)) (C := RX2) (T := TX2) (N := 10) hx hb hts hiX2 hown hK hP 12 rfl rfl 9 (by decide) (hts (.fieldLink RX2 46 "PointerSweep$State" "dirtyPages" "I") (by decide +kernel)) (fun _ h9 => h9) rfl dX2_become_108 ?_
  refine xa_put (ci := 2) (v := .int (xd dy2)) (ty := .int) (C := RX2) (T := TX2) (N := 10) (ws' := [((ad 0), .inr (2, [.ref (ad 1), .ref (ad 2), .ref (ad 3), .ref (ad 4), .ref (ad 6), .ref (ad 8), .ref (ad 10), .int (xb on2), .int (nI seen2), .int (xd dy2)])), ((ad 1), .inl (cJ, 256, .inr (.inl (xw_arr mem2)))), ((ad 2), .inl (cJ, 8, .inr (.inl (xw_arr reg2)))), ((ad 3), .inl (cI, 7, .inl tal2)), ((ad 4), .inr (0, [.ref (ad 5)])), ((ad 5), .inl (cJ, 4, .inr (.inl (xs_rows G2)))), ((ad 6), .inr (0, [.ref (ad 7)])), ((ad 7), .inl (cJ, 4, .inr (.inl (xs_rows Q2)))), ((ad 8), .inr (0, [.ref (ad 9)])), ((ad 9), .inl (cJ, 4, .inr (.inl (xs_rows X2)))), ((ad 10), .inr (0, [.ref (ad 11)])), ((ad 11), .inl (cJ, 4, .inr (.inl (xs_rows F2)))), ((bd 0), .inr (2, [.ref (bd 1), .ref (bd 2), .ref (bd 3), .ref (bd 4), .ref (bd 6), .ref (bd 8), .ref (bd 10), .int (xb on2), .int (nI seen2), .int (xd dy2)])), ((bd 1), .inl (cJ, 256, .inr (.inl (xw_arr mem2)))), ((bd 2), .inl (cJ, 8, .inr (.inl (xw_arr reg2)))), ((bd 3), .inl (cI, 7, .inl tal2)), ((bd 4), .inr (0, [.ref (bd 5)])), ((bd 5), .inl (cJ, 4, .inr (.inl (xs_rows G2)))), ((bd 6), .inr (0, [.ref (bd 7)])), ((bd 7), .inl (cJ, 4, .inr (.inl (xs_rows Q2)))), ((bd 8), .inr (0, [.ref (bd 9)])), ((bd 9), .inl (cJ, 4, .inr (.inl (xs_rows X2)))), ((bd 10), .inr (0, [.ref (bd 11)])), ((bd 11), .inl (cJ, 4, .inr (.inl (xs_rows F2))))]) hx hb hts hiX2 tyX2 tyX2_ok nmX2 hown hK hP hD hS 0 rfl rfl 9 (by decide) (hts (.fieldLink RX2 46 "PointerSweep$State" "dirtyPages" "I") (by decide +kernel)) (fun _ h9 => h9) rfl (by decide +kernel) rfl rfl (Nat.le_of_ble_eq_true rfl) dX2_become_111 rfl (fun H locs hP hD hS => ?_)
  exact xk_vretW hx hb hr hlk hP hS rfl dX2_become_114
set_option maxHeartbeats 4000000 in
set_option maxRecDepth 100000 in
theorem k_giveOut (l : Launch) (D : va_G) (cI cJ cS : ClassId) (ad : Nat → Nat) (mem reg : Nat → xw) (tal : Nat → Int32) (G Q X F : Nat → Bool) (on : Bool) (seen : Nat) (dy : Nat → Bool) (a1 b1 : Nat) (hab : a1 ≤ b1) (hb1 : b1 ≤ 256) (ha1 : a1 < 256) : xk_Wr l yX2_giveOut wsX2_giveOut ({ frames := 2, cells := 0, slots := 0, locals := 41 }) D vwCl (xt cI cJ cS) ([((ad 0), .inr (2, [.ref (ad 1), .ref (ad 2), .ref (ad 3), .ref (ad 4), .ref (ad 6), .ref (ad 8), .ref (ad 10), .int (xb on), .int (nI seen), .int (xd dy)])), ((ad 1), .inl (cJ, 256, .inr (.inl (xw_arr mem)))), ((ad 2), .inl (cJ, 8, .inr (.inl (xw_arr reg)))), ((ad 3), .inl (cI, 7, .inl tal)), ((ad 4), .inr (0, [.ref (ad 5)])), ((ad 5), .inl (cJ, 4, .inr (.inl (xs_rows G)))), ((ad 6), .inr (0, [.ref (ad 7)])), ((ad 7), .inl (cJ, 4, .inr (.inl (xs_rows Q)))), ((ad 8), .inr (0, [.ref (ad 9)])), ((ad 9), .inl (cJ, 4, .inr (.inl (xs_rows X)))), ((ad 10), .inr (0, [.ref (ad 11)])), ((ad 11), .inl (cJ, 4, .inr (.inl (xs_rows F))))]) [.ref (ad 0), .int (nI a1), .int (nI b1)] ([((ad 0), .inr (2, [.ref (ad 1), .ref (ad 2), .ref (ad 3), .ref (ad 4), .ref (ad 6), .ref (ad 8), .ref (ad 10), .int (xb on), .int (nI seen), .int (xd dy)])), ((ad 1), .inl (cJ, 256, .inr (.inl (xw_arr (x_clr mem a1 b1))))), ((ad 2), .inl (cJ, 8, .inr (.inl (xw_arr reg)))), ((ad 3), .inl (cI, 7, .inl tal)), ((ad 4), .inr (0, [.ref (ad 5)])), ((ad 5), .inl (cJ, 4, .inr (.inl (xs_rows (x_add G a1 b1))))), ((ad 6), .inr (0, [.ref (ad 7)])), ((ad 7), .inl (cJ, 4, .inr (.inl (xs_rows Q)))), ((ad 8), .inr (0, [.ref (ad 9)])), ((ad 9), .inl (cJ, 4, .inr (.inl (xs_rows X)))), ((ad 10), .inr (0, [.ref (ad 11)])), ((ad 11), .inl (cJ, 4, .inr (.inl (xs_rows (va_up F a1 true)))))]) none := by
  refine xk_wr (cc := cX2_giveOut) (maxL := 4) (ret := none) (by decide) rfl (Nat.le_of_ble_eq_true rfl) (fun p e s m below meth c ls hx hb hr hlk hml hown hts hl hP hK hN hD hS => ?_)
  replace hl : lv_has ls 4 [(0, .ref (ad 0)), (1, .int (nI a1)), (2, .int (nI b1))] := hl
  have hiX2 : ∀ w ∈ u_ws RX2 TX2 10, w ∈ wsX2_giveOut := by decide +kernel
  have loop : ∀ (n i : Nat) (H : Heap) (locs : List Loc) (ls : Array Slot), a1 ≤ i → i + n = b1 → va_P D vwCl ([((ad 0), .inr (2, [.ref (ad 1), .ref (ad 2), .ref (ad 3), .ref (ad 4), .ref (ad 6), .ref (ad 8), .ref (ad 10), .int (xb on), .int (nI seen), .int (xd dy)])), ((ad 1), .inl (cJ, 256, .inr (.inl (xw_arr (x_clr mem a1 i))))), ((ad 2), .inl (cJ, 8, .inr (.inl (xw_arr reg)))), ((ad 3), .inl (cI, 7, .inl tal)), ((ad 4), .inr (0, [.ref (ad 5)])), ((ad 5), .inl (cJ, 4, .inr (.inl (xs_rows (x_add G a1 i))))), ((ad 6), .inr (0, [.ref (ad 7)])), ((ad 7), .inl (cJ, 4, .inr (.inl (xs_rows Q)))), ((ad 8), .inr (0, [.ref (ad 9)])), ((ad 9), .inl (cJ, 4, .inr (.inl (xs_rows X)))), ((ad 10), .inr (0, [.ref (ad 11)])), ((ad 11), .inl (cJ, 4, .inr (.inl (xs_rows (va_up F a1 true)))))]) H → va_D (xk_in ([((ad 0), .inr (2, [.ref (ad 1), .ref (ad 2), .ref (ad 3), .ref (ad 4), .ref (ad 6), .ref (ad 8), .ref (ad 10), .int (xb on), .int (nI seen), .int (xd dy)])), ((ad 1), .inl (cJ, 256, .inr (.inl (xw_arr mem)))), ((ad 2), .inl (cJ, 8, .inr (.inl (xw_arr reg)))), ((ad 3), .inl (cI, 7, .inl tal)), ((ad 4), .inr (0, [.ref (ad 5)])), ((ad 5), .inl (cJ, 4, .inr (.inl (xs_rows G)))), ((ad 6), .inr (0, [.ref (ad 7)])), ((ad 7), .inl (cJ, 4, .inr (.inl (xs_rows Q)))), ((ad 8), .inr (0, [.ref (ad 9)])), ((ad 9), .inl (cJ, 4, .inr (.inl (xs_rows X)))), ((ad 10), .inr (0, [.ref (ad 11)])), ((ad 11), .inl (cJ, 4, .inr (.inl (xs_rows F))))])) ([((ad 0), .inr (2, [.ref (ad 1), .ref (ad 2), .ref (ad 3), .ref (ad 4), .ref (ad 6), .ref (ad 8), .ref (ad 10), .int (xb on), .int (nI seen), .int (xd dy)])), ((ad 1), .inl (cJ, 256, .inr (.inl (xw_arr (x_clr mem a1 i))))), ((ad 2), .inl (cJ, 8, .inr (.inl (xw_arr reg)))), ((ad 3), .inl (cI, 7, .inl tal)), ((ad 4), .inr (0, [.ref (ad 5)])), ((ad 5), .inl (cJ, 4, .inr (.inl (xs_rows (x_add G a1 i))))), ((ad 6), .inr (0, [.ref (ad 7)])), ((ad 7), .inl (cJ, 4, .inr (.inl (xs_rows Q)))), ((ad 8), .inr (0, [.ref (ad 9)])), ((ad 9), .inl (cJ, 4, .inr (.inl (xs_rows X)))), ((ad 10), .inr (0, [.ref (ad 11)])), ((ad 11), .inl (cJ, 4, .inr (.inl (xs_rows (va_up F a1 true)))))]) → va_S (xk_in ([((ad 0), .inr (2, [.ref (ad 1), .ref (ad 2), .ref (ad 3), .ref (ad 4), .ref (ad 6), .ref (ad 8), .ref (ad 10), .int (xb on), .int (nI seen), .int (xd dy)])), ((ad 1), .inl (cJ, 256, .inr (.inl (xw_arr mem)))), ((ad 2), .inl (cJ, 8, .inr (.inl (xw_arr reg)))), ((ad 3), .inl (cI, 7, .inl tal)), ((ad 4), .inr (0, [.ref (ad 5)])), ((ad 5), .inl (cJ, 4, .inr (.inl (xs_rows G)))), ((ad 6), .inr (0, [.ref (ad 7)])), ((ad 7), .inl (cJ, 4, .inr (.inl (xs_rows Q)))), ((ad 8), .inr (0, [.ref (ad 9)])), ((ad 9), .inl (cJ, 4, .inr (.inl (xs_rows X)))), ((ad 10), .inr (0, [.ref (ad 11)])), ((ad 11), .inl (cJ, 4, .inr (.inl (xs_rows F))))])) s.heap H locs → lv_has ls 4 [(3, .int (nI i)), (0, .ref (ad 0)), (1, .int (nI a1)), (2, .int (nI b1))] → W p l e ({ frames := 2, cells := 0, slots := 0, locals := 41 }) s m ([.ref (ad 0), .int (nI a1), .int (nI b1)]).toArray below meth c H locs 0 0 (MQ below (xk_W D vwCl ([((ad 0), .inr (2, [.ref (ad 1), .ref (ad 2), .ref (ad 3), .ref (ad 4), .ref (ad 6), .ref (ad 8), .ref (ad 10), .int (xb on), .int (nI seen), .int (xd dy)])), ((ad 1), .inl (cJ, 256, .inr (.inl (xw_arr mem)))), ((ad 2), .inl (cJ, 8, .inr (.inl (xw_arr reg)))), ((ad 3), .inl (cI, 7, .inl tal)), ((ad 4), .inr (0, [.ref (ad 5)])), ((ad 5), .inl (cJ, 4, .inr (.inl (xs_rows G)))), ((ad 6), .inr (0, [.ref (ad 7)])), ((ad 7), .inl (cJ, 4, .inr (.inl (xs_rows Q)))), ((ad 8), .inr (0, [.ref (ad 9)])), ((ad 9), .inl (cJ, 4, .inr (.inl (xs_rows X)))), ((ad 10), .inr (0, [.ref (ad 11)])), ((ad 11), .inl (cJ, 4, .inr (.inl (xs_rows F))))]) ([((ad 0), .inr (2, [.ref (ad 1), .ref (ad 2), .ref (ad 3), .ref (ad 4), .ref (ad 6), .ref (ad 8), .ref (ad 10), .int (xb on), .int (nI seen), .int (xd dy)])), ((ad 1), .inl (cJ, 256, .inr (.inl (xw_arr (x_clr mem a1 b1))))), ((ad 2), .inl (cJ, 8, .inr (.inl (xw_arr reg)))), ((ad 3), .inl (cI, 7, .inl tal)), ((ad 4), .inr (0, [.ref (ad 5)])), ((ad 5), .inl (cJ, 4, .inr (.inl (xs_rows (x_add G a1 b1))))), ((ad 6), .inr (0, [.ref (ad 7)])), ((ad 7), .inl (cJ, 4, .inr (.inl (xs_rows Q)))), ((ad 8), .inr (0, [.ref (ad 9)])), ((ad 9), .inl (cJ, 4, .inr (.inl (xs_rows X)))), ((ad 10), .inr (0, [.ref (ad 11)])), ((ad 11), .inl (cJ, 4, .inr (.inl (xs_rows (va_up F a1 true)))))]) none) ([.ref (ad 0), .int (nI a1), .int (nI b1)]).toArray s 0 0 (xk_in ([((ad 0), .inr (2, [.ref (ad 1), .ref (ad 2), .ref (ad 3), .ref (ad 4), .ref (ad 6), .ref (ad 8), .ref (ad 10), .int (xb on), .int (nI seen), .int (xd dy)])), ((ad 1), .inl (cJ, 256, .inr (.inl (xw_arr mem)))), ((ad 2), .inl (cJ, 8, .inr (.inl (xw_arr reg)))), ((ad 3), .inl (cI, 7, .inl tal)), ((ad 4), .inr (0, [.ref (ad 5)])), ((ad 5), .inl (cJ, 4, .inr (.inl (xs_rows G)))), ((ad 6), .inr (0, [.ref (ad 7)])), ((ad 7), .inl (cJ, 4, .inr (.inl (xs_rows Q)))), ((ad 8), .inr (0, [.ref (ad 9)])), ((ad 9), .inl (cJ, 4, .inr (.inl (xs_rows X)))), ((ad 10), .inr (0, [.ref (ad 11)])), ((ad 11), .inl (cJ, 4, .inr (.inl (xs_rows F))))]))) (F0 m 10 ls []) := by
    intro n
    induction n with
    | zero =>
      intro i H locs ls hi hn hP hD hS hl
      refine lv_iload_n hx hb dX2_giveOut_10 rfl (lv_at hl 0 rfl) ?_
      refine lv_iload_n hx hb dX2_giveOut_11 rfl (lv_at hl 3 rfl) ?_
      refine lv_icmp_ge (tgt := 39) hx hb dX2_giveOut_12 (by decide) (fun c_12 => ?_) (fun c_12 => ?_)
      · skip
        exact xk_vretW hx hb hr hlk hP hS (by rw [← hn]; rfl) dX2_giveOut_39
      · skip
        exact absurd (nI_le (a := b1) (b := i) (by omega) (by omega)) c_12
    | succ n ih =>
      intro i H locs ls hi hn hP hD hS hl
      refine lv_iload_n hx hb dX2_giveOut_10 rfl (lv_at hl 0 rfl) ?_
      refine lv_iload_n hx hb dX2_giveOut_11 rfl (lv_at hl 3 rfl) ?_
      refine lv_icmp_ge (tgt := 39) hx hb dX2_giveOut_12 (by decide) (fun c_12 => ?_) (fun c_12 => ?_)
      · skip
        exact absurd (xn_le_of (by omega) (by omega) c_12) (by omega)
      · skip
        refine lv_aload_n hx hb dX2_giveOut_15 rfl (lv_at hl 1 rfl) ?_
        refine va_get (D := D) (ci := 2) (v := .ref (ad 4)) (C := RX2) (T := TX2) (N := 10) hx hb hts hiX2 hown hK hP 0 rfl rfl 3 (by decide) (hts (.fieldLink RX2 25 "PointerSweep$State" "given" "LPointerSweep$CellMap;") (by decide +kernel)) (fun _ h9 => h9) rfl dX2_giveOut_16 ?_
        refine lv_iload_n hx hb dX2_giveOut_19 rfl (lv_at hl 0 rfl) ?_
        refine xk_callW (ws' := [((ad 0), .inr (2, [.ref (ad 1), .ref (ad 2), .ref (ad 3), .ref (ad 4), .ref (ad 6), .ref (ad 8), .ref (ad 10), .int (xb on), .int (nI seen), .int (xd dy)])), ((ad 1), .inl (cJ, 256, .inr (.inl (xw_arr (x_clr mem a1 i))))), ((ad 2), .inl (cJ, 8, .inr (.inl (xw_arr reg)))), ((ad 3), .inl (cI, 7, .inl tal)), ((ad 4), .inr (0, [.ref (ad 5)])), ((ad 5), .inl (cJ, 4, .inr (.inl (xs_rows (va_up (x_add G a1 i) i true))))), ((ad 6), .inr (0, [.ref (ad 7)])), ((ad 7), .inl (cJ, 4, .inr (.inl (xs_rows Q)))), ((ad 8), .inr (0, [.ref (ad 9)])), ((ad 9), .inl (cJ, 4, .inr (.inl (xs_rows X)))), ((ad 10), .inr (0, [.ref (ad 11)])), ((ad 11), .inl (cJ, 4, .inr (.inl (xs_rows (va_up F a1 true)))))]) (va_runV (As := [.int (nI i)]) (rest := []) ⟨hx, hb, hml, hown, hts⟩ (k_add l D cI cJ cS (ad 4) (ad 5) (x_add G a1 i) i (by omega)) (cwV 1 hts gX2_giveOut_X0_add rfl rfl rfl (by decide +kernel) ⟨Nat.le_of_ble_eq_true rfl, Nat.le_of_ble_eq_true rfl⟩) (xk_preVw hK hN hP hD [4, 5] rfl rfl (ci := 0) rfl 0 rfl) rfl rfl hl.1 rfl (lv_room (Nat.le_of_ble_eq_true rfl)) dX2_giveOut_20 ⟨Nat.zero_le _, Nat.zero_le _⟩) hP hD hS [4, 5] rfl rfl rfl (fun H locs hP hD hS => ?_)
        refine lv_aload_n hx hb dX2_giveOut_23 rfl (lv_at hl 1 rfl) ?_
        refine va_get (D := D) (ci := 2) (v := .ref (ad 1)) (C := RX2) (T := TX2) (N := 10) hx hb hts hiX2 hown hK hP 0 rfl rfl 0 (by decide) (hts (.fieldLink RX2 9 "PointerSweep$State" "cells" "[J") (by decide +kernel)) (fun _ h9 => h9) rfl dX2_giveOut_24 ?_
        refine lv_iload_n hx hb dX2_giveOut_27 rfl (lv_at hl 0 rfl) ?_
        refine lv_iconst (v := 0) hx hb dX2_giveOut_28 (by decide) ?_
        refine xk_callR (va_runS (As := [.int 0]) (rest := [.int (nI i), .ref (ad 1)]) ⟨hx, hb, hml, hown, hts⟩ (k_ofNumber l D cI cJ cS 0) (va_cwS 1 hts gX2_giveOut_X3_ofNumber rfl rfl rfl (by decide +kernel) ⟨Nat.le_of_ble_eq_true rfl, Nat.le_of_ble_eq_true rfl⟩) (xk_preSr hK hN hP [] rfl) rfl rfl hl.1 rfl (lv_room (Nat.le_of_ble_eq_true rfl)) dX2_giveOut_29 ⟨Nat.zero_le _, Nat.zero_le _⟩) ?_
        refine xa_last (ws' := [((ad 0), .inr (2, [.ref (ad 1), .ref (ad 2), .ref (ad 3), .ref (ad 4), .ref (ad 6), .ref (ad 8), .ref (ad 10), .int (xb on), .int (nI seen), .int (xd dy)])), ((ad 1), .inl (cJ, 256, .inr (.inl (vp_updL (xw_arr (x_clr mem a1 i)) i (xw_enc (0, none)))))), ((ad 2), .inl (cJ, 8, .inr (.inl (xw_arr reg)))), ((ad 3), .inl (cI, 7, .inl tal)), ((ad 4), .inr (0, [.ref (ad 5)])), ((ad 5), .inl (cJ, 4, .inr (.inl (xs_rows (va_up (x_add G a1 i) i true))))), ((ad 6), .inr (0, [.ref (ad 7)])), ((ad 7), .inl (cJ, 4, .inr (.inl (xs_rows Q)))), ((ad 8), .inr (0, [.ref (ad 9)])), ((ad 9), .inl (cJ, 4, .inr (.inl (xs_rows X)))), ((ad 10), .inr (0, [.ref (ad 11)])), ((ad 11), .inl (cJ, 4, .inr (.inl (xs_rows (va_up F a1 true)))))]) hx hb hK hP hD hS 1 1 rfl rfl i rfl (by omega) (by decide) dX2_giveOut_32 rfl (fun H locs hP hD hS => ?_)
        rw [xw_upd, x_clr_s mem hi] at hP hD
        refine lv_iinc (v := (nI (i + 1))) (lv' := [(3, .int (nI (i + 1))), (0, .ref (ad 0)), (1, .int (nI a1)), (2, .int (nI b1))]) hx hb dX2_giveOut_33 hl (k := 0) rfl (nI_1 i) (by decide) rfl (fun ls hl => ?_)
        refine lv_goto (tgt := 10) hx hb dX2_giveOut_36 (by decide) ?_
        rw [x_add_s G hi] at hP hD
        exact ih (i + 1) H locs ls (by omega) (by omega) hP hD hS (lv_sub hl [0, 1, 2, 3] rfl)
  refine lv_aload_n hx hb dX2_giveOut_0 rfl (lv_at hl 0 rfl) ?_
  refine va_get (D := D) (ci := 2) (v := .ref (ad 10)) (C := RX2) (T := TX2) (N := 10) hx hb hts hiX2 hown hK hP 0 rfl rfl 6 (by decide) (hts (.fieldLink RX2 35 "PointerSweep$State" "firsts" "LPointerSweep$CellMap;") (by decide +kernel)) (fun _ h9 => h9) rfl dX2_giveOut_1 ?_
  refine lv_iload_n hx hb dX2_giveOut_4 rfl (lv_at hl 1 rfl) ?_
  refine xk_callW (ws' := [((ad 0), .inr (2, [.ref (ad 1), .ref (ad 2), .ref (ad 3), .ref (ad 4), .ref (ad 6), .ref (ad 8), .ref (ad 10), .int (xb on), .int (nI seen), .int (xd dy)])), ((ad 1), .inl (cJ, 256, .inr (.inl (xw_arr mem)))), ((ad 2), .inl (cJ, 8, .inr (.inl (xw_arr reg)))), ((ad 3), .inl (cI, 7, .inl tal)), ((ad 4), .inr (0, [.ref (ad 5)])), ((ad 5), .inl (cJ, 4, .inr (.inl (xs_rows G)))), ((ad 6), .inr (0, [.ref (ad 7)])), ((ad 7), .inl (cJ, 4, .inr (.inl (xs_rows Q)))), ((ad 8), .inr (0, [.ref (ad 9)])), ((ad 9), .inl (cJ, 4, .inr (.inl (xs_rows X)))), ((ad 10), .inr (0, [.ref (ad 11)])), ((ad 11), .inl (cJ, 4, .inr (.inl (xs_rows (va_up F a1 true)))))]) (va_runV (As := [.int (nI a1)]) (rest := []) ⟨hx, hb, hml, hown, hts⟩ (k_add l D cI cJ cS (ad 10) (ad 11) F a1 ha1) (cwV 1 hts gX2_giveOut_X0_add rfl rfl rfl (by decide +kernel) ⟨Nat.le_of_ble_eq_true rfl, Nat.le_of_ble_eq_true rfl⟩) (xk_preVw hK hN hP hD [10, 11] rfl rfl (ci := 0) rfl 0 rfl) rfl rfl hl.1 rfl (lv_room (Nat.le_of_ble_eq_true rfl)) dX2_giveOut_5 ⟨Nat.zero_le _, Nat.zero_le _⟩) hP hD hS [10, 11] rfl rfl rfl (fun H locs hP hD hS => ?_)
  refine lv_iload_n hx hb dX2_giveOut_8 rfl (lv_at hl 1 rfl) ?_
  refine lv_istore_n (lv' := [(3, .int (nI a1)), (0, .ref (ad 0)), (1, .int (nI a1)), (2, .int (nI b1))]) hx hb dX2_giveOut_9 rfl hl (by decide) rfl (fun ls hl => ?_)
  refine loop (b1 - a1) a1 H locs ls (Nat.le_refl _) (by omega) ?_ ?_ hS (lv_sub hl [0, 1, 2, 3] rfl)
  · rw [x_add_0, x_clr_0]; exact hP
  · rw [x_add_0, x_clr_0]; exact hD
set_option maxHeartbeats 4000000 in
set_option maxRecDepth 100000 in
theorem k_giveBack (l : Launch) (D : va_G) (cI cJ cS : ClassId) (ad : Nat → Nat) (mem reg : Nat → xw) (tal : Nat → Int32) (G Q X F : Nat → Bool) (on : Bool) (seen : Nat) (dy : Nat → Bool) (a1 b1 : Nat) (hab : a1 ≤ b1) (hb1 : b1 ≤ 256) (ha1 : a1 < 256) : xk_Wr l yX2_giveBack wsX2_giveBack ({ frames := 2, cells := 0, slots := 0, locals := 41 }) D vwCl (xt cI cJ cS) ([((ad 0), .inr (2, [.ref (ad 1), .ref (ad 2), .ref (ad 3), .ref (ad 4), .ref (ad 6), .ref (ad 8), .ref (ad 10), .int (xb on), .int (nI seen), .int (xd dy)])), ((ad 1), .inl (cJ, 256, .inr (.inl (xw_arr mem)))), ((ad 2), .inl (cJ, 8, .inr (.inl (xw_arr reg)))), ((ad 3), .inl (cI, 7, .inl tal)), ((ad 4), .inr (0, [.ref (ad 5)])), ((ad 5), .inl (cJ, 4, .inr (.inl (xs_rows G)))), ((ad 6), .inr (0, [.ref (ad 7)])), ((ad 7), .inl (cJ, 4, .inr (.inl (xs_rows Q)))), ((ad 8), .inr (0, [.ref (ad 9)])), ((ad 9), .inl (cJ, 4, .inr (.inl (xs_rows X)))), ((ad 10), .inr (0, [.ref (ad 11)])), ((ad 11), .inl (cJ, 4, .inr (.inl (xs_rows F))))]) [.ref (ad 0), .int (nI a1), .int (nI b1)] ([((ad 0), .inr (2, [.ref (ad 1), .ref (ad 2), .ref (ad 3), .ref (ad 4), .ref (ad 6), .ref (ad 8), .ref (ad 10), .int (xb on), .int (nI seen), .int (xd dy)])), ((ad 1), .inl (cJ, 256, .inr (.inl (xw_arr mem)))), ((ad 2), .inl (cJ, 8, .inr (.inl (xw_arr reg)))), ((ad 3), .inl (cI, 7, .inl tal)), ((ad 4), .inr (0, [.ref (ad 5)])), ((ad 5), .inl (cJ, 4, .inr (.inl (xs_rows (x_sub G a1 b1))))), ((ad 6), .inr (0, [.ref (ad 7)])), ((ad 7), .inl (cJ, 4, .inr (.inl (xs_rows (x_add Q a1 b1))))), ((ad 8), .inr (0, [.ref (ad 9)])), ((ad 9), .inl (cJ, 4, .inr (.inl (xs_rows X)))), ((ad 10), .inr (0, [.ref (ad 11)])), ((ad 11), .inl (cJ, 4, .inr (.inl (xs_rows (va_up F a1 false)))))]) none := by
  refine xk_wr (cc := cX2_giveBack) (maxL := 4) (ret := none) (by decide) rfl (Nat.le_of_ble_eq_true rfl) (fun p e s m below meth c ls hx hb hr hlk hml hown hts hl hP hK hN hD hS => ?_)
  replace hl : lv_has ls 4 [(0, .ref (ad 0)), (1, .int (nI a1)), (2, .int (nI b1))] := hl
  have hiX2 : ∀ w ∈ u_ws RX2 TX2 10, w ∈ wsX2_giveBack := by decide +kernel
  have loop : ∀ (n i : Nat) (H : Heap) (locs : List Loc) (ls : Array Slot), a1 ≤ i → i + n = b1 → va_P D vwCl ([((ad 0), .inr (2, [.ref (ad 1), .ref (ad 2), .ref (ad 3), .ref (ad 4), .ref (ad 6), .ref (ad 8), .ref (ad 10), .int (xb on), .int (nI seen), .int (xd dy)])), ((ad 1), .inl (cJ, 256, .inr (.inl (xw_arr mem)))), ((ad 2), .inl (cJ, 8, .inr (.inl (xw_arr reg)))), ((ad 3), .inl (cI, 7, .inl tal)), ((ad 4), .inr (0, [.ref (ad 5)])), ((ad 5), .inl (cJ, 4, .inr (.inl (xs_rows (x_sub G a1 i))))), ((ad 6), .inr (0, [.ref (ad 7)])), ((ad 7), .inl (cJ, 4, .inr (.inl (xs_rows (x_add Q a1 i))))), ((ad 8), .inr (0, [.ref (ad 9)])), ((ad 9), .inl (cJ, 4, .inr (.inl (xs_rows X)))), ((ad 10), .inr (0, [.ref (ad 11)])), ((ad 11), .inl (cJ, 4, .inr (.inl (xs_rows (va_up F a1 false)))))]) H → va_D (xk_in ([((ad 0), .inr (2, [.ref (ad 1), .ref (ad 2), .ref (ad 3), .ref (ad 4), .ref (ad 6), .ref (ad 8), .ref (ad 10), .int (xb on), .int (nI seen), .int (xd dy)])), ((ad 1), .inl (cJ, 256, .inr (.inl (xw_arr mem)))), ((ad 2), .inl (cJ, 8, .inr (.inl (xw_arr reg)))), ((ad 3), .inl (cI, 7, .inl tal)), ((ad 4), .inr (0, [.ref (ad 5)])), ((ad 5), .inl (cJ, 4, .inr (.inl (xs_rows G)))), ((ad 6), .inr (0, [.ref (ad 7)])), ((ad 7), .inl (cJ, 4, .inr (.inl (xs_rows Q)))), ((ad 8), .inr (0, [.ref (ad 9)])), ((ad 9), .inl (cJ, 4, .inr (.inl (xs_rows X)))), ((ad 10), .inr (0, [.ref (ad 11)])), ((ad 11), .inl (cJ, 4, .inr (.inl (xs_rows F))))])) ([((ad 0), .inr (2, [.ref (ad 1), .ref (ad 2), .ref (ad 3), .ref (ad 4), .ref (ad 6), .ref (ad 8), .ref (ad 10), .int (xb on), .int (nI seen), .int (xd dy)])), ((ad 1), .inl (cJ, 256, .inr (.inl (xw_arr mem)))), ((ad 2), .inl (cJ, 8, .inr (.inl (xw_arr reg)))), ((ad 3), .inl (cI, 7, .inl tal)), ((ad 4), .inr (0, [.ref (ad 5)])), ((ad 5), .inl (cJ, 4, .inr (.inl (xs_rows (x_sub G a1 i))))), ((ad 6), .inr (0, [.ref (ad 7)])), ((ad 7), .inl (cJ, 4, .inr (.inl (xs_rows (x_add Q a1 i))))), ((ad 8), .inr (0, [.ref (ad 9)])), ((ad 9), .inl (cJ, 4, .inr (.inl (xs_rows X)))), ((ad 10), .inr (0, [.ref (ad 11)])), ((ad 11), .inl (cJ, 4, .inr (.inl (xs_rows (va_up F a1 false)))))]) → va_S (xk_in ([((ad 0), .inr (2, [.ref (ad 1), .ref (ad 2), .ref (ad 3), .ref (ad 4), .ref (ad 6), .ref (ad 8), .ref (ad 10), .int (xb on), .int (nI seen), .int (xd dy)])), ((ad 1), .inl (cJ, 256, .inr (.inl (xw_arr mem)))), ((ad 2), .inl (cJ, 8, .inr (.inl (xw_arr reg)))), ((ad 3), .inl (cI, 7, .inl tal)), ((ad 4), .inr (0, [.ref (ad 5)])), ((ad 5), .inl (cJ, 4, .inr (.inl (xs_rows G)))), ((ad 6), .inr (0, [.ref (ad 7)])), ((ad 7), .inl (cJ, 4, .inr (.inl (xs_rows Q)))), ((ad 8), .inr (0, [.ref (ad 9)])), ((ad 9), .inl (cJ, 4, .inr (.inl (xs_rows X)))), ((ad 10), .inr (0, [.ref (ad 11)])), ((ad 11), .inl (cJ, 4, .inr (.inl (xs_rows F))))])) s.heap H locs → lv_has ls 4 [(3, .int (nI i)), (0, .ref (ad 0)), (1, .int (nI a1)), (2, .int (nI b1))] → W p l e ({ frames := 2, cells := 0, slots := 0, locals := 41 }) s m ([.ref (ad 0), .int (nI a1), .int (nI b1)]).toArray below meth c H locs 0 0 (MQ below (xk_W D vwCl ([((ad 0), .inr (2, [.ref (ad 1), .ref (ad 2), .ref (ad 3), .ref (ad 4), .ref (ad 6), .ref (ad 8), .ref (ad 10), .int (xb on), .int (nI seen), .int (xd dy)])), ((ad 1), .inl (cJ, 256, .inr (.inl (xw_arr mem)))), ((ad 2), .inl (cJ, 8, .inr (.inl (xw_arr reg)))), ((ad 3), .inl (cI, 7, .inl tal)), ((ad 4), .inr (0, [.ref (ad 5)])), ((ad 5), .inl (cJ, 4, .inr (.inl (xs_rows G)))), ((ad 6), .inr (0, [.ref (ad 7)])), ((ad 7), .inl (cJ, 4, .inr (.inl (xs_rows Q)))), ((ad 8), .inr (0, [.ref (ad 9)])), ((ad 9), .inl (cJ, 4, .inr (.inl (xs_rows X)))), ((ad 10), .inr (0, [.ref (ad 11)])), ((ad 11), .inl (cJ, 4, .inr (.inl (xs_rows F))))]) ([((ad 0), .inr (2, [.ref (ad 1), .ref (ad 2), .ref (ad 3), .ref (ad 4), .ref (ad 6), .ref (ad 8), .ref (ad 10), .int (xb on), .int (nI seen), .int (xd dy)])), ((ad 1), .inl (cJ, 256, .inr (.inl (xw_arr mem)))), ((ad 2), .inl (cJ, 8, .inr (.inl (xw_arr reg)))), ((ad 3), .inl (cI, 7, .inl tal)), ((ad 4), .inr (0, [.ref (ad 5)])), ((ad 5), .inl (cJ, 4, .inr (.inl (xs_rows (x_sub G a1 b1))))), ((ad 6), .inr (0, [.ref (ad 7)])), ((ad 7), .inl (cJ, 4, .inr (.inl (xs_rows (x_add Q a1 b1))))), ((ad 8), .inr (0, [.ref (ad 9)])), ((ad 9), .inl (cJ, 4, .inr (.inl (xs_rows X)))), ((ad 10), .inr (0, [.ref (ad 11)])), ((ad 11), .inl (cJ, 4, .inr (.inl (xs_rows (va_up F a1 false)))))]) none) ([.ref (ad 0), .int (nI a1), .int (nI b1)]).toArray s 0 0 (xk_in ([((ad 0), .inr (2, [.ref (ad 1), .ref (ad 2), .ref (ad 3), .ref (ad 4), .ref (ad 6), .ref (ad 8), .ref (ad 10), .int (xb on), .int (nI seen), .int (xd dy)])), ((ad 1), .inl (cJ, 256, .inr (.inl (xw_arr mem)))), ((ad 2), .inl (cJ, 8, .inr (.inl (xw_arr reg)))), ((ad 3), .inl (cI, 7, .inl tal)), ((ad 4), .inr (0, [.ref (ad 5)])), ((ad 5), .inl (cJ, 4, .inr (.inl (xs_rows G)))), ((ad 6), .inr (0, [.ref (ad 7)])), ((ad 7), .inl (cJ, 4, .inr (.inl (xs_rows Q)))), ((ad 8), .inr (0, [.ref (ad 9)])), ((ad 9), .inl (cJ, 4, .inr (.inl (xs_rows X)))), ((ad 10), .inr (0, [.ref (ad 11)])), ((ad 11), .inl (cJ, 4, .inr (.inl (xs_rows F))))]))) (F0 m 10 ls []) := by
    intro n
    induction n with
    | zero =>
      intro i H locs ls hi hn hP hD hS hl
      refine lv_iload_n hx hb dX2_giveBack_10 rfl (lv_at hl 0 rfl) ?_
      refine lv_iload_n hx hb dX2_giveBack_11 rfl (lv_at hl 3 rfl) ?_
      refine lv_icmp_ge (tgt := 37) hx hb dX2_giveBack_12 (by decide) (fun c_12 => ?_) (fun c_12 => ?_)
      · skip
        exact xk_vretW hx hb hr hlk hP hS (by rw [← hn]; rfl) dX2_giveBack_37
      · skip
        exact absurd (nI_le (a := b1) (b := i) (by omega) (by omega)) c_12
    | succ n ih =>
      intro i H locs ls hi hn hP hD hS hl
      refine lv_iload_n hx hb dX2_giveBack_10 rfl (lv_at hl 0 rfl) ?_
      refine lv_iload_n hx hb dX2_giveBack_11 rfl (lv_at hl 3 rfl) ?_
      refine lv_icmp_ge (tgt := 37) hx hb dX2_giveBack_12 (by decide) (fun c_12 => ?_) (fun c_12 => ?_)
      · skip
        exact absurd (xn_le_of (by omega) (by omega) c_12) (by omega)
      · skip
        refine lv_aload_n hx hb dX2_giveBack_15 rfl (lv_at hl 1 rfl) ?_
        refine va_get (D := D) (ci := 2) (v := .ref (ad 4)) (C := RX2) (T := TX2) (N := 10) hx hb hts hiX2 hown hK hP 0 rfl rfl 3 (by decide) (hts (.fieldLink RX2 25 "PointerSweep$State" "given" "LPointerSweep$CellMap;") (by decide +kernel)) (fun _ h9 => h9) rfl dX2_giveBack_16 ?_
        refine lv_iload_n hx hb dX2_giveBack_19 rfl (lv_at hl 0 rfl) ?_
        refine xk_callW (ws' := [((ad 0), .inr (2, [.ref (ad 1), .ref (ad 2), .ref (ad 3), .ref (ad 4), .ref (ad 6), .ref (ad 8), .ref (ad 10), .int (xb on), .int (nI seen), .int (xd dy)])), ((ad 1), .inl (cJ, 256, .inr (.inl (xw_arr mem)))), ((ad 2), .inl (cJ, 8, .inr (.inl (xw_arr reg)))), ((ad 3), .inl (cI, 7, .inl tal)), ((ad 4), .inr (0, [.ref (ad 5)])), ((ad 5), .inl (cJ, 4, .inr (.inl (xs_rows (va_up (x_sub G a1 i) i false))))), ((ad 6), .inr (0, [.ref (ad 7)])), ((ad 7), .inl (cJ, 4, .inr (.inl (xs_rows (x_add Q a1 i))))), ((ad 8), .inr (0, [.ref (ad 9)])), ((ad 9), .inl (cJ, 4, .inr (.inl (xs_rows X)))), ((ad 10), .inr (0, [.ref (ad 11)])), ((ad 11), .inl (cJ, 4, .inr (.inl (xs_rows (va_up F a1 false)))))]) (va_runV (As := [.int (nI i)]) (rest := []) ⟨hx, hb, hml, hown, hts⟩ (k_drop l D cI cJ cS (ad 4) (ad 5) (x_sub G a1 i) i (by omega)) (cwV 1 hts gX2_giveBack_X0_drop rfl rfl rfl (by decide +kernel) ⟨Nat.le_of_ble_eq_true rfl, Nat.le_of_ble_eq_true rfl⟩) (xk_preVw hK hN hP hD [4, 5] rfl rfl (ci := 0) rfl 0 rfl) rfl rfl hl.1 rfl (lv_room (Nat.le_of_ble_eq_true rfl)) dX2_giveBack_20 ⟨Nat.zero_le _, Nat.zero_le _⟩) hP hD hS [4, 5] rfl rfl rfl (fun H locs hP hD hS => ?_)
        refine lv_aload_n hx hb dX2_giveBack_23 rfl (lv_at hl 1 rfl) ?_
        refine va_get (D := D) (ci := 2) (v := .ref (ad 6)) (C := RX2) (T := TX2) (N := 10) hx hb hts hiX2 hown hK hP 0 rfl rfl 4 (by decide) (hts (.fieldLink RX2 29 "PointerSweep$State" "quarantined" "LPointerSweep$CellMap;") (by decide +kernel)) (fun _ h9 => h9) rfl dX2_giveBack_24 ?_
        refine lv_iload_n hx hb dX2_giveBack_27 rfl (lv_at hl 0 rfl) ?_
        refine xk_callW (ws' := [((ad 0), .inr (2, [.ref (ad 1), .ref (ad 2), .ref (ad 3), .ref (ad 4), .ref (ad 6), .ref (ad 8), .ref (ad 10), .int (xb on), .int (nI seen), .int (xd dy)])), ((ad 1), .inl (cJ, 256, .inr (.inl (xw_arr mem)))), ((ad 2), .inl (cJ, 8, .inr (.inl (xw_arr reg)))), ((ad 3), .inl (cI, 7, .inl tal)), ((ad 4), .inr (0, [.ref (ad 5)])), ((ad 5), .inl (cJ, 4, .inr (.inl (xs_rows (va_up (x_sub G a1 i) i false))))), ((ad 6), .inr (0, [.ref (ad 7)])), ((ad 7), .inl (cJ, 4, .inr (.inl (xs_rows (va_up (x_add Q a1 i) i true))))), ((ad 8), .inr (0, [.ref (ad 9)])), ((ad 9), .inl (cJ, 4, .inr (.inl (xs_rows X)))), ((ad 10), .inr (0, [.ref (ad 11)])), ((ad 11), .inl (cJ, 4, .inr (.inl (xs_rows (va_up F a1 false)))))]) (va_runV (As := [.int (nI i)]) (rest := []) ⟨hx, hb, hml, hown, hts⟩ (k_add l D cI cJ cS (ad 6) (ad 7) (x_add Q a1 i) i (by omega)) (cwV 1 hts gX2_giveBack_X0_add rfl rfl rfl (by decide +kernel) ⟨Nat.le_of_ble_eq_true rfl, Nat.le_of_ble_eq_true rfl⟩) (xk_preVw hK hN hP hD [6, 7] rfl rfl (ci := 0) rfl 0 rfl) rfl rfl hl.1 rfl (lv_room (Nat.le_of_ble_eq_true rfl)) dX2_giveBack_28 ⟨Nat.zero_le _, Nat.zero_le _⟩) hP hD hS [6, 7] rfl rfl rfl (fun H locs hP hD hS => ?_)
        refine lv_iinc (v := (nI (i + 1))) (lv' := [(3, .int (nI (i + 1))), (0, .ref (ad 0)), (1, .int (nI a1)), (2, .int (nI b1))]) hx hb dX2_giveBack_31 hl (k := 0) rfl (nI_1 i) (by decide) rfl (fun ls hl => ?_)
        refine lv_goto (tgt := 10) hx hb dX2_giveBack_34 (by decide) ?_
        rw [x_add_s Q hi, x_sub_s G hi] at hP hD
        exact ih (i + 1) H locs ls (by omega) (by omega) hP hD hS (lv_sub hl [0, 1, 2, 3] rfl)
  refine lv_aload_n hx hb dX2_giveBack_0 rfl (lv_at hl 0 rfl) ?_
  refine va_get (D := D) (ci := 2) (v := .ref (ad 10)) (C := RX2) (T := TX2) (N := 10) hx hb hts hiX2 hown hK hP 0 rfl rfl 6 (by decide) (hts (.fieldLink RX2 35 "PointerSweep$State" "firsts" "LPointerSweep$CellMap;") (by decide +kernel)) (fun _ h9 => h9) rfl dX2_giveBack_1 ?_
  refine lv_iload_n hx hb dX2_giveBack_4 rfl (lv_at hl 1 rfl) ?_
  refine xk_callW (ws' := [((ad 0), .inr (2, [.ref (ad 1), .ref (ad 2), .ref (ad 3), .ref (ad 4), .ref (ad 6), .ref (ad 8), .ref (ad 10), .int (xb on), .int (nI seen), .int (xd dy)])), ((ad 1), .inl (cJ, 256, .inr (.inl (xw_arr mem)))), ((ad 2), .inl (cJ, 8, .inr (.inl (xw_arr reg)))), ((ad 3), .inl (cI, 7, .inl tal)), ((ad 4), .inr (0, [.ref (ad 5)])), ((ad 5), .inl (cJ, 4, .inr (.inl (xs_rows G)))), ((ad 6), .inr (0, [.ref (ad 7)])), ((ad 7), .inl (cJ, 4, .inr (.inl (xs_rows Q)))), ((ad 8), .inr (0, [.ref (ad 9)])), ((ad 9), .inl (cJ, 4, .inr (.inl (xs_rows X)))), ((ad 10), .inr (0, [.ref (ad 11)])), ((ad 11), .inl (cJ, 4, .inr (.inl (xs_rows (va_up F a1 false)))))]) (va_runV (As := [.int (nI a1)]) (rest := []) ⟨hx, hb, hml, hown, hts⟩ (k_drop l D cI cJ cS (ad 10) (ad 11) F a1 ha1) (cwV 1 hts gX2_giveBack_X0_drop rfl rfl rfl (by decide +kernel) ⟨Nat.le_of_ble_eq_true rfl, Nat.le_of_ble_eq_true rfl⟩) (xk_preVw hK hN hP hD [10, 11] rfl rfl (ci := 0) rfl 0 rfl) rfl rfl hl.1 rfl (lv_room (Nat.le_of_ble_eq_true rfl)) dX2_giveBack_5 ⟨Nat.zero_le _, Nat.zero_le _⟩) hP hD hS [10, 11] rfl rfl rfl (fun H locs hP hD hS => ?_)
  refine lv_iload_n hx hb dX2_giveBack_8 rfl (lv_at hl 1 rfl) ?_
  refine lv_istore_n (lv' := [(3, .int (nI a1)), (0, .ref (ad 0)), (1, .int (nI a1)), (2, .int (nI b1))]) hx hb dX2_giveBack_9 rfl hl (by decide) rfl (fun ls hl => ?_)
  refine loop (b1 - a1) a1 H locs ls (Nat.le_refl _) (by omega) ?_ ?_ hS (lv_sub hl [0, 1, 2, 3] rfl)
  · rw [x_add_0, x_sub_0]; exact hP
  · rw [x_add_0, x_sub_0]; exact hD
end
section
/-! The sweeper, as functions -/
section XSW
/-- behind the dirty pages below i -/
def x_dm (X : Nat → Bool) (dy : Nat → Bool) (f : Nat → xw) (i : Nat) : Nat → xw := fun k => if k < 16 * i ∧ dy (k / 16) = true then x_lk X (f k) else f k
def x_dc (X : Nat → Bool) (dy : Nat → Bool) (f : Nat → xw) : Nat → Int32
  | 0 => 0
  | i + 1 => if dy i = true then x_dc X dy f i + x_cn X f (16 * i) (16 * i + 16) else x_dc X dy f i
def x_dp (dy : Nat → Bool) : Nat → Int32
  | 0 => 0
  | i + 1 => if dy i = true then x_dp dy i + 1 else x_dp dy i
def x_dt (X : Nat → Bool) (dy : Nat → Bool) (f : Nat → xw) (tal : Nat → Int32) (i : Nat) : Nat → Int32 := upd (upd tal 1 (tal 1 + x_dc X dy f i)) 5 (tal 5 + x_dp dy i)
theorem x_dm_0 (X dy : Nat → Bool) (f : Nat → xw) : x_dm X dy f 0 = f := by
  funext k
  simp only [x_dm]
  rw [if_neg (by omega)]
theorem x_dt_0 (X dy : Nat → Bool) (f : Nat → xw) (tal : Nat → Int32) : x_dt X dy f tal 0 = tal := by
  funext k
  simp only [x_dt, x_dc, x_dp, upd, Int32.add_zero]
  by_cases h : k = 5
  · subst h; simp
  · by_cases h1 : k = 1
    · subst h1; simp
    · simp [h, h1]
theorem x_dm_n {X dy : Nat → Bool} (f : Nat → xw) {i : Nat} (h : xb (dy i) = 0) : x_dm X dy f (i + 1) = x_dm X dy f i := by
  funext k
  simp only [x_dm]
  by_cases h1 : k < 16 * i
  · by_cases h2 : dy (k / 16) = true
    · rw [if_pos ⟨by omega, h2⟩, if_pos ⟨h1, h2⟩]
    · rw [if_neg (fun q => h2 q.2), if_neg (fun q => h2 q.2)]
  · rw [if_neg (c := k < 16 * i ∧ dy (k / 16) = true) (fun q => h1 q.1)]
    rw [if_neg]
    intro q
    have : k / 16 = i := by omega
    rw [this, xb_eq h] at q
    exact absurd q.2 (by decide)
theorem x_dt_n {X dy : Nat → Bool} (f : Nat → xw) (tal : Nat → Int32) {i : Nat} (h : xb (dy i) = 0) : x_dt X dy f tal (i + 1) = x_dt X dy f tal i := by
  have h2 : ¬ dy i = true := by rw [xb_eq h]; decide
  unfold x_dt
  rw [show x_dc X dy f (i + 1) = x_dc X dy f i from if_neg h2, show x_dp dy (i + 1) = x_dp dy i from if_neg h2]
theorem x_dm_y {X dy : Nat → Bool} (f : Nat → xw) {i : Nat} (h : ¬ xb (dy i) = 0) : x_cl X (x_dm X dy f i) (16 * i) (16 * i + 16) = x_dm X dy f (i + 1) := by
  have h2 := xb_ne h
  funext k
  simp only [x_dm, x_cl]
  by_cases h1 : 16 * i ≤ k ∧ k < 16 * i + 16
  · have e : k / 16 = i := by omega
    rw [if_pos h1, if_neg (by omega), if_pos ⟨by omega, by rw [e]; exact h2⟩]
  · rw [if_neg h1]
    by_cases h3 : k < 16 * i ∧ dy (k / 16) = true
    · rw [if_pos h3, if_pos ⟨by omega, h3.2⟩]
    · rw [if_neg h3, if_neg (fun q => h3 ⟨by omega, q.2⟩)]
theorem x_dm_c {X dy : Nat → Bool} (f : Nat → xw) (i : Nat) : x_cn X (x_dm X dy f i) (16 * i) (16 * i + 16) = x_cn X f (16 * i) (16 * i + 16) := by
  unfold x_cn
  apply x_acc_congr
  intro k h1 h2
  simp only [x_dm]
  rw [if_neg (by omega)]
theorem x_dt_y {X dy : Nat → Bool} (f : Nat → xw) (tal : Nat → Int32) {i : Nat} (h : ¬ xb (dy i) = 0) :
    upd (upd (x_dt X dy f tal i) 1 (x_dt X dy f tal i 1 + x_cn X (x_dm X dy f i) (16 * i) (16 * i + 16))) 5 (upd (x_dt X dy f tal i) 1 (x_dt X dy f tal i 1 + x_cn X (x_dm X dy f i) (16 * i) (16 * i + 16)) 5 + 1) = x_dt X dy f tal (i + 1) := by
  have h2 := xb_ne h
  rw [x_dm_c]
  have e1 : x_dc X dy f (i + 1) = x_dc X dy f i + x_cn X f (16 * i) (16 * i + 16) := if_pos h2
  have e2 : x_dp dy (i + 1) = x_dp dy i + 1 := if_pos h2
  funext k
  simp only [x_dt, upd, e1, e2]
  by_cases h5 : k = 5
  · subst h5; simp [Int32.add_assoc]
  · by_cases h1 : k = 1
    · subst h1; simp [Int32.add_assoc]
    · simp [h5, h1]
theorem x_dm_ok {X dy : Nat → Bool} {f : Nat → xw} (h : ∀ k, xw_ok (f k)) (i k : Nat) : xw_ok (x_dm X dy f i k) := by
  simp only [x_dm]
  split
  · exact x_lk_ok (h k)
  · exact h k
def x_stop (seen n : Nat) : Nat := min 16 (seen + n)
theorem x_stop_min {seen n : Nat} (hs : seen ≤ 16) (hn : n ≤ 16) : (if nI seen + nI n < 16 then nI seen + nI n else 16) = nI (x_stop seen n) := by
  rw [nI_add]
  unfold x_stop
  by_cases h : seen + n < 16
  · rw [if_pos (show nI (seen + n) < 16 from nI_lt (b := 16) h (by decide)), Nat.min_eq_right (by omega)]
  · rw [if_neg (show ¬ nI (seen + n) < 16 from nI_nlt (b := 16) (by omega) (by omega)), Nat.min_eq_left (by omega)]
    rfl
/-- what THE END does to the tallies -/
def x_et (X dy : Nat → Bool) (f g : Nat → xw) (tal : Nat → Int32) : Nat → Int32 :=
  upd (upd (x_dt X dy f tal 16) 2 (x_dt X dy f tal 16 2 + x_cn X g 0 8)) 6 (upd (x_dt X dy f tal 16) 2 (x_dt X dy f tal 16 2 + x_cn X g 0 8) 6 + 1)
/-- what STEPS do to the tallies -/
def x_pt (X : Nat → Bool) (f : Nat → xw) (seen n : Nat) (tal : Nat → Int32) : Nat → Int32 :=
  upd (upd tal 4 (tal 4 + (nI (x_stop seen n) - nI seen))) 0 (upd tal 4 (tal 4 + (nI (x_stop seen n) - nI seen)) 0 + x_cn X f (16 * seen) (16 * x_stop seen n))
end XSW
end
section
set_option maxHeartbeats 4000000 in
set_option maxRecDepth 100000 in
theorem k_clean (l : Launch) (D : va_G) (cI cJ cS : ClassId) (ad : Nat → Nat) (mem reg : Nat → xw) (tal : Nat → Int32) (G Q X F : Nat → Bool) (on : Bool) (seen : Nat) (dy : Nat → Bool) (wa N : Nat) (hN1 : N < 2 ^ 31) (f : Nat → xw) (hf : ∀ k, xw_ok (f k)) (a1 b1 : Nat) (hab : a1 ≤ b1) (hb1 : b1 ≤ N) : xk_Wr l yX2_clean wsX2_clean ({ frames := 3, cells := 0, slots := 0, locals := 68 }) D vwCl (xt cI cJ cS) ([((ad 0), .inr (2, [.ref (ad 1), .ref (ad 2), .ref (ad 3), .ref (ad 4), .ref (ad 6), .ref (ad 8), .ref (ad 10), .int (xb on), .int (nI seen), .int (xd dy)])), ((ad 8), .inr (0, [.ref (ad 9)])), ((ad 9), .inl (cJ, 4, .inr (.inl (xs_rows X)))), (wa, .inl (cJ, N, .inr (.inl (xw_arr f))))]) [.ref (ad 0), .ref wa, .int (nI a1), .int (nI b1)] ([((ad 0), .inr (2, [.ref (ad 1), .ref (ad 2), .ref (ad 3), .ref (ad 4), .ref (ad 6), .ref (ad 8), .ref (ad 10), .int (xb on), .int (nI seen), .int (xd dy)])), ((ad 8), .inr (0, [.ref (ad 9)])), ((ad 9), .inl (cJ, 4, .inr (.inl (xs_rows X)))), (wa, .inl (cJ, N, .inr (.inl (xw_arr (x_cl X f a1 b1)))))]) (some (.int (x_cn X f a1 b1))) := by
  refine xk_wr (cc := cX2_clean) (maxL := 6) (ret := (some .int)) (by decide) rfl (Nat.le_of_ble_eq_true rfl) (fun p e s m below meth c ls hx hb hr hlk hml hown hts hl hP hK hN hD hS => ?_)
  replace hl : lv_has ls 6 [(0, .ref (ad 0)), (1, .ref wa), (2, .int (nI a1)), (3, .int (nI b1))] := hl
  have loop : ∀ (n i : Nat) (H : Heap) (locs : List Loc) (ls : Array Slot), a1 ≤ i → i + n = b1 → va_P D vwCl ([((ad 0), .inr (2, [.ref (ad 1), .ref (ad 2), .ref (ad 3), .ref (ad 4), .ref (ad 6), .ref (ad 8), .ref (ad 10), .int (xb on), .int (nI seen), .int (xd dy)])), ((ad 8), .inr (0, [.ref (ad 9)])), ((ad 9), .inl (cJ, 4, .inr (.inl (xs_rows X)))), (wa, .inl (cJ, N, .inr (.inl (xw_arr (x_cl X f a1 i)))))]) H → va_D (xk_in ([((ad 0), .inr (2, [.ref (ad 1), .ref (ad 2), .ref (ad 3), .ref (ad 4), .ref (ad 6), .ref (ad 8), .ref (ad 10), .int (xb on), .int (nI seen), .int (xd dy)])), ((ad 8), .inr (0, [.ref (ad 9)])), ((ad 9), .inl (cJ, 4, .inr (.inl (xs_rows X)))), (wa, .inl (cJ, N, .inr (.inl (xw_arr f))))])) ([((ad 0), .inr (2, [.ref (ad 1), .ref (ad 2), .ref (ad 3), .ref (ad 4), .ref (ad 6), .ref (ad 8), .ref (ad 10), .int (xb on), .int (nI seen), .int (xd dy)])), ((ad 8), .inr (0, [.ref (ad 9)])), ((ad 9), .inl (cJ, 4, .inr (.inl (xs_rows X)))), (wa, .inl (cJ, N, .inr (.inl (xw_arr (x_cl X f a1 i)))))]) → va_S (xk_in ([((ad 0), .inr (2, [.ref (ad 1), .ref (ad 2), .ref (ad 3), .ref (ad 4), .ref (ad 6), .ref (ad 8), .ref (ad 10), .int (xb on), .int (nI seen), .int (xd dy)])), ((ad 8), .inr (0, [.ref (ad 9)])), ((ad 9), .inl (cJ, 4, .inr (.inl (xs_rows X)))), (wa, .inl (cJ, N, .inr (.inl (xw_arr f))))])) s.heap H locs → lv_has ls 6 [(5, .int (nI i)), (4, .int (x_acc (fun k => xb (x_stale X (f k))) a1 (i - a1))), (0, .ref (ad 0)), (1, .ref wa), (2, .int (nI a1)), (3, .int (nI b1))] → W p l e ({ frames := 3, cells := 0, slots := 0, locals := 68 }) s m ([.ref (ad 0), .ref wa, .int (nI a1), .int (nI b1)]).toArray below meth c H locs 0 0 (MQ below (xk_W D vwCl ([((ad 0), .inr (2, [.ref (ad 1), .ref (ad 2), .ref (ad 3), .ref (ad 4), .ref (ad 6), .ref (ad 8), .ref (ad 10), .int (xb on), .int (nI seen), .int (xd dy)])), ((ad 8), .inr (0, [.ref (ad 9)])), ((ad 9), .inl (cJ, 4, .inr (.inl (xs_rows X)))), (wa, .inl (cJ, N, .inr (.inl (xw_arr f))))]) ([((ad 0), .inr (2, [.ref (ad 1), .ref (ad 2), .ref (ad 3), .ref (ad 4), .ref (ad 6), .ref (ad 8), .ref (ad 10), .int (xb on), .int (nI seen), .int (xd dy)])), ((ad 8), .inr (0, [.ref (ad 9)])), ((ad 9), .inl (cJ, 4, .inr (.inl (xs_rows X)))), (wa, .inl (cJ, N, .inr (.inl (xw_arr (x_cl X f a1 b1)))))]) (some (.int (x_cn X f a1 b1)))) ([.ref (ad 0), .ref wa, .int (nI a1), .int (nI b1)]).toArray s 0 0 (xk_in ([((ad 0), .inr (2, [.ref (ad 1), .ref (ad 2), .ref (ad 3), .ref (ad 4), .ref (ad 6), .ref (ad 8), .ref (ad 10), .int (xb on), .int (nI seen), .int (xd dy)])), ((ad 8), .inr (0, [.ref (ad 9)])), ((ad 9), .inl (cJ, 4, .inr (.inl (xs_rows X)))), (wa, .inl (cJ, N, .inr (.inl (xw_arr f))))]))) (F0 m 6 ls []) := by
    intro n
    induction n with
    | zero =>
      intro i H locs ls hi hn hP hD hS hl
      refine lv_iload hx hb dX2_clean_6 (lv_at hl 0 rfl) ?_
      refine lv_iload_n hx hb dX2_clean_8 rfl (lv_at hl 5 rfl) ?_
      refine lv_icmp_ge (tgt := 46) hx hb dX2_clean_9 (by decide) (fun c_9 => ?_) (fun c_9 => ?_)
      · skip
        refine lv_iload hx hb dX2_clean_46 (lv_at hl 1 rfl) ?_
        exact xk_iretW hx hb hr hlk hP hS (by rw [← hn]; rfl) (by rw [← hn]; rfl) dX2_clean_48
      · skip
        exact absurd (nI_le (a := b1) (b := i) (by omega) (by omega)) c_9
    | succ n ih =>
      intro i H locs ls hi hn hP hD hS hl
      have hfi := hf i
      have hat := x_cl_at X f a1 i
      refine lv_iload hx hb dX2_clean_6 (lv_at hl 0 rfl) ?_
      refine lv_iload_n hx hb dX2_clean_8 rfl (lv_at hl 5 rfl) ?_
      refine lv_icmp_ge (tgt := 46) hx hb dX2_clean_9 (by decide) (fun c_9 => ?_) (fun c_9 => ?_)
      · skip
        exact absurd (xn_le_of (by omega) (by omega) c_9) (by omega)
      · skip
        refine lv_aload_n hx hb dX2_clean_12 rfl (lv_at hl 2 rfl) ?_
        refine lv_aload_n hx hb dX2_clean_13 rfl (lv_at hl 3 rfl) ?_
        refine lv_iload hx hb dX2_clean_14 (lv_at hl 0 rfl) ?_
        refine xa_lald hx hb hK hP 3 1 rfl rfl i rfl (by omega) hN1 dX2_clean_16 ?_
        refine lv_topl (fun y ey => ?_)
        obtain rfl : y = xw_enc (f i) := ey.trans (congrArg xw_enc hat)
        refine xk_callR (va_runV (As := [.long (xw_enc (f i))]) (rest := []) ⟨hx, hb, hml, hown, hts⟩ (k_isStale l D cI cJ cS ad mem reg tal G Q X F on seen dy (f i) (hf i)) (cwV 1 hts gX2_clean_X2_isStale rfl rfl rfl (by decide +kernel) ⟨Nat.le_of_ble_eq_true rfl, Nat.le_of_ble_eq_true rfl⟩) (xk_preVr hK hN hP [0, 1, 2] rfl (ci := 2) rfl 0 rfl) rfl rfl hl.1 rfl (lv_room (Nat.le_of_ble_eq_true rfl)) dX2_clean_17 ⟨Nat.zero_le _, Nat.zero_le _⟩) ?_
        refine lv_if_eq (tgt := 40) hx hb dX2_clean_20 (by decide) (fun c_20 => ?_) (fun c_20 => ?_)
        · skip
          refine lv_iinc (v := (nI (i + 1))) (lv' := [(5, .int (nI (i + 1))), (4, .int (x_acc (fun k => xb (x_stale X (f k))) a1 (i - a1))), (0, .ref (ad 0)), (1, .ref wa), (2, .int (nI a1)), (3, .int (nI b1))]) hx hb dX2_clean_40 hl (k := 0) rfl (nI_1 i) (by decide) rfl (fun ls hl => ?_)
          refine lv_goto (tgt := 6) hx hb dX2_clean_43 (by decide) ?_
          rw [x_cl_f X f (xb_eq c_20)] at hP hD
          have e1 : x_acc (fun k => xb (x_stale X (f k))) a1 (i - a1) = x_acc (fun k => xb (x_stale X (f k))) a1 (i + 1 - a1) := by rw [← x_acc_s (fun k => xb (x_stale X (f k))) hi, c_20, Int32.add_zero]
          rw [e1] at hl
          exact ih (i + 1) H locs ls (by omega) (by omega) hP hD hS (lv_sub hl [0, 1, 2, 3, 4, 5] rfl)
        · skip
          refine lv_aload_n hx hb dX2_clean_23 rfl (lv_at hl 3 rfl) ?_
          refine lv_iload hx hb dX2_clean_24 (lv_at hl 0 rfl) ?_
          refine lv_aload_n hx hb dX2_clean_26 rfl (lv_at hl 3 rfl) ?_
          refine lv_iload hx hb dX2_clean_27 (lv_at hl 0 rfl) ?_
          refine xa_lald hx hb hK hP 3 1 rfl rfl i rfl (by omega) hN1 dX2_clean_29 ?_
          refine lv_topl (fun y ey => ?_)
          obtain rfl : y = xw_enc (f i) := ey.trans (congrArg xw_enc hat)
          refine xk_callR (va_runS (As := [.long (xw_enc (f i))]) (rest := [.int (nI i), .ref wa]) ⟨hx, hb, hml, hown, hts⟩ (k_at l D cI cJ cS (f i) (hf i) ) (va_cwS 1 hts gX2_clean_X3_at rfl rfl rfl (by decide +kernel) ⟨Nat.le_of_ble_eq_true rfl, Nat.le_of_ble_eq_true rfl⟩) (xk_preSr hK hN hP [] rfl) rfl rfl hl.1 rfl (lv_room (Nat.le_of_ble_eq_true rfl)) dX2_clean_30 ⟨Nat.zero_le _, Nat.zero_le _⟩) ?_
          refine xk_callR (va_runS (As := [.int ((f i).1)]) (rest := [.int (nI i), .ref wa]) ⟨hx, hb, hml, hown, hts⟩ (k_ofNumber l D cI cJ cS ((f i).1)) (va_cwS 1 hts gX2_clean_X3_ofNumber rfl rfl rfl (by decide +kernel) ⟨Nat.le_of_ble_eq_true rfl, Nat.le_of_ble_eq_true rfl⟩) (xk_preSr hK hN hP [] rfl) rfl rfl hl.1 rfl (lv_room (Nat.le_of_ble_eq_true rfl)) dX2_clean_33 ⟨Nat.zero_le _, Nat.zero_le _⟩) ?_
          refine xa_last (ws' := [((ad 0), .inr (2, [.ref (ad 1), .ref (ad 2), .ref (ad 3), .ref (ad 4), .ref (ad 6), .ref (ad 8), .ref (ad 10), .int (xb on), .int (nI seen), .int (xd dy)])), ((ad 8), .inr (0, [.ref (ad 9)])), ((ad 9), .inl (cJ, 4, .inr (.inl (xs_rows X)))), (wa, .inl (cJ, N, .inr (.inl (vp_updL (xw_arr (x_cl X f a1 i)) i (xw_enc ((f i).1, none))))))]) hx hb hK hP hD hS 3 1 rfl rfl i rfl (by omega) hN1 dX2_clean_36 rfl (fun H locs hP hD hS => ?_)
          rw [xw_upd, x_cl_t X f hi (xb_ne c_20)] at hP hD
          refine lv_iinc (v := (x_acc (fun k => xb (x_stale X (f k))) a1 (i + 1 - a1))) (lv' := [(4, .int (x_acc (fun k => xb (x_stale X (f k))) a1 (i + 1 - a1))), (5, .int (nI i)), (0, .ref (ad 0)), (1, .ref wa), (2, .int (nI a1)), (3, .int (nI b1))]) hx hb dX2_clean_37 hl (k := 1) rfl (by rw [← x_acc_s (fun k => xb (x_stale X (f k))) hi]; show _ + (1 : Int32) = _ + xb (x_stale X (f i)); rw [xb_ne c_20]; rfl) (by decide) rfl (fun ls hl => ?_)
          refine lv_iinc (v := (nI (i + 1))) (lv' := [(5, .int (nI (i + 1))), (4, .int (x_acc (fun k => xb (x_stale X (f k))) a1 (i + 1 - a1))), (0, .ref (ad 0)), (1, .ref wa), (2, .int (nI a1)), (3, .int (nI b1))]) hx hb dX2_clean_40 hl (k := 1) rfl (nI_1 i) (by decide) rfl (fun ls hl => ?_)
          refine lv_goto (tgt := 6) hx hb dX2_clean_43 (by decide) ?_
          exact ih (i + 1) H locs ls (by omega) (by omega) hP hD hS (lv_sub hl [0, 1, 2, 3, 4, 5] rfl)
  refine lv_iconst (v := 0) hx hb dX2_clean_0 (by decide) ?_
  refine lv_topi (fun y ey => ?_)
  obtain rfl : y = x_acc (fun k => xb (x_stale X (f k))) a1 (a1 - a1) := ey.trans (x_acc_0 _ _)
  refine lv_istore (lv' := [(4, .int (x_acc (fun k => xb (x_stale X (f k))) a1 (a1 - a1))), (0, .ref (ad 0)), (1, .ref wa), (2, .int (nI a1)), (3, .int (nI b1))]) hx hb dX2_clean_1 hl (by decide) rfl (fun ls hl => ?_)
  refine lv_iload_n hx hb dX2_clean_3 rfl (lv_at hl 3 rfl) ?_
  refine lv_istore (lv' := [(5, .int (nI a1)), (4, .int (x_acc (fun k => xb (x_stale X (f k))) a1 (a1 - a1))), (0, .ref (ad 0)), (1, .ref wa), (2, .int (nI a1)), (3, .int (nI b1))]) hx hb dX2_clean_4 hl (by decide) rfl (fun ls hl => ?_)
  refine loop (b1 - a1) a1 s.heap [] ls (Nat.le_refl _) (by omega) ?_ ?_ hS (lv_sub hl [0, 1, 2, 3, 4, 5] rfl)
  · rw [x_cl_0]; exact hP
  · rw [x_cl_0]; exact hD
set_option maxHeartbeats 4000000 in
set_option maxRecDepth 100000 in
theorem k_cleanPage (l : Launch) (D : va_G) (cI cJ cS : ClassId) (ad : Nat → Nat) (mem reg : Nat → xw) (tal : Nat → Int32) (G Q X F : Nat → Bool) (on : Bool) (seen : Nat) (dy : Nat → Bool) (hm : ∀ k, xw_ok (mem k)) (k : Nat) (hk : k < 16) : xk_Wr l yX2_cleanPage wsX2_cleanPage ({ frames := 4, cells := 0, slots := 0, locals := 93 }) D vwCl (xt cI cJ cS) ([((ad 0), .inr (2, [.ref (ad 1), .ref (ad 2), .ref (ad 3), .ref (ad 4), .ref (ad 6), .ref (ad 8), .ref (ad 10), .int (xb on), .int (nI seen), .int (xd dy)])), ((ad 1), .inl (cJ, 256, .inr (.inl (xw_arr mem)))), ((ad 2), .inl (cJ, 8, .inr (.inl (xw_arr reg)))), ((ad 3), .inl (cI, 7, .inl tal)), ((ad 4), .inr (0, [.ref (ad 5)])), ((ad 5), .inl (cJ, 4, .inr (.inl (xs_rows G)))), ((ad 6), .inr (0, [.ref (ad 7)])), ((ad 7), .inl (cJ, 4, .inr (.inl (xs_rows Q)))), ((ad 8), .inr (0, [.ref (ad 9)])), ((ad 9), .inl (cJ, 4, .inr (.inl (xs_rows X)))), ((ad 10), .inr (0, [.ref (ad 11)])), ((ad 11), .inl (cJ, 4, .inr (.inl (xs_rows F))))]) [.ref (ad 0), .int (nI k)] ([((ad 0), .inr (2, [.ref (ad 1), .ref (ad 2), .ref (ad 3), .ref (ad 4), .ref (ad 6), .ref (ad 8), .ref (ad 10), .int (xb on), .int (nI seen), .int (xd dy)])), ((ad 1), .inl (cJ, 256, .inr (.inl (xw_arr (x_cl X mem (16 * k) (16 * k + 16)))))), ((ad 2), .inl (cJ, 8, .inr (.inl (xw_arr reg)))), ((ad 3), .inl (cI, 7, .inl tal)), ((ad 4), .inr (0, [.ref (ad 5)])), ((ad 5), .inl (cJ, 4, .inr (.inl (xs_rows G)))), ((ad 6), .inr (0, [.ref (ad 7)])), ((ad 7), .inl (cJ, 4, .inr (.inl (xs_rows Q)))), ((ad 8), .inr (0, [.ref (ad 9)])), ((ad 9), .inl (cJ, 4, .inr (.inl (xs_rows X)))), ((ad 10), .inr (0, [.ref (ad 11)])), ((ad 11), .inl (cJ, 4, .inr (.inl (xs_rows F))))]) (some (.int (x_cn X mem (16 * k) (16 * k + 16)))) := by
  refine xk_wr (cc := cX2_cleanPage) (maxL := 3) (ret := (some .int)) (by decide) rfl (Nat.le_of_ble_eq_true rfl) (fun p e s m below meth c ls hx hb hr hlk hml hown hts hl hP hK hN hD hS => ?_)
  replace hl : lv_has ls 3 [(0, .ref (ad 0)), (1, .int (nI k))] := hl
  have hiX2 : ∀ w ∈ u_ws RX2 TX2 10, w ∈ wsX2_cleanPage := by decide +kernel
  refine lv_iload_n hx hb dX2_cleanPage_0 rfl (lv_at hl 1 rfl) ?_
  refine lv_bipush (v := 16) hx hb dX2_cleanPage_1 (by decide) ?_
  refine lv_imul hx hb dX2_cleanPage_3 ?_
  refine lv_topi (fun y ey => ?_)
  obtain rfl : y = nI (16 * k) := ey.trans (by rw [show (16 : Int32) = nI 16 from rfl, pk_mul, Nat.mul_comm])
  refine lv_istore_n (lv' := [(2, .int (nI (16 * k))), (0, .ref (ad 0)), (1, .int (nI k))]) hx hb dX2_cleanPage_4 rfl hl (by decide) rfl (fun ls hl => ?_)
  refine lv_aload_n hx hb dX2_cleanPage_5 rfl (lv_at hl 1 rfl) ?_
  refine lv_aload_n hx hb dX2_cleanPage_6 rfl (lv_at hl 1 rfl) ?_
  refine va_get (D := D) (ci := 2) (v := .ref (ad 1)) (C := RX2) (T := TX2) (N := 10) hx hb hts hiX2 hown hK hP 0 rfl rfl 0 (by decide) (hts (.fieldLink RX2 9 "PointerSweep$State" "cells" "[J") (by decide +kernel)) (fun _ h9 => h9) rfl dX2_cleanPage_7 ?_
  refine lv_iload_n hx hb dX2_cleanPage_10 rfl (lv_at hl 0 rfl) ?_
  refine lv_iload_n hx hb dX2_cleanPage_11 rfl (lv_at hl 0 rfl) ?_
  refine lv_bipush (v := 16) hx hb dX2_cleanPage_12 (by decide) ?_
  refine lv_iadd hx hb dX2_cleanPage_14 ?_
  refine lv_topi (fun y ey => ?_)
  obtain rfl : y = nI (16 * k + 16) := ey.trans (nI_add (16 * k) 16)
  refine xk_callW (ws' := [((ad 0), .inr (2, [.ref (ad 1), .ref (ad 2), .ref (ad 3), .ref (ad 4), .ref (ad 6), .ref (ad 8), .ref (ad 10), .int (xb on), .int (nI seen), .int (xd dy)])), ((ad 1), .inl (cJ, 256, .inr (.inl (xw_arr (x_cl X mem (16 * k) (16 * k + 16)))))), ((ad 2), .inl (cJ, 8, .inr (.inl (xw_arr reg)))), ((ad 3), .inl (cI, 7, .inl tal)), ((ad 4), .inr (0, [.ref (ad 5)])), ((ad 5), .inl (cJ, 4, .inr (.inl (xs_rows G)))), ((ad 6), .inr (0, [.ref (ad 7)])), ((ad 7), .inl (cJ, 4, .inr (.inl (xs_rows Q)))), ((ad 8), .inr (0, [.ref (ad 9)])), ((ad 9), .inl (cJ, 4, .inr (.inl (xs_rows X)))), ((ad 10), .inr (0, [.ref (ad 11)])), ((ad 11), .inl (cJ, 4, .inr (.inl (xs_rows F))))]) (va_runV (As := [.ref (ad 1), .int (nI (16 * k)), .int (nI (16 * k + 16))]) (rest := []) ⟨hx, hb, hml, hown, hts⟩ (k_clean l D cI cJ cS ad mem reg tal G Q X F on seen dy (ad 1) 256 (by decide) mem hm (16 * k) (16 * k + 16) (by omega) (by omega)) (cwV 3 hts gX2_cleanPage_X2_clean rfl rfl rfl (by decide +kernel) ⟨Nat.le_of_ble_eq_true rfl, Nat.le_of_ble_eq_true rfl⟩) (xk_preVw hK hN hP hD [0, 8, 9, 1] rfl rfl (ci := 2) rfl 0 rfl) rfl rfl hl.1 rfl (lv_room (Nat.le_of_ble_eq_true rfl)) dX2_cleanPage_15 ⟨Nat.zero_le _, Nat.zero_le _⟩) hP hD hS [0, 8, 9, 1] rfl rfl rfl (fun H locs hP hD hS => ?_)
  exact xk_iretW hx hb hr hlk hP hS rfl rfl dX2_cleanPage_18
end
section
set_option maxHeartbeats 4000000 in
set_option maxRecDepth 100000 in
theorem k_lookAtNextPages (l : Launch) (D : va_G) (cI cJ cS : ClassId) (ad : Nat → Nat) (mem reg : Nat → xw) (tal : Nat → Int32) (G Q X F : Nat → Bool) (on : Bool) (seen : Nat) (dy : Nat → Bool) (hm : ∀ k, xw_ok (mem k)) (hse : seen ≤ 16) (k : Nat) (hk1 : 1 ≤ k) (hk : k ≤ 16) : xk_Wr l yX2_lookAtNextPages wsX2_lookAtNextPages ({ frames := 5, cells := 0, slots := 0, locals := 115 }) D vwCl (xt cI cJ cS) ([((ad 0), .inr (2, [.ref (ad 1), .ref (ad 2), .ref (ad 3), .ref (ad 4), .ref (ad 6), .ref (ad 8), .ref (ad 10), .int (xb on), .int (nI seen), .int (xd dy)])), ((ad 1), .inl (cJ, 256, .inr (.inl (xw_arr mem)))), ((ad 2), .inl (cJ, 8, .inr (.inl (xw_arr reg)))), ((ad 3), .inl (cI, 7, .inl tal)), ((ad 4), .inr (0, [.ref (ad 5)])), ((ad 5), .inl (cJ, 4, .inr (.inl (xs_rows G)))), ((ad 6), .inr (0, [.ref (ad 7)])), ((ad 7), .inl (cJ, 4, .inr (.inl (xs_rows Q)))), ((ad 8), .inr (0, [.ref (ad 9)])), ((ad 9), .inl (cJ, 4, .inr (.inl (xs_rows X)))), ((ad 10), .inr (0, [.ref (ad 11)])), ((ad 11), .inl (cJ, 4, .inr (.inl (xs_rows F))))]) [.ref (ad 0), .int (nI k)] ([((ad 0), .inr (2, [.ref (ad 1), .ref (ad 2), .ref (ad 3), .ref (ad 4), .ref (ad 6), .ref (ad 8), .ref (ad 10), .int (xb on), .int (nI (x_stop seen k)), .int (xd dy)])), ((ad 1), .inl (cJ, 256, .inr (.inl (xw_arr (x_cl X mem (16 * seen) (16 * x_stop seen k)))))), ((ad 2), .inl (cJ, 8, .inr (.inl (xw_arr reg)))), ((ad 3), .inl (cI, 7, .inl (x_pt X mem seen k tal))), ((ad 4), .inr (0, [.ref (ad 5)])), ((ad 5), .inl (cJ, 4, .inr (.inl (xs_rows G)))), ((ad 6), .inr (0, [.ref (ad 7)])), ((ad 7), .inl (cJ, 4, .inr (.inl (xs_rows Q)))), ((ad 8), .inr (0, [.ref (ad 9)])), ((ad 9), .inl (cJ, 4, .inr (.inl (xs_rows X)))), ((ad 10), .inr (0, [.ref (ad 11)])), ((ad 11), .inl (cJ, 4, .inr (.inl (xs_rows F))))]) (some (.int (x_cn X mem (16 * seen) (16 * x_stop seen k)))) := by
  refine xk_wr (cc := cX2_lookAtNextPages) (maxL := 5) (ret := (some .int)) (by decide) rfl (Nat.le_of_ble_eq_true rfl) (fun p e s m below meth c ls hx hb hr hlk hml hown hts hl hP hK hN hD hS => ?_)
  replace hl : lv_has ls 5 [(0, .ref (ad 0)), (1, .int (nI k))] := hl
  have hiX2 : ∀ w ∈ u_ws RX2 TX2 10, w ∈ wsX2_lookAtNextPages := by decide +kernel
  have hst : x_stop seen k ≤ 16 := Nat.min_le_left _ _
  have hst2 : seen ≤ x_stop seen k := by unfold x_stop; omega
  have loop : ∀ (n i : Nat) (H : Heap) (locs : List Loc) (ls : Array Slot), seen ≤ i → i + n = x_stop seen k → va_P D vwCl ([((ad 0), .inr (2, [.ref (ad 1), .ref (ad 2), .ref (ad 3), .ref (ad 4), .ref (ad 6), .ref (ad 8), .ref (ad 10), .int (xb on), .int (nI seen), .int (xd dy)])), ((ad 1), .inl (cJ, 256, .inr (.inl (xw_arr (x_cl X mem (16 * seen) (16 * i)))))), ((ad 2), .inl (cJ, 8, .inr (.inl (xw_arr reg)))), ((ad 3), .inl (cI, 7, .inl tal)), ((ad 4), .inr (0, [.ref (ad 5)])), ((ad 5), .inl (cJ, 4, .inr (.inl (xs_rows G)))), ((ad 6), .inr (0, [.ref (ad 7)])), ((ad 7), .inl (cJ, 4, .inr (.inl (xs_rows Q)))), ((ad 8), .inr (0, [.ref (ad 9)])), ((ad 9), .inl (cJ, 4, .inr (.inl (xs_rows X)))), ((ad 10), .inr (0, [.ref (ad 11)])), ((ad 11), .inl (cJ, 4, .inr (.inl (xs_rows F))))]) H → va_D (xk_in ([((ad 0), .inr (2, [.ref (ad 1), .ref (ad 2), .ref (ad 3), .ref (ad 4), .ref (ad 6), .ref (ad 8), .ref (ad 10), .int (xb on), .int (nI seen), .int (xd dy)])), ((ad 1), .inl (cJ, 256, .inr (.inl (xw_arr mem)))), ((ad 2), .inl (cJ, 8, .inr (.inl (xw_arr reg)))), ((ad 3), .inl (cI, 7, .inl tal)), ((ad 4), .inr (0, [.ref (ad 5)])), ((ad 5), .inl (cJ, 4, .inr (.inl (xs_rows G)))), ((ad 6), .inr (0, [.ref (ad 7)])), ((ad 7), .inl (cJ, 4, .inr (.inl (xs_rows Q)))), ((ad 8), .inr (0, [.ref (ad 9)])), ((ad 9), .inl (cJ, 4, .inr (.inl (xs_rows X)))), ((ad 10), .inr (0, [.ref (ad 11)])), ((ad 11), .inl (cJ, 4, .inr (.inl (xs_rows F))))])) ([((ad 0), .inr (2, [.ref (ad 1), .ref (ad 2), .ref (ad 3), .ref (ad 4), .ref (ad 6), .ref (ad 8), .ref (ad 10), .int (xb on), .int (nI seen), .int (xd dy)])), ((ad 1), .inl (cJ, 256, .inr (.inl (xw_arr (x_cl X mem (16 * seen) (16 * i)))))), ((ad 2), .inl (cJ, 8, .inr (.inl (xw_arr reg)))), ((ad 3), .inl (cI, 7, .inl tal)), ((ad 4), .inr (0, [.ref (ad 5)])), ((ad 5), .inl (cJ, 4, .inr (.inl (xs_rows G)))), ((ad 6), .inr (0, [.ref (ad 7)])), ((ad 7), .inl (cJ, 4, .inr (.inl (xs_rows Q)))), ((ad 8), .inr (0, [.ref (ad 9)])), ((ad 9), .inl (cJ, 4, .inr (.inl (xs_rows X)))), ((ad 10), .inr (0, [.ref (ad 11)])), ((ad 11), .inl (cJ, 4, .inr (.inl (xs_rows F))))]) → va_S (xk_in ([((ad 0), .inr (2, [.ref (ad 1), .ref (ad 2), .ref (ad 3), .ref (ad 4), .ref (ad 6), .ref (ad 8), .ref (ad 10), .int (xb on), .int (nI seen), .int (xd dy)])), ((ad 1), .inl (cJ, 256, .inr (.inl (xw_arr mem)))), ((ad 2), .inl (cJ, 8, .inr (.inl (xw_arr reg)))), ((ad 3), .inl (cI, 7, .inl tal)), ((ad 4), .inr (0, [.ref (ad 5)])), ((ad 5), .inl (cJ, 4, .inr (.inl (xs_rows G)))), ((ad 6), .inr (0, [.ref (ad 7)])), ((ad 7), .inl (cJ, 4, .inr (.inl (xs_rows Q)))), ((ad 8), .inr (0, [.ref (ad 9)])), ((ad 9), .inl (cJ, 4, .inr (.inl (xs_rows X)))), ((ad 10), .inr (0, [.ref (ad 11)])), ((ad 11), .inl (cJ, 4, .inr (.inl (xs_rows F))))])) s.heap H locs → lv_has ls 5 [(4, .int (nI i)), (3, .int (x_cn X mem (16 * seen) (16 * i))), (2, .int (nI (x_stop seen k))), (0, .ref (ad 0)), (1, .int (nI k))] → W p l e ({ frames := 5, cells := 0, slots := 0, locals := 115 }) s m ([.ref (ad 0), .int (nI k)]).toArray below meth c H locs 0 0 (MQ below (xk_W D vwCl ([((ad 0), .inr (2, [.ref (ad 1), .ref (ad 2), .ref (ad 3), .ref (ad 4), .ref (ad 6), .ref (ad 8), .ref (ad 10), .int (xb on), .int (nI seen), .int (xd dy)])), ((ad 1), .inl (cJ, 256, .inr (.inl (xw_arr mem)))), ((ad 2), .inl (cJ, 8, .inr (.inl (xw_arr reg)))), ((ad 3), .inl (cI, 7, .inl tal)), ((ad 4), .inr (0, [.ref (ad 5)])), ((ad 5), .inl (cJ, 4, .inr (.inl (xs_rows G)))), ((ad 6), .inr (0, [.ref (ad 7)])), ((ad 7), .inl (cJ, 4, .inr (.inl (xs_rows Q)))), ((ad 8), .inr (0, [.ref (ad 9)])), ((ad 9), .inl (cJ, 4, .inr (.inl (xs_rows X)))), ((ad 10), .inr (0, [.ref (ad 11)])), ((ad 11), .inl (cJ, 4, .inr (.inl (xs_rows F))))]) ([((ad 0), .inr (2, [.ref (ad 1), .ref (ad 2), .ref (ad 3), .ref (ad 4), .ref (ad 6), .ref (ad 8), .ref (ad 10), .int (xb on), .int (nI (x_stop seen k)), .int (xd dy)])), ((ad 1), .inl (cJ, 256, .inr (.inl (xw_arr (x_cl X mem (16 * seen) (16 * x_stop seen k)))))), ((ad 2), .inl (cJ, 8, .inr (.inl (xw_arr reg)))), ((ad 3), .inl (cI, 7, .inl (x_pt X mem seen k tal))), ((ad 4), .inr (0, [.ref (ad 5)])), ((ad 5), .inl (cJ, 4, .inr (.inl (xs_rows G)))), ((ad 6), .inr (0, [.ref (ad 7)])), ((ad 7), .inl (cJ, 4, .inr (.inl (xs_rows Q)))), ((ad 8), .inr (0, [.ref (ad 9)])), ((ad 9), .inl (cJ, 4, .inr (.inl (xs_rows X)))), ((ad 10), .inr (0, [.ref (ad 11)])), ((ad 11), .inl (cJ, 4, .inr (.inl (xs_rows F))))]) (some (.int (x_cn X mem (16 * seen) (16 * x_stop seen k))))) ([.ref (ad 0), .int (nI k)]).toArray s 0 0 (xk_in ([((ad 0), .inr (2, [.ref (ad 1), .ref (ad 2), .ref (ad 3), .ref (ad 4), .ref (ad 6), .ref (ad 8), .ref (ad 10), .int (xb on), .int (nI seen), .int (xd dy)])), ((ad 1), .inl (cJ, 256, .inr (.inl (xw_arr mem)))), ((ad 2), .inl (cJ, 8, .inr (.inl (xw_arr reg)))), ((ad 3), .inl (cI, 7, .inl tal)), ((ad 4), .inr (0, [.ref (ad 5)])), ((ad 5), .inl (cJ, 4, .inr (.inl (xs_rows G)))), ((ad 6), .inr (0, [.ref (ad 7)])), ((ad 7), .inl (cJ, 4, .inr (.inl (xs_rows Q)))), ((ad 8), .inr (0, [.ref (ad 9)])), ((ad 9), .inl (cJ, 4, .inr (.inl (xs_rows X)))), ((ad 10), .inr (0, [.ref (ad 11)])), ((ad 11), .inl (cJ, 4, .inr (.inl (xs_rows F))))]))) (F0 m 20 ls []) := by
    intro n
    induction n with
    | zero =>
      intro i H locs ls hi hn hP hD hS hl
      have hie : i = x_stop seen k := hn
      refine lv_iload hx hb dX2_lookAtNextPages_20 (lv_at hl 0 rfl) ?_
      refine lv_iload_n hx hb dX2_lookAtNextPages_22 rfl (lv_at hl 2 rfl) ?_
      refine lv_icmp_ge (tgt := 41) hx hb dX2_lookAtNextPages_23 (by decide) (fun c_23 => ?_) (fun c_23 => ?_)
      · skip
        refine lv_aload_n hx hb dX2_lookAtNextPages_41 rfl (lv_at hl 3 rfl) ?_
        refine va_get (D := D) (ci := 2) (v := .ref (ad 3)) (C := RX2) (T := TX2) (N := 10) hx hb hts hiX2 hown hK hP 0 rfl rfl 2 (by decide) (hts (.fieldLink RX2 18 "PointerSweep$State" "tallies" "[I") (by decide +kernel)) (fun _ h9 => h9) rfl dX2_lookAtNextPages_42 ?_
        refine lv_iconst (v := 4) hx hb dX2_lookAtNextPages_45 (by decide) ?_
        refine lv_dup2_11 hx hb dX2_lookAtNextPages_46 rfl rfl ?_
        refine xa_iald hx hb hK hP 3 0 rfl rfl 4 rfl (by decide) (by decide) dX2_lookAtNextPages_47 ?_
        refine lv_iload_n hx hb dX2_lookAtNextPages_48 rfl (lv_at hl 2 rfl) ?_
        refine lv_aload_n hx hb dX2_lookAtNextPages_49 rfl (lv_at hl 3 rfl) ?_
        refine va_get (D := D) (ci := 2) (v := .int (nI seen)) (C := RX2) (T := TX2) (N := 10) hx hb hts hiX2 hown hK hP 0 rfl rfl 8 (by decide) (hts (.fieldLink RX2 42 "PointerSweep$State" "seenPages" "I") (by decide +kernel)) (fun _ h9 => h9) rfl dX2_lookAtNextPages_50 ?_
        refine lv_isub hx hb dX2_lookAtNextPages_53 ?_
        refine lv_iadd hx hb dX2_lookAtNextPages_54 ?_
        refine xa_iast (ws' := [((ad 0), .inr (2, [.ref (ad 1), .ref (ad 2), .ref (ad 3), .ref (ad 4), .ref (ad 6), .ref (ad 8), .ref (ad 10), .int (xb on), .int (nI seen), .int (xd dy)])), ((ad 1), .inl (cJ, 256, .inr (.inl (xw_arr (x_cl X mem (16 * seen) (16 * i)))))), ((ad 2), .inl (cJ, 8, .inr (.inl (xw_arr reg)))), ((ad 3), .inl (cI, 7, .inl (upd tal 4 ((tal 4) + ((nI (x_stop seen k)) - (nI seen)))))), ((ad 4), .inr (0, [.ref (ad 5)])), ((ad 5), .inl (cJ, 4, .inr (.inl (xs_rows G)))), ((ad 6), .inr (0, [.ref (ad 7)])), ((ad 7), .inl (cJ, 4, .inr (.inl (xs_rows Q)))), ((ad 8), .inr (0, [.ref (ad 9)])), ((ad 9), .inl (cJ, 4, .inr (.inl (xs_rows X)))), ((ad 10), .inr (0, [.ref (ad 11)])), ((ad 11), .inl (cJ, 4, .inr (.inl (xs_rows F))))]) hx hb hK hP hD hS 3 0 rfl rfl 4 rfl (by decide) (by decide) dX2_lookAtNextPages_55 rfl (fun H locs hP hD hS => ?_)
        refine lv_aload_n hx hb dX2_lookAtNextPages_56 rfl (lv_at hl 3 rfl) ?_
        refine va_get (D := D) (ci := 2) (v := .ref (ad 3)) (C := RX2) (T := TX2) (N := 10) hx hb hts hiX2 hown hK hP 0 rfl rfl 2 (by decide) (hts (.fieldLink RX2 18 "PointerSweep$State" "tallies" "[I") (by decide +kernel)) (fun _ h9 => h9) rfl dX2_lookAtNextPages_57 ?_
        refine lv_iconst (v := 0) hx hb dX2_lookAtNextPages_60 (by decide) ?_
        refine lv_dup2_11 hx hb dX2_lookAtNextPages_61 rfl rfl ?_
        refine xa_iald hx hb hK hP 3 0 rfl rfl 0 rfl (by decide) (by decide) dX2_lookAtNextPages_62 ?_
        refine lv_iload_n hx hb dX2_lookAtNextPages_63 rfl (lv_at hl 1 rfl) ?_
        refine lv_iadd hx hb dX2_lookAtNextPages_64 ?_
        refine xa_iast (ws' := [((ad 0), .inr (2, [.ref (ad 1), .ref (ad 2), .ref (ad 3), .ref (ad 4), .ref (ad 6), .ref (ad 8), .ref (ad 10), .int (xb on), .int (nI seen), .int (xd dy)])), ((ad 1), .inl (cJ, 256, .inr (.inl (xw_arr (x_cl X mem (16 * seen) (16 * i)))))), ((ad 2), .inl (cJ, 8, .inr (.inl (xw_arr reg)))), ((ad 3), .inl (cI, 7, .inl (upd (upd tal 4 ((tal 4) + ((nI (x_stop seen k)) - (nI seen)))) 0 (((upd tal 4 ((tal 4) + ((nI (x_stop seen k)) - (nI seen)))) 0) + (x_cn X mem (16 * seen) (16 * i)))))), ((ad 4), .inr (0, [.ref (ad 5)])), ((ad 5), .inl (cJ, 4, .inr (.inl (xs_rows G)))), ((ad 6), .inr (0, [.ref (ad 7)])), ((ad 7), .inl (cJ, 4, .inr (.inl (xs_rows Q)))), ((ad 8), .inr (0, [.ref (ad 9)])), ((ad 9), .inl (cJ, 4, .inr (.inl (xs_rows X)))), ((ad 10), .inr (0, [.ref (ad 11)])), ((ad 11), .inl (cJ, 4, .inr (.inl (xs_rows F))))]) hx hb hK hP hD hS 3 0 rfl rfl 0 rfl (by decide) (by decide) dX2_lookAtNextPages_65 rfl (fun H locs hP hD hS => ?_)
        refine lv_aload_n hx hb dX2_lookAtNextPages_66 rfl (lv_at hl 3 rfl) ?_
        refine lv_iload_n hx hb dX2_lookAtNextPages_67 rfl (lv_at hl 2 rfl) ?_
        refine xa_put (ci := 2) (v := .int (nI (x_stop seen k))) (ty := .int) (C := RX2) (T := TX2) (N := 10) (ws' := [((ad 0), .inr (2, [.ref (ad 1), .ref (ad 2), .ref (ad 3), .ref (ad 4), .ref (ad 6), .ref (ad 8), .ref (ad 10), .int (xb on), .int (nI (x_stop seen k)), .int (xd dy)])), ((ad 1), .inl (cJ, 256, .inr (.inl (xw_arr (x_cl X mem (16 * seen) (16 * i)))))), ((ad 2), .inl (cJ, 8, .inr (.inl (xw_arr reg)))), ((ad 3), .inl (cI, 7, .inl (upd (upd tal 4 ((tal 4) + ((nI (x_stop seen k)) - (nI seen)))) 0 (((upd tal 4 ((tal 4) + ((nI (x_stop seen k)) - (nI seen)))) 0) + (x_cn X mem (16 * seen) (16 * i)))))), ((ad 4), .inr (0, [.ref (ad 5)])), ((ad 5), .inl (cJ, 4, .inr (.inl (xs_rows G)))), ((ad 6), .inr (0, [.ref (ad 7)])), ((ad 7), .inl (cJ, 4, .inr (.inl (xs_rows Q)))), ((ad 8), .inr (0, [.ref (ad 9)])), ((ad 9), .inl (cJ, 4, .inr (.inl (xs_rows X)))), ((ad 10), .inr (0, [.ref (ad 11)])), ((ad 11), .inl (cJ, 4, .inr (.inl (xs_rows F))))]) hx hb hts hiX2 tyX2 tyX2_ok nmX2 hown hK hP hD hS 0 rfl rfl 8 (by decide) (hts (.fieldLink RX2 42 "PointerSweep$State" "seenPages" "I") (by decide +kernel)) (fun _ h9 => h9) rfl (by decide +kernel) rfl rfl (Nat.le_of_ble_eq_true rfl) dX2_lookAtNextPages_68 rfl (fun H locs hP hD hS => ?_)
        refine lv_iload_n hx hb dX2_lookAtNextPages_71 rfl (lv_at hl 1 rfl) ?_
        exact xk_iretW hx hb hr hlk hP hS (by rw [hie]) (by rw [hie]; rfl) dX2_lookAtNextPages_72
      · skip
        exact absurd (nI_le (a := x_stop seen k) (b := i) (by omega) (by omega)) c_23
    | succ n ih =>
      intro i H locs ls hi hn hP hD hS hl
      refine lv_iload hx hb dX2_lookAtNextPages_20 (lv_at hl 0 rfl) ?_
      refine lv_iload_n hx hb dX2_lookAtNextPages_22 rfl (lv_at hl 2 rfl) ?_
      refine lv_icmp_ge (tgt := 41) hx hb dX2_lookAtNextPages_23 (by decide) (fun c_23 => ?_) (fun c_23 => ?_)
      · skip
        exact absurd (xn_le_of (by omega) (by omega) c_23) (by omega)
      · skip
        refine lv_iload_n hx hb dX2_lookAtNextPages_26 rfl (lv_at hl 1 rfl) ?_
        refine lv_aload_n hx hb dX2_lookAtNextPages_27 rfl (lv_at hl 3 rfl) ?_
        refine lv_iload hx hb dX2_lookAtNextPages_28 (lv_at hl 0 rfl) ?_
        refine xk_callW (ws' := [((ad 0), .inr (2, [.ref (ad 1), .ref (ad 2), .ref (ad 3), .ref (ad 4), .ref (ad 6), .ref (ad 8), .ref (ad 10), .int (xb on), .int (nI seen), .int (xd dy)])), ((ad 1), .inl (cJ, 256, .inr (.inl (xw_arr (x_cl X (x_cl X mem (16 * seen) (16 * i)) (16 * i) (16 * i + 16)))))), ((ad 2), .inl (cJ, 8, .inr (.inl (xw_arr reg)))), ((ad 3), .inl (cI, 7, .inl tal)), ((ad 4), .inr (0, [.ref (ad 5)])), ((ad 5), .inl (cJ, 4, .inr (.inl (xs_rows G)))), ((ad 6), .inr (0, [.ref (ad 7)])), ((ad 7), .inl (cJ, 4, .inr (.inl (xs_rows Q)))), ((ad 8), .inr (0, [.ref (ad 9)])), ((ad 9), .inl (cJ, 4, .inr (.inl (xs_rows X)))), ((ad 10), .inr (0, [.ref (ad 11)])), ((ad 11), .inl (cJ, 4, .inr (.inl (xs_rows F))))]) (va_runV (As := [.int (nI i)]) (rest := [.int (x_cn X mem (16 * seen) (16 * i))]) ⟨hx, hb, hml, hown, hts⟩ (k_cleanPage l D cI cJ cS ad (x_cl X mem (16 * seen) (16 * i)) reg tal G Q X F on seen dy (x_cl_ok hm _ _) i (by omega)) (cwV 1 hts gX2_lookAtNextPages_X2_cleanPage rfl rfl rfl (by decide +kernel) ⟨Nat.le_of_ble_eq_true rfl, Nat.le_of_ble_eq_true rfl⟩) (xk_preVw hK hN hP hD [0, 1, 2, 3, 4, 5, 6, 7, 8, 9, 10, 11] rfl rfl (ci := 2) rfl 0 rfl) rfl rfl hl.1 rfl (lv_room (Nat.le_of_ble_eq_true rfl)) dX2_lookAtNextPages_30 ⟨Nat.zero_le _, Nat.zero_le _⟩) hP hD hS [0, 1, 2, 3, 4, 5, 6, 7, 8, 9, 10, 11] rfl rfl rfl (fun H locs hP hD hS => ?_)
        refine lv_iadd hx hb dX2_lookAtNextPages_33 ?_
        refine lv_topi (fun y ey => ?_)
        obtain rfl : y = x_cn X mem (16 * seen) (16 * (i + 1)) := ey.trans (by rw [x_cn_app X mem (by omega) (by omega)]; rfl)
        refine lv_istore_n (lv' := [(3, .int (x_cn X mem (16 * seen) (16 * (i + 1)))), (4, .int (nI i)), (2, .int (nI (x_stop seen k))), (0, .ref (ad 0)), (1, .int (nI k))]) hx hb dX2_lookAtNextPages_34 rfl hl (by decide) rfl (fun ls hl => ?_)
        refine lv_iinc (v := (nI (i + 1))) (lv' := [(4, .int (nI (i + 1))), (3, .int (x_cn X mem (16 * seen) (16 * (i + 1)))), (2, .int (nI (x_stop seen k))), (0, .ref (ad 0)), (1, .int (nI k))]) hx hb dX2_lookAtNextPages_35 hl (k := 1) rfl (nI_1 i) (by decide) rfl (fun ls hl => ?_)
        refine lv_goto (tgt := 20) hx hb dX2_lookAtNextPages_38 (by decide) ?_
        rw [x_cl_app X mem (by omega) (by omega)] at hP hD
        exact ih (i + 1) H locs ls (by omega) (by omega) hP hD hS (lv_sub hl [0, 1, 2, 3, 4] rfl)
  refine lv_bipush (v := 16) hx hb dX2_lookAtNextPages_0 (by decide) ?_
  refine lv_aload_n hx hb dX2_lookAtNextPages_2 rfl (lv_at hl 0 rfl) ?_
  refine va_get (D := D) (ci := 2) (v := .int (nI seen)) (C := RX2) (T := TX2) (N := 10) hx hb hts hiX2 hown hK hP 0 rfl rfl 8 (by decide) (hts (.fieldLink RX2 42 "PointerSweep$State" "seenPages" "I") (by decide +kernel)) (fun _ h9 => h9) rfl dX2_lookAtNextPages_3 ?_
  refine lv_iload_n hx hb dX2_lookAtNextPages_6 rfl (lv_at hl 1 rfl) ?_
  refine lv_iadd hx hb dX2_lookAtNextPages_7 ?_
  refine va_mmin hx hb (hml.trans hl.1.symm) hown (hts (.methodLink RX2 115 Lib.Math.min.name) (by decide +kernel)) (hts (.static Lib.Math.min.name) (by decide +kernel)) (hts (.initialized "java/lang/Math") (by decide +kernel)) (hts (.code Lib.Math.min.name Lib.Math.min.code 2 (some .int)) (by decide +kernel)) (Nat.le_of_ble_eq_true rfl) (Nat.le_of_ble_eq_true rfl) (Nat.zero_le _) (Nat.zero_le _) dX2_lookAtNextPages_8 ?_
  refine lv_topi (fun y ey => ?_)
  obtain rfl : y = nI (x_stop seen k) := ey.trans (x_stop_min hse hk)
  refine lv_istore_n (lv' := [(2, .int (nI (x_stop seen k))), (0, .ref (ad 0)), (1, .int (nI k))]) hx hb dX2_lookAtNextPages_11 rfl hl (by decide) rfl (fun ls hl => ?_)
  refine lv_iconst (v := 0) hx hb dX2_lookAtNextPages_12 (by decide) ?_
  refine lv_topi (fun y ey => ?_)
  obtain rfl : y = x_cn X mem (16 * seen) (16 * seen) := ey.trans (x_acc_0 _ _)
  refine lv_istore_n (lv' := [(3, .int (x_cn X mem (16 * seen) (16 * seen))), (2, .int (nI (x_stop seen k))), (0, .ref (ad 0)), (1, .int (nI k))]) hx hb dX2_lookAtNextPages_13 rfl hl (by decide) rfl (fun ls hl => ?_)
  refine lv_aload_n hx hb dX2_lookAtNextPages_14 rfl (lv_at hl 2 rfl) ?_
  refine va_get (D := D) (ci := 2) (v := .int (nI seen)) (C := RX2) (T := TX2) (N := 10) hx hb hts hiX2 hown hK hP 0 rfl rfl 8 (by decide) (hts (.fieldLink RX2 42 "PointerSweep$State" "seenPages" "I") (by decide +kernel)) (fun _ h9 => h9) rfl dX2_lookAtNextPages_15 ?_
  refine lv_istore (lv' := [(4, .int (nI seen)), (3, .int (x_cn X mem (16 * seen) (16 * seen))), (2, .int (nI (x_stop seen k))), (0, .ref (ad 0)), (1, .int (nI k))]) hx hb dX2_lookAtNextPages_18 hl (by decide) rfl (fun ls hl => ?_)
  refine loop (x_stop seen k - seen) seen s.heap [] ls (Nat.le_refl _) (by omega) ?_ ?_ hS (lv_sub hl [0, 1, 2, 3, 4] rfl)
  · rw [x_cl_0]; exact hP
  · rw [x_cl_0]; exact hD
set_option maxHeartbeats 4000000 in
set_option maxRecDepth 100000 in
theorem k_finishSweep (l : Launch) (D : va_G) (cI cJ cS : ClassId) (ad : Nat → Nat) (mem reg : Nat → xw) (tal : Nat → Int32) (G Q X F : Nat → Bool) (on : Bool) (seen : Nat) (dy : Nat → Bool) (hm : ∀ k, xw_ok (mem k)) (hg : ∀ k, xw_ok (reg k)) : xk_Wr l yX2_finishSweep wsX2_finishSweep ({ frames := 5, cells := 0, slots := 0, locals := 115 }) D vwCl (xt cI cJ cS) ([((ad 0), .inr (2, [.ref (ad 1), .ref (ad 2), .ref (ad 3), .ref (ad 4), .ref (ad 6), .ref (ad 8), .ref (ad 10), .int (xb on), .int (nI seen), .int (xd dy)])), ((ad 1), .inl (cJ, 256, .inr (.inl (xw_arr mem)))), ((ad 2), .inl (cJ, 8, .inr (.inl (xw_arr reg)))), ((ad 3), .inl (cI, 7, .inl tal)), ((ad 4), .inr (0, [.ref (ad 5)])), ((ad 5), .inl (cJ, 4, .inr (.inl (xs_rows G)))), ((ad 6), .inr (0, [.ref (ad 7)])), ((ad 7), .inl (cJ, 4, .inr (.inl (xs_rows Q)))), ((ad 8), .inr (0, [.ref (ad 9)])), ((ad 9), .inl (cJ, 4, .inr (.inl (xs_rows X)))), ((ad 10), .inr (0, [.ref (ad 11)])), ((ad 11), .inl (cJ, 4, .inr (.inl (xs_rows F))))]) [.ref (ad 0)] ([((ad 0), .inr (2, [.ref (ad 1), .ref (ad 2), .ref (ad 3), .ref (ad 4), .ref (ad 6), .ref (ad 8), .ref (ad 10), .int (xb false), .int (nI 0), .int (xd (fun _ => false))])), ((ad 1), .inl (cJ, 256, .inr (.inl (xw_arr (x_dm X dy mem 16))))), ((ad 2), .inl (cJ, 8, .inr (.inl (xw_arr (x_cl X reg 0 8))))), ((ad 3), .inl (cI, 7, .inl (x_et X dy mem reg tal))), ((ad 4), .inr (0, [.ref (ad 5)])), ((ad 5), .inl (cJ, 4, .inr (.inl (xs_rows G)))), ((ad 6), .inr (0, [.ref (ad 7)])), ((ad 7), .inl (cJ, 4, .inr (.inl (xs_rows (fun i => Q i && !X i))))), ((ad 8), .inr (0, [.ref (ad 9)])), ((ad 9), .inl (cJ, 4, .inr (.inl (xs_rows (fun i => X i && !X i))))), ((ad 10), .inr (0, [.ref (ad 11)])), ((ad 11), .inl (cJ, 4, .inr (.inl (xs_rows F))))]) (some (.int (nI (xs_w X 0 256)))) := by
  refine xk_wr (cc := cX2_finishSweep) (maxL := 2) (ret := (some .int)) (by decide) rfl (Nat.le_of_ble_eq_true rfl) (fun p e s m below meth c ls hx hb hr hlk hml hown hts hl hP hK hN hD hS => ?_)
  replace hl : lv_has ls 2 [(0, .ref (ad 0))] := hl
  have hiX2 : ∀ w ∈ u_ws RX2 TX2 10, w ∈ wsX2_finishSweep := by decide +kernel
  have loop : ∀ (n i : Nat) (H : Heap) (locs : List Loc) (ls : Array Slot), i + n = 16 → va_P D vwCl ([((ad 0), .inr (2, [.ref (ad 1), .ref (ad 2), .ref (ad 3), .ref (ad 4), .ref (ad 6), .ref (ad 8), .ref (ad 10), .int (xb on), .int (nI seen), .int (xd dy)])), ((ad 1), .inl (cJ, 256, .inr (.inl (xw_arr (x_dm X dy mem i))))), ((ad 2), .inl (cJ, 8, .inr (.inl (xw_arr reg)))), ((ad 3), .inl (cI, 7, .inl (x_dt X dy mem tal i))), ((ad 4), .inr (0, [.ref (ad 5)])), ((ad 5), .inl (cJ, 4, .inr (.inl (xs_rows G)))), ((ad 6), .inr (0, [.ref (ad 7)])), ((ad 7), .inl (cJ, 4, .inr (.inl (xs_rows Q)))), ((ad 8), .inr (0, [.ref (ad 9)])), ((ad 9), .inl (cJ, 4, .inr (.inl (xs_rows X)))), ((ad 10), .inr (0, [.ref (ad 11)])), ((ad 11), .inl (cJ, 4, .inr (.inl (xs_rows F))))]) H → va_D (xk_in ([((ad 0), .inr (2, [.ref (ad 1), .ref (ad 2), .ref (ad 3), .ref (ad 4), .ref (ad 6), .ref (ad 8), .ref (ad 10), .int (xb on), .int (nI seen), .int (xd dy)])), ((ad 1), .inl (cJ, 256, .inr (.inl (xw_arr mem)))), ((ad 2), .inl (cJ, 8, .inr (.inl (xw_arr reg)))), ((ad 3), .inl (cI, 7, .inl tal)), ((ad 4), .inr (0, [.ref (ad 5)])), ((ad 5), .inl (cJ, 4, .inr (.inl (xs_rows G)))), ((ad 6), .inr (0, [.ref (ad 7)])), ((ad 7), .inl (cJ, 4, .inr (.inl (xs_rows Q)))), ((ad 8), .inr (0, [.ref (ad 9)])), ((ad 9), .inl (cJ, 4, .inr (.inl (xs_rows X)))), ((ad 10), .inr (0, [.ref (ad 11)])), ((ad 11), .inl (cJ, 4, .inr (.inl (xs_rows F))))])) ([((ad 0), .inr (2, [.ref (ad 1), .ref (ad 2), .ref (ad 3), .ref (ad 4), .ref (ad 6), .ref (ad 8), .ref (ad 10), .int (xb on), .int (nI seen), .int (xd dy)])), ((ad 1), .inl (cJ, 256, .inr (.inl (xw_arr (x_dm X dy mem i))))), ((ad 2), .inl (cJ, 8, .inr (.inl (xw_arr reg)))), ((ad 3), .inl (cI, 7, .inl (x_dt X dy mem tal i))), ((ad 4), .inr (0, [.ref (ad 5)])), ((ad 5), .inl (cJ, 4, .inr (.inl (xs_rows G)))), ((ad 6), .inr (0, [.ref (ad 7)])), ((ad 7), .inl (cJ, 4, .inr (.inl (xs_rows Q)))), ((ad 8), .inr (0, [.ref (ad 9)])), ((ad 9), .inl (cJ, 4, .inr (.inl (xs_rows X)))), ((ad 10), .inr (0, [.ref (ad 11)])), ((ad 11), .inl (cJ, 4, .inr (.inl (xs_rows F))))]) → va_S (xk_in ([((ad 0), .inr (2, [.ref (ad 1), .ref (ad 2), .ref (ad 3), .ref (ad 4), .ref (ad 6), .ref (ad 8), .ref (ad 10), .int (xb on), .int (nI seen), .int (xd dy)])), ((ad 1), .inl (cJ, 256, .inr (.inl (xw_arr mem)))), ((ad 2), .inl (cJ, 8, .inr (.inl (xw_arr reg)))), ((ad 3), .inl (cI, 7, .inl tal)), ((ad 4), .inr (0, [.ref (ad 5)])), ((ad 5), .inl (cJ, 4, .inr (.inl (xs_rows G)))), ((ad 6), .inr (0, [.ref (ad 7)])), ((ad 7), .inl (cJ, 4, .inr (.inl (xs_rows Q)))), ((ad 8), .inr (0, [.ref (ad 9)])), ((ad 9), .inl (cJ, 4, .inr (.inl (xs_rows X)))), ((ad 10), .inr (0, [.ref (ad 11)])), ((ad 11), .inl (cJ, 4, .inr (.inl (xs_rows F))))])) s.heap H locs → lv_has ls 2 [(1, .int (nI i)), (0, .ref (ad 0))] → W p l e ({ frames := 5, cells := 0, slots := 0, locals := 115 }) s m ([.ref (ad 0)]).toArray below meth c H locs 0 0 (MQ below (xk_W D vwCl ([((ad 0), .inr (2, [.ref (ad 1), .ref (ad 2), .ref (ad 3), .ref (ad 4), .ref (ad 6), .ref (ad 8), .ref (ad 10), .int (xb on), .int (nI seen), .int (xd dy)])), ((ad 1), .inl (cJ, 256, .inr (.inl (xw_arr mem)))), ((ad 2), .inl (cJ, 8, .inr (.inl (xw_arr reg)))), ((ad 3), .inl (cI, 7, .inl tal)), ((ad 4), .inr (0, [.ref (ad 5)])), ((ad 5), .inl (cJ, 4, .inr (.inl (xs_rows G)))), ((ad 6), .inr (0, [.ref (ad 7)])), ((ad 7), .inl (cJ, 4, .inr (.inl (xs_rows Q)))), ((ad 8), .inr (0, [.ref (ad 9)])), ((ad 9), .inl (cJ, 4, .inr (.inl (xs_rows X)))), ((ad 10), .inr (0, [.ref (ad 11)])), ((ad 11), .inl (cJ, 4, .inr (.inl (xs_rows F))))]) ([((ad 0), .inr (2, [.ref (ad 1), .ref (ad 2), .ref (ad 3), .ref (ad 4), .ref (ad 6), .ref (ad 8), .ref (ad 10), .int (xb false), .int (nI 0), .int (xd (fun _ => false))])), ((ad 1), .inl (cJ, 256, .inr (.inl (xw_arr (x_dm X dy mem 16))))), ((ad 2), .inl (cJ, 8, .inr (.inl (xw_arr (x_cl X reg 0 8))))), ((ad 3), .inl (cI, 7, .inl (x_et X dy mem reg tal))), ((ad 4), .inr (0, [.ref (ad 5)])), ((ad 5), .inl (cJ, 4, .inr (.inl (xs_rows G)))), ((ad 6), .inr (0, [.ref (ad 7)])), ((ad 7), .inl (cJ, 4, .inr (.inl (xs_rows (fun i => Q i && !X i))))), ((ad 8), .inr (0, [.ref (ad 9)])), ((ad 9), .inl (cJ, 4, .inr (.inl (xs_rows (fun i => X i && !X i))))), ((ad 10), .inr (0, [.ref (ad 11)])), ((ad 11), .inl (cJ, 4, .inr (.inl (xs_rows F))))]) (some (.int (nI (xs_w X 0 256))))) ([.ref (ad 0)]).toArray s 0 0 (xk_in ([((ad 0), .inr (2, [.ref (ad 1), .ref (ad 2), .ref (ad 3), .ref (ad 4), .ref (ad 6), .ref (ad 8), .ref (ad 10), .int (xb on), .int (nI seen), .int (xd dy)])), ((ad 1), .inl (cJ, 256, .inr (.inl (xw_arr mem)))), ((ad 2), .inl (cJ, 8, .inr (.inl (xw_arr reg)))), ((ad 3), .inl (cI, 7, .inl tal)), ((ad 4), .inr (0, [.ref (ad 5)])), ((ad 5), .inl (cJ, 4, .inr (.inl (xs_rows G)))), ((ad 6), .inr (0, [.ref (ad 7)])), ((ad 7), .inl (cJ, 4, .inr (.inl (xs_rows Q)))), ((ad 8), .inr (0, [.ref (ad 9)])), ((ad 9), .inl (cJ, 4, .inr (.inl (xs_rows X)))), ((ad 10), .inr (0, [.ref (ad 11)])), ((ad 11), .inl (cJ, 4, .inr (.inl (xs_rows F))))]))) (F0 m 2 ls []) := by
    intro n
    induction n with
    | zero =>
      intro i H locs ls hn hP hD hS hl
      obtain rfl : i = 16 := hn
      refine lv_iload_n hx hb dX2_finishSweep_2 rfl (lv_at hl 0 rfl) ?_
      refine lv_bipush (v := 16) hx hb dX2_finishSweep_3 (by decide) ?_
      refine lv_icmp_ge (tgt := 46) hx hb dX2_finishSweep_5 (by decide) (fun c_5 => ?_) (fun c_5 => ?_)
      · skip
        refine lv_aload_n hx hb dX2_finishSweep_46 rfl (lv_at hl 1 rfl) ?_
        refine va_get (D := D) (ci := 2) (v := .ref (ad 3)) (C := RX2) (T := TX2) (N := 10) hx hb hts hiX2 hown hK hP 0 rfl rfl 2 (by decide) (hts (.fieldLink RX2 18 "PointerSweep$State" "tallies" "[I") (by decide +kernel)) (fun _ h9 => h9) rfl dX2_finishSweep_47 ?_
        refine lv_iconst (v := 2) hx hb dX2_finishSweep_50 (by decide) ?_
        refine lv_dup2_11 hx hb dX2_finishSweep_51 rfl rfl ?_
        refine xa_iald hx hb hK hP 3 0 rfl rfl 2 rfl (by decide) (by decide) dX2_finishSweep_52 ?_
        refine lv_aload_n hx hb dX2_finishSweep_53 rfl (lv_at hl 1 rfl) ?_
        refine lv_aload_n hx hb dX2_finishSweep_54 rfl (lv_at hl 1 rfl) ?_
        refine va_get (D := D) (ci := 2) (v := .ref (ad 2)) (C := RX2) (T := TX2) (N := 10) hx hb hts hiX2 hown hK hP 0 rfl rfl 1 (by decide) (hts (.fieldLink RX2 15 "PointerSweep$State" "registers" "[J") (by decide +kernel)) (fun _ h9 => h9) rfl dX2_finishSweep_55 ?_
        refine lv_iconst (v := 0) hx hb dX2_finishSweep_58 (by decide) ?_
        refine lv_bipush (v := 8) hx hb dX2_finishSweep_59 (by decide) ?_
        refine xk_callW (ws' := [((ad 0), .inr (2, [.ref (ad 1), .ref (ad 2), .ref (ad 3), .ref (ad 4), .ref (ad 6), .ref (ad 8), .ref (ad 10), .int (xb on), .int (nI seen), .int (xd dy)])), ((ad 1), .inl (cJ, 256, .inr (.inl (xw_arr (x_dm X dy mem 16))))), ((ad 2), .inl (cJ, 8, .inr (.inl (xw_arr (x_cl X reg 0 8))))), ((ad 3), .inl (cI, 7, .inl (x_dt X dy mem tal 16))), ((ad 4), .inr (0, [.ref (ad 5)])), ((ad 5), .inl (cJ, 4, .inr (.inl (xs_rows G)))), ((ad 6), .inr (0, [.ref (ad 7)])), ((ad 7), .inl (cJ, 4, .inr (.inl (xs_rows Q)))), ((ad 8), .inr (0, [.ref (ad 9)])), ((ad 9), .inl (cJ, 4, .inr (.inl (xs_rows X)))), ((ad 10), .inr (0, [.ref (ad 11)])), ((ad 11), .inl (cJ, 4, .inr (.inl (xs_rows F))))]) (va_runV (As := [.ref (ad 2), .int 0, .int 8]) (rest := [.int ((x_dt X dy mem tal 16) 2), .int 2, .ref (ad 3)]) ⟨hx, hb, hml, hown, hts⟩ (k_clean l D cI cJ cS ad (x_dm X dy mem 16) reg (x_dt X dy mem tal 16) G Q X F on seen dy (ad 2) 8 (by decide) reg hg 0 8 (by decide) (by decide)) (cwV 3 hts gX2_finishSweep_X2_clean rfl rfl rfl (by decide +kernel) ⟨Nat.le_of_ble_eq_true rfl, Nat.le_of_ble_eq_true rfl⟩) (xk_preVw hK hN hP hD [0, 8, 9, 2] rfl rfl (ci := 2) rfl 0 rfl) rfl rfl hl.1 rfl (lv_room (Nat.le_of_ble_eq_true rfl)) dX2_finishSweep_61 ⟨Nat.zero_le _, Nat.zero_le _⟩) hP hD hS [0, 8, 9, 2] rfl rfl rfl (fun H locs hP hD hS => ?_)
        refine lv_iadd hx hb dX2_finishSweep_64 ?_
        refine xa_iast (ws' := [((ad 0), .inr (2, [.ref (ad 1), .ref (ad 2), .ref (ad 3), .ref (ad 4), .ref (ad 6), .ref (ad 8), .ref (ad 10), .int (xb on), .int (nI seen), .int (xd dy)])), ((ad 1), .inl (cJ, 256, .inr (.inl (xw_arr (x_dm X dy mem 16))))), ((ad 2), .inl (cJ, 8, .inr (.inl (xw_arr (x_cl X reg 0 8))))), ((ad 3), .inl (cI, 7, .inl (upd (x_dt X dy mem tal 16) 2 (((x_dt X dy mem tal 16) 2) + (x_cn X reg 0 8))))), ((ad 4), .inr (0, [.ref (ad 5)])), ((ad 5), .inl (cJ, 4, .inr (.inl (xs_rows G)))), ((ad 6), .inr (0, [.ref (ad 7)])), ((ad 7), .inl (cJ, 4, .inr (.inl (xs_rows Q)))), ((ad 8), .inr (0, [.ref (ad 9)])), ((ad 9), .inl (cJ, 4, .inr (.inl (xs_rows X)))), ((ad 10), .inr (0, [.ref (ad 11)])), ((ad 11), .inl (cJ, 4, .inr (.inl (xs_rows F))))]) hx hb hK hP hD hS 3 0 rfl rfl 2 rfl (by decide) (by decide) dX2_finishSweep_65 rfl (fun H locs hP hD hS => ?_)
        refine lv_aload_n hx hb dX2_finishSweep_66 rfl (lv_at hl 1 rfl) ?_
        refine va_get (D := D) (ci := 2) (v := .ref (ad 3)) (C := RX2) (T := TX2) (N := 10) hx hb hts hiX2 hown hK hP 0 rfl rfl 2 (by decide) (hts (.fieldLink RX2 18 "PointerSweep$State" "tallies" "[I") (by decide +kernel)) (fun _ h9 => h9) rfl dX2_finishSweep_67 ?_
        refine lv_bipush (v := 6) hx hb dX2_finishSweep_70 (by decide) ?_
        refine lv_dup2_11 hx hb dX2_finishSweep_72 rfl rfl ?_
        refine xa_iald hx hb hK hP 3 0 rfl rfl 6 rfl (by decide) (by decide) dX2_finishSweep_73 ?_
        refine lv_iconst (v := 1) hx hb dX2_finishSweep_74 (by decide) ?_
        refine lv_iadd hx hb dX2_finishSweep_75 ?_
        refine xa_iast (ws' := [((ad 0), .inr (2, [.ref (ad 1), .ref (ad 2), .ref (ad 3), .ref (ad 4), .ref (ad 6), .ref (ad 8), .ref (ad 10), .int (xb on), .int (nI seen), .int (xd dy)])), ((ad 1), .inl (cJ, 256, .inr (.inl (xw_arr (x_dm X dy mem 16))))), ((ad 2), .inl (cJ, 8, .inr (.inl (xw_arr (x_cl X reg 0 8))))), ((ad 3), .inl (cI, 7, .inl (upd (upd (x_dt X dy mem tal 16) 2 (((x_dt X dy mem tal 16) 2) + (x_cn X reg 0 8))) 6 (((upd (x_dt X dy mem tal 16) 2 (((x_dt X dy mem tal 16) 2) + (x_cn X reg 0 8))) 6) + 1)))), ((ad 4), .inr (0, [.ref (ad 5)])), ((ad 5), .inl (cJ, 4, .inr (.inl (xs_rows G)))), ((ad 6), .inr (0, [.ref (ad 7)])), ((ad 7), .inl (cJ, 4, .inr (.inl (xs_rows Q)))), ((ad 8), .inr (0, [.ref (ad 9)])), ((ad 9), .inl (cJ, 4, .inr (.inl (xs_rows X)))), ((ad 10), .inr (0, [.ref (ad 11)])), ((ad 11), .inl (cJ, 4, .inr (.inl (xs_rows F))))]) hx hb hK hP hD hS 3 0 rfl rfl 6 rfl (by decide) (by decide) dX2_finishSweep_76 rfl (fun H locs hP hD hS => ?_)
        refine lv_aload_n hx hb dX2_finishSweep_77 rfl (lv_at hl 1 rfl) ?_
        refine va_get (D := D) (ci := 2) (v := .ref (ad 8)) (C := RX2) (T := TX2) (N := 10) hx hb hts hiX2 hown hK hP 0 rfl rfl 5 (by decide) (hts (.fieldLink RX2 32 "PointerSweep$State" "doomed" "LPointerSweep$CellMap;") (by decide +kernel)) (fun _ h9 => h9) rfl dX2_finishSweep_78 ?_
        refine xk_callR (va_runV (As := []) (rest := []) ⟨hx, hb, hml, hown, hts⟩ (k_size l D cI cJ cS (ad 8) (ad 9) X) (cwV 0 hts gX2_finishSweep_X0_size rfl rfl rfl (by decide +kernel) ⟨Nat.le_of_ble_eq_true rfl, Nat.le_of_ble_eq_true rfl⟩) (xk_preVr hK hN hP [8, 9] rfl (ci := 0) rfl 0 rfl) rfl rfl hl.1 rfl (lv_room (Nat.le_of_ble_eq_true rfl)) dX2_finishSweep_81 ⟨Nat.zero_le _, Nat.zero_le _⟩) ?_
        refine lv_istore_n (lv' := [(1, .int (nI (xs_w X 0 256))), (0, .ref (ad 0))]) hx hb dX2_finishSweep_84 rfl hl (by decide) rfl (fun ls hl => ?_)
        refine lv_aload_n hx hb dX2_finishSweep_85 rfl (lv_at hl 1 rfl) ?_
        refine va_get (D := D) (ci := 2) (v := .ref (ad 6)) (C := RX2) (T := TX2) (N := 10) hx hb hts hiX2 hown hK hP 0 rfl rfl 4 (by decide) (hts (.fieldLink RX2 29 "PointerSweep$State" "quarantined" "LPointerSweep$CellMap;") (by decide +kernel)) (fun _ h9 => h9) rfl dX2_finishSweep_86 ?_
        refine lv_aload_n hx hb dX2_finishSweep_89 rfl (lv_at hl 1 rfl) ?_
        refine va_get (D := D) (ci := 2) (v := .ref (ad 8)) (C := RX2) (T := TX2) (N := 10) hx hb hts hiX2 hown hK hP 0 rfl rfl 5 (by decide) (hts (.fieldLink RX2 32 "PointerSweep$State" "doomed" "LPointerSweep$CellMap;") (by decide +kernel)) (fun _ h9 => h9) rfl dX2_finishSweep_90 ?_
        refine xk_callW (ws' := [((ad 0), .inr (2, [.ref (ad 1), .ref (ad 2), .ref (ad 3), .ref (ad 4), .ref (ad 6), .ref (ad 8), .ref (ad 10), .int (xb on), .int (nI seen), .int (xd dy)])), ((ad 1), .inl (cJ, 256, .inr (.inl (xw_arr (x_dm X dy mem 16))))), ((ad 2), .inl (cJ, 8, .inr (.inl (xw_arr (x_cl X reg 0 8))))), ((ad 3), .inl (cI, 7, .inl (upd (upd (x_dt X dy mem tal 16) 2 (((x_dt X dy mem tal 16) 2) + (x_cn X reg 0 8))) 6 (((upd (x_dt X dy mem tal 16) 2 (((x_dt X dy mem tal 16) 2) + (x_cn X reg 0 8))) 6) + 1)))), ((ad 4), .inr (0, [.ref (ad 5)])), ((ad 5), .inl (cJ, 4, .inr (.inl (xs_rows G)))), ((ad 6), .inr (0, [.ref (ad 7)])), ((ad 7), .inl (cJ, 4, .inr (.inl (xs_rows (fun i => Q i && !X i))))), ((ad 8), .inr (0, [.ref (ad 9)])), ((ad 9), .inl (cJ, 4, .inr (.inl (xs_rows X)))), ((ad 10), .inr (0, [.ref (ad 11)])), ((ad 11), .inl (cJ, 4, .inr (.inl (xs_rows F))))]) (va_runV (As := [.ref (ad 8)]) (rest := []) ⟨hx, hb, hml, hown, hts⟩ (k_dropAllOf l D cI cJ cS (ad 6) (ad 7) (ad 8) (ad 9) Q X) (cwV 1 hts gX2_finishSweep_X0_dropAllOf rfl rfl rfl (by decide +kernel) ⟨Nat.le_of_ble_eq_true rfl, Nat.le_of_ble_eq_true rfl⟩) (xk_preVw hK hN hP hD [6, 7, 8, 9] rfl rfl (ci := 0) rfl 0 rfl) rfl rfl hl.1 rfl (lv_room (Nat.le_of_ble_eq_true rfl)) dX2_finishSweep_93 ⟨Nat.zero_le _, Nat.zero_le _⟩) hP hD hS [6, 7, 8, 9] rfl rfl rfl (fun H locs hP hD hS => ?_)
        refine lv_aload_n hx hb dX2_finishSweep_96 rfl (lv_at hl 1 rfl) ?_
        refine va_get (D := D) (ci := 2) (v := .ref (ad 8)) (C := RX2) (T := TX2) (N := 10) hx hb hts hiX2 hown hK hP 0 rfl rfl 5 (by decide) (hts (.fieldLink RX2 32 "PointerSweep$State" "doomed" "LPointerSweep$CellMap;") (by decide +kernel)) (fun _ h9 => h9) rfl dX2_finishSweep_97 ?_
        refine lv_aload_n hx hb dX2_finishSweep_100 rfl (lv_at hl 1 rfl) ?_
        refine va_get (D := D) (ci := 2) (v := .ref (ad 8)) (C := RX2) (T := TX2) (N := 10) hx hb hts hiX2 hown hK hP 0 rfl rfl 5 (by decide) (hts (.fieldLink RX2 32 "PointerSweep$State" "doomed" "LPointerSweep$CellMap;") (by decide +kernel)) (fun _ h9 => h9) rfl dX2_finishSweep_101 ?_
        refine xk_callW (ws' := [((ad 0), .inr (2, [.ref (ad 1), .ref (ad 2), .ref (ad 3), .ref (ad 4), .ref (ad 6), .ref (ad 8), .ref (ad 10), .int (xb on), .int (nI seen), .int (xd dy)])), ((ad 1), .inl (cJ, 256, .inr (.inl (xw_arr (x_dm X dy mem 16))))), ((ad 2), .inl (cJ, 8, .inr (.inl (xw_arr (x_cl X reg 0 8))))), ((ad 3), .inl (cI, 7, .inl (upd (upd (x_dt X dy mem tal 16) 2 (((x_dt X dy mem tal 16) 2) + (x_cn X reg 0 8))) 6 (((upd (x_dt X dy mem tal 16) 2 (((x_dt X dy mem tal 16) 2) + (x_cn X reg 0 8))) 6) + 1)))), ((ad 4), .inr (0, [.ref (ad 5)])), ((ad 5), .inl (cJ, 4, .inr (.inl (xs_rows G)))), ((ad 6), .inr (0, [.ref (ad 7)])), ((ad 7), .inl (cJ, 4, .inr (.inl (xs_rows (fun i => Q i && !X i))))), ((ad 8), .inr (0, [.ref (ad 9)])), ((ad 9), .inl (cJ, 4, .inr (.inl (xs_rows (fun i => X i && !X i))))), ((ad 10), .inr (0, [.ref (ad 11)])), ((ad 11), .inl (cJ, 4, .inr (.inl (xs_rows F))))]) (va_runV (As := [.ref (ad 8)]) (rest := []) ⟨hx, hb, hml, hown, hts⟩ (k_dropAllSelf l D cI cJ cS (ad 8) (ad 9) X) (cwV 1 hts gX2_finishSweep_X0_dropAllOf rfl rfl rfl (by decide +kernel) ⟨Nat.le_of_ble_eq_true rfl, Nat.le_of_ble_eq_true rfl⟩) (xk_preVw hK hN hP hD [8, 9] rfl rfl (ci := 0) rfl 0 rfl) rfl rfl hl.1 rfl (lv_room (Nat.le_of_ble_eq_true rfl)) dX2_finishSweep_104 ⟨Nat.zero_le _, Nat.zero_le _⟩) hP hD hS [8, 9] rfl rfl rfl (fun H locs hP hD hS => ?_)
        refine lv_aload_n hx hb dX2_finishSweep_107 rfl (lv_at hl 1 rfl) ?_
        refine lv_iconst (v := 0) hx hb dX2_finishSweep_108 (by decide) ?_
        refine xa_put (ci := 2) (v := .int 0) (ty := .boolean) (C := RX2) (T := TX2) (N := 10) (ws' := [((ad 0), .inr (2, [.ref (ad 1), .ref (ad 2), .ref (ad 3), .ref (ad 4), .ref (ad 6), .ref (ad 8), .ref (ad 10), .int 0, .int (nI seen), .int (xd dy)])), ((ad 1), .inl (cJ, 256, .inr (.inl (xw_arr (x_dm X dy mem 16))))), ((ad 2), .inl (cJ, 8, .inr (.inl (xw_arr (x_cl X reg 0 8))))), ((ad 3), .inl (cI, 7, .inl (upd (upd (x_dt X dy mem tal 16) 2 (((x_dt X dy mem tal 16) 2) + (x_cn X reg 0 8))) 6 (((upd (x_dt X dy mem tal 16) 2 (((x_dt X dy mem tal 16) 2) + (x_cn X reg 0 8))) 6) + 1)))), ((ad 4), .inr (0, [.ref (ad 5)])), ((ad 5), .inl (cJ, 4, .inr (.inl (xs_rows G)))), ((ad 6), .inr (0, [.ref (ad 7)])), ((ad 7), .inl (cJ, 4, .inr (.inl (xs_rows (fun i => Q i && !X i))))), ((ad 8), .inr (0, [.ref (ad 9)])), ((ad 9), .inl (cJ, 4, .inr (.inl (xs_rows (fun i => X i && !X i))))), ((ad 10), .inr (0, [.ref (ad 11)])), ((ad 11), .inl (cJ, 4, .inr (.inl (xs_rows F))))]) hx hb hts hiX2 tyX2 tyX2_ok nmX2 hown hK hP hD hS 0 rfl rfl 7 (by decide) (hts (.fieldLink RX2 38 "PointerSweep$State" "sweeping" "Z") (by decide +kernel)) (fun _ h9 => h9) rfl (by decide +kernel) rfl rfl (Nat.le_of_ble_eq_true rfl) dX2_finishSweep_109 rfl (fun H locs hP hD hS => ?_)
        refine lv_aload_n hx hb dX2_finishSweep_112 rfl (lv_at hl 1 rfl) ?_
        refine lv_iconst (v := 0) hx hb dX2_finishSweep_113 (by decide) ?_
        refine xa_put (ci := 2) (v := .int 0) (ty := .int) (C := RX2) (T := TX2) (N := 10) (ws' := [((ad 0), .inr (2, [.ref (ad 1), .ref (ad 2), .ref (ad 3), .ref (ad 4), .ref (ad 6), .ref (ad 8), .ref (ad 10), .int 0, .int 0, .int (xd dy)])), ((ad 1), .inl (cJ, 256, .inr (.inl (xw_arr (x_dm X dy mem 16))))), ((ad 2), .inl (cJ, 8, .inr (.inl (xw_arr (x_cl X reg 0 8))))), ((ad 3), .inl (cI, 7, .inl (upd (upd (x_dt X dy mem tal 16) 2 (((x_dt X dy mem tal 16) 2) + (x_cn X reg 0 8))) 6 (((upd (x_dt X dy mem tal 16) 2 (((x_dt X dy mem tal 16) 2) + (x_cn X reg 0 8))) 6) + 1)))), ((ad 4), .inr (0, [.ref (ad 5)])), ((ad 5), .inl (cJ, 4, .inr (.inl (xs_rows G)))), ((ad 6), .inr (0, [.ref (ad 7)])), ((ad 7), .inl (cJ, 4, .inr (.inl (xs_rows (fun i => Q i && !X i))))), ((ad 8), .inr (0, [.ref (ad 9)])), ((ad 9), .inl (cJ, 4, .inr (.inl (xs_rows (fun i => X i && !X i))))), ((ad 10), .inr (0, [.ref (ad 11)])), ((ad 11), .inl (cJ, 4, .inr (.inl (xs_rows F))))]) hx hb hts hiX2 tyX2 tyX2_ok nmX2 hown hK hP hD hS 0 rfl rfl 8 (by decide) (hts (.fieldLink RX2 42 "PointerSweep$State" "seenPages" "I") (by decide +kernel)) (fun _ h9 => h9) rfl (by decide +kernel) rfl rfl (Nat.le_of_ble_eq_true rfl) dX2_finishSweep_114 rfl (fun H locs hP hD hS => ?_)
        refine lv_aload_n hx hb dX2_finishSweep_117 rfl (lv_at hl 1 rfl) ?_
        refine lv_iconst (v := 0) hx hb dX2_finishSweep_118 (by decide) ?_
        refine xa_put (ci := 2) (v := .int 0) (ty := .int) (C := RX2) (T := TX2) (N := 10) (ws' := [((ad 0), .inr (2, [.ref (ad 1), .ref (ad 2), .ref (ad 3), .ref (ad 4), .ref (ad 6), .ref (ad 8), .ref (ad 10), .int 0, .int 0, .int 0])), ((ad 1), .inl (cJ, 256, .inr (.inl (xw_arr (x_dm X dy mem 16))))), ((ad 2), .inl (cJ, 8, .inr (.inl (xw_arr (x_cl X reg 0 8))))), ((ad 3), .inl (cI, 7, .inl (upd (upd (x_dt X dy mem tal 16) 2 (((x_dt X dy mem tal 16) 2) + (x_cn X reg 0 8))) 6 (((upd (x_dt X dy mem tal 16) 2 (((x_dt X dy mem tal 16) 2) + (x_cn X reg 0 8))) 6) + 1)))), ((ad 4), .inr (0, [.ref (ad 5)])), ((ad 5), .inl (cJ, 4, .inr (.inl (xs_rows G)))), ((ad 6), .inr (0, [.ref (ad 7)])), ((ad 7), .inl (cJ, 4, .inr (.inl (xs_rows (fun i => Q i && !X i))))), ((ad 8), .inr (0, [.ref (ad 9)])), ((ad 9), .inl (cJ, 4, .inr (.inl (xs_rows (fun i => X i && !X i))))), ((ad 10), .inr (0, [.ref (ad 11)])), ((ad 11), .inl (cJ, 4, .inr (.inl (xs_rows F))))]) hx hb hts hiX2 tyX2 tyX2_ok nmX2 hown hK hP hD hS 0 rfl rfl 9 (by decide) (hts (.fieldLink RX2 46 "PointerSweep$State" "dirtyPages" "I") (by decide +kernel)) (fun _ h9 => h9) rfl (by decide +kernel) rfl rfl (Nat.le_of_ble_eq_true rfl) dX2_finishSweep_119 rfl (fun H locs hP hD hS => ?_)
        refine lv_iload_n hx hb dX2_finishSweep_122 rfl (lv_at hl 0 rfl) ?_
        exact xk_iretW hx hb hr hlk hP hS rfl rfl dX2_finishSweep_123
      · skip
        exact absurd (by decide) c_5
    | succ n ih =>
      intro i H locs ls hn hP hD hS hl
      refine lv_iload_n hx hb dX2_finishSweep_2 rfl (lv_at hl 0 rfl) ?_
      refine lv_bipush (v := 16) hx hb dX2_finishSweep_3 (by decide) ?_
      refine lv_icmp_ge (tgt := 46) hx hb dX2_finishSweep_5 (by decide) (fun c_5 => ?_) (fun c_5 => ?_)
      · skip
        exact absurd (xn_le_of (a := 16) (by decide) (by omega) c_5) (by omega)
      · skip
        refine lv_aload_n hx hb dX2_finishSweep_8 rfl (lv_at hl 1 rfl) ?_
        refine lv_iload_n hx hb dX2_finishSweep_9 rfl (lv_at hl 0 rfl) ?_
        refine xk_callR (va_runV (As := [.int (nI i)]) (rest := []) ⟨hx, hb, hml, hown, hts⟩ (k_isDirty l D cI cJ cS ad (x_dm X dy mem i) reg (x_dt X dy mem tal i) G Q X F on seen dy i (by omega)) (cwV 1 hts gX2_finishSweep_X2_isDirty rfl rfl rfl (by decide +kernel) ⟨Nat.le_of_ble_eq_true rfl, Nat.le_of_ble_eq_true rfl⟩) (xk_preVr hK hN hP [0, 1, 2, 3, 4, 5, 6, 7, 8, 9, 10, 11] rfl (ci := 2) rfl 0 rfl) rfl rfl hl.1 rfl (lv_room (Nat.le_of_ble_eq_true rfl)) dX2_finishSweep_10 ⟨Nat.zero_le _, Nat.zero_le _⟩) ?_
        refine lv_if_eq (tgt := 40) hx hb dX2_finishSweep_13 (by decide) (fun c_13 => ?_) (fun c_13 => ?_)
        · skip
          refine lv_iinc (v := (nI (i + 1))) (lv' := [(1, .int (nI (i + 1))), (0, .ref (ad 0))]) hx hb dX2_finishSweep_40 hl (k := 0) rfl (nI_1 i) (by decide) rfl (fun ls hl => ?_)
          refine lv_goto (tgt := 2) hx hb dX2_finishSweep_43 (by decide) ?_
          rw [← x_dm_n mem c_13, ← x_dt_n mem tal c_13] at hP hD
          exact ih (i + 1) H locs ls (by omega) hP hD hS (lv_sub hl [0, 1] rfl)
        · skip
          refine lv_aload_n hx hb dX2_finishSweep_16 rfl (lv_at hl 1 rfl) ?_
          refine va_get (D := D) (ci := 2) (v := .ref (ad 3)) (C := RX2) (T := TX2) (N := 10) hx hb hts hiX2 hown hK hP 0 rfl rfl 2 (by decide) (hts (.fieldLink RX2 18 "PointerSweep$State" "tallies" "[I") (by decide +kernel)) (fun _ h9 => h9) rfl dX2_finishSweep_17 ?_
          refine lv_iconst (v := 1) hx hb dX2_finishSweep_20 (by decide) ?_
          refine lv_dup2_11 hx hb dX2_finishSweep_21 rfl rfl ?_
          refine xa_iald hx hb hK hP 3 0 rfl rfl 1 rfl (by decide) (by decide) dX2_finishSweep_22 ?_
          refine lv_aload_n hx hb dX2_finishSweep_23 rfl (lv_at hl 1 rfl) ?_
          refine lv_iload_n hx hb dX2_finishSweep_24 rfl (lv_at hl 0 rfl) ?_
          refine xk_callW (ws' := [((ad 0), .inr (2, [.ref (ad 1), .ref (ad 2), .ref (ad 3), .ref (ad 4), .ref (ad 6), .ref (ad 8), .ref (ad 10), .int (xb on), .int (nI seen), .int (xd dy)])), ((ad 1), .inl (cJ, 256, .inr (.inl (xw_arr (x_cl X (x_dm X dy mem i) (16 * i) (16 * i + 16)))))), ((ad 2), .inl (cJ, 8, .inr (.inl (xw_arr reg)))), ((ad 3), .inl (cI, 7, .inl (x_dt X dy mem tal i))), ((ad 4), .inr (0, [.ref (ad 5)])), ((ad 5), .inl (cJ, 4, .inr (.inl (xs_rows G)))), ((ad 6), .inr (0, [.ref (ad 7)])), ((ad 7), .inl (cJ, 4, .inr (.inl (xs_rows Q)))), ((ad 8), .inr (0, [.ref (ad 9)])), ((ad 9), .inl (cJ, 4, .inr (.inl (xs_rows X)))), ((ad 10), .inr (0, [.ref (ad 11)])), ((ad 11), .inl (cJ, 4, .inr (.inl (xs_rows F))))]) (va_runV (As := [.int (nI i)]) (rest := [.int ((x_dt X dy mem tal i) 1), .int 1, .ref (ad 3)]) ⟨hx, hb, hml, hown, hts⟩ (k_cleanPage l D cI cJ cS ad (x_dm X dy mem i) reg (x_dt X dy mem tal i) G Q X F on seen dy (x_dm_ok hm _) i (by omega)) (cwV 1 hts gX2_finishSweep_X2_cleanPage rfl rfl rfl (by decide +kernel) ⟨Nat.le_of_ble_eq_true rfl, Nat.le_of_ble_eq_true rfl⟩) (xk_preVw hK hN hP hD [0, 1, 2, 3, 4, 5, 6, 7, 8, 9, 10, 11] rfl rfl (ci := 2) rfl 0 rfl) rfl rfl hl.1 rfl (lv_room (Nat.le_of_ble_eq_true rfl)) dX2_finishSweep_25 ⟨Nat.zero_le _, Nat.zero_le _⟩) hP hD hS [0, 1, 2, 3, 4, 5, 6, 7, 8, 9, 10, 11] rfl rfl rfl (fun H locs hP hD hS => ?_)
          refine lv_iadd hx hb dX2_finishSweep_28 ?_
          refine xa_iast (ws' := [((ad 0), .inr (2, [.ref (ad 1), .ref (ad 2), .ref (ad 3), .ref (ad 4), .ref (ad 6), .ref (ad 8), .ref (ad 10), .int (xb on), .int (nI seen), .int (xd dy)])), ((ad 1), .inl (cJ, 256, .inr (.inl (xw_arr (x_cl X (x_dm X dy mem i) (16 * i) (16 * i + 16)))))), ((ad 2), .inl (cJ, 8, .inr (.inl (xw_arr reg)))), ((ad 3), .inl (cI, 7, .inl (upd (x_dt X dy mem tal i) 1 (((x_dt X dy mem tal i) 1) + (x_cn X (x_dm X dy mem i) (16 * i) (16 * i + 16)))))), ((ad 4), .inr (0, [.ref (ad 5)])), ((ad 5), .inl (cJ, 4, .inr (.inl (xs_rows G)))), ((ad 6), .inr (0, [.ref (ad 7)])), ((ad 7), .inl (cJ, 4, .inr (.inl (xs_rows Q)))), ((ad 8), .inr (0, [.ref (ad 9)])), ((ad 9), .inl (cJ, 4, .inr (.inl (xs_rows X)))), ((ad 10), .inr (0, [.ref (ad 11)])), ((ad 11), .inl (cJ, 4, .inr (.inl (xs_rows F))))]) hx hb hK hP hD hS 3 0 rfl rfl 1 rfl (by decide) (by decide) dX2_finishSweep_29 rfl (fun H locs hP hD hS => ?_)
          refine lv_aload_n hx hb dX2_finishSweep_30 rfl (lv_at hl 1 rfl) ?_
          refine va_get (D := D) (ci := 2) (v := .ref (ad 3)) (C := RX2) (T := TX2) (N := 10) hx hb hts hiX2 hown hK hP 0 rfl rfl 2 (by decide) (hts (.fieldLink RX2 18 "PointerSweep$State" "tallies" "[I") (by decide +kernel)) (fun _ h9 => h9) rfl dX2_finishSweep_31 ?_
          refine lv_iconst (v := 5) hx hb dX2_finishSweep_34 (by decide) ?_
          refine lv_dup2_11 hx hb dX2_finishSweep_35 rfl rfl ?_
          refine xa_iald hx hb hK hP 3 0 rfl rfl 5 rfl (by decide) (by decide) dX2_finishSweep_36 ?_
          refine lv_iconst (v := 1) hx hb dX2_finishSweep_37 (by decide) ?_
          refine lv_iadd hx hb dX2_finishSweep_38 ?_
          refine xa_iast (ws' := [((ad 0), .inr (2, [.ref (ad 1), .ref (ad 2), .ref (ad 3), .ref (ad 4), .ref (ad 6), .ref (ad 8), .ref (ad 10), .int (xb on), .int (nI seen), .int (xd dy)])), ((ad 1), .inl (cJ, 256, .inr (.inl (xw_arr (x_cl X (x_dm X dy mem i) (16 * i) (16 * i + 16)))))), ((ad 2), .inl (cJ, 8, .inr (.inl (xw_arr reg)))), ((ad 3), .inl (cI, 7, .inl (upd (upd (x_dt X dy mem tal i) 1 (((x_dt X dy mem tal i) 1) + (x_cn X (x_dm X dy mem i) (16 * i) (16 * i + 16)))) 5 (((upd (x_dt X dy mem tal i) 1 (((x_dt X dy mem tal i) 1) + (x_cn X (x_dm X dy mem i) (16 * i) (16 * i + 16)))) 5) + 1)))), ((ad 4), .inr (0, [.ref (ad 5)])), ((ad 5), .inl (cJ, 4, .inr (.inl (xs_rows G)))), ((ad 6), .inr (0, [.ref (ad 7)])), ((ad 7), .inl (cJ, 4, .inr (.inl (xs_rows Q)))), ((ad 8), .inr (0, [.ref (ad 9)])), ((ad 9), .inl (cJ, 4, .inr (.inl (xs_rows X)))), ((ad 10), .inr (0, [.ref (ad 11)])), ((ad 11), .inl (cJ, 4, .inr (.inl (xs_rows F))))]) hx hb hK hP hD hS 3 0 rfl rfl 5 rfl (by decide) (by decide) dX2_finishSweep_39 rfl (fun H locs hP hD hS => ?_)
          refine lv_iinc (v := (nI (i + 1))) (lv' := [(1, .int (nI (i + 1))), (0, .ref (ad 0))]) hx hb dX2_finishSweep_40 hl (k := 0) rfl (nI_1 i) (by decide) rfl (fun ls hl => ?_)
          refine lv_goto (tgt := 2) hx hb dX2_finishSweep_43 (by decide) ?_
          rw [x_dt_y mem tal c_13, x_dm_y mem c_13] at hP hD
          exact ih (i + 1) H locs ls (by omega) hP hD hS (lv_sub hl [0, 1] rfl)
  refine lv_iconst (v := 0) hx hb dX2_finishSweep_0 (by decide) ?_
  refine lv_istore_n (lv' := [(1, .int 0), (0, .ref (ad 0))]) hx hb dX2_finishSweep_1 rfl hl (by decide) rfl (fun ls hl => ?_)
  refine loop 16 0 s.heap [] ls rfl ?_ ?_ hS (lv_sub hl [0, 1] rfl)
  · rw [x_dm_0, x_dt_0]; exact hP
  · rw [x_dm_0, x_dt_0]; exact hD
end
section
/-! A state's twelve cells, and the pool of the states that are kept -/
section XPL
abbrev xV : Type := (Nat → xw) × (Nat → xw) × (Nat → Int32) × (Nat → Bool) × (Nat → Bool) × (Nat → Bool) × (Nat → Bool) × Bool × Nat × (Nat → Bool)
def xst (cI cJ : ClassId) (ad : Nat → Nat) (v : xV) : va_W := [((ad 0), .inr (2, [.ref (ad 1), .ref (ad 2), .ref (ad 3), .ref (ad 4), .ref (ad 6), .ref (ad 8), .ref (ad 10), .int (xb v.2.2.2.2.2.2.2.1), .int (nI v.2.2.2.2.2.2.2.2.1), .int (xd v.2.2.2.2.2.2.2.2.2)])), ((ad 1), .inl (cJ, 256, .inr (.inl (xw_arr v.1)))), ((ad 2), .inl (cJ, 8, .inr (.inl (xw_arr v.2.1)))), ((ad 3), .inl (cI, 7, .inl v.2.2.1)), ((ad 4), .inr (0, [.ref (ad 5)])), ((ad 5), .inl (cJ, 4, .inr (.inl (xs_rows v.2.2.2.1)))), ((ad 6), .inr (0, [.ref (ad 7)])), ((ad 7), .inl (cJ, 4, .inr (.inl (xs_rows v.2.2.2.2.1)))), ((ad 8), .inr (0, [.ref (ad 9)])), ((ad 9), .inl (cJ, 4, .inr (.inl (xs_rows v.2.2.2.2.2.1)))), ((ad 10), .inr (0, [.ref (ad 11)])), ((ad 11), .inl (cJ, 4, .inr (.inl (xs_rows v.2.2.2.2.2.2.1))))]
/-- the first n states of the pool -/
def xpl (cI cJ : ClassId) (ads : Nat → Nat → Nat) (vs : Nat → xV) : Nat → va_W
  | 0 => []
  | n + 1 => xpl cI cJ ads vs n ++ xst cI cJ (ads n) (vs n)
/-- the same but for the k-th -/
def xpx (cI cJ : ClassId) (ads : Nat → Nat → Nat) (vs : Nat → xV) (k : Nat) : Nat → va_W
  | 0 => []
  | n + 1 => if n = k then xpl cI cJ ads vs n else xpx cI cJ ads vs k n ++ xst cI cJ (ads n) (vs n)
theorem xpl_perm (cI cJ : ClassId) (ads : Nat → Nat → Nat) (vs : Nat → xV) (k : Nat) : ∀ n, k < n → (xpl cI cJ ads vs n).Perm (xst cI cJ (ads k) (vs k) ++ xpx cI cJ ads vs k n)
  | 0, h => absurd h (Nat.not_lt_zero _)
  | n + 1, h => by
    show (xpl cI cJ ads vs n ++ xst cI cJ (ads n) (vs n)).Perm (xst cI cJ (ads k) (vs k) ++ (if n = k then xpl cI cJ ads vs n else xpx cI cJ ads vs k n ++ xst cI cJ (ads n) (vs n)))
    by_cases hk : n = k
    · rw [if_pos hk, hk]
      exact List.perm_append_comm
    · rw [if_neg hk, ← List.append_assoc]
      exact (xpl_perm cI cJ ads vs k n (by omega)).append_right _
theorem xpl_up (cI cJ : ClassId) (ads : Nat → Nat → Nat) (vs : Nat → xV) (k : Nat) (v : xV) : ∀ n, n ≤ k → xpl cI cJ ads (va_up vs k v) n = xpl cI cJ ads vs n
  | 0, _ => rfl
  | n + 1, h => by
    show xpl cI cJ ads (va_up vs k v) n ++ xst cI cJ (ads n) (va_up vs k v n) = _
    rw [xpl_up cI cJ ads vs k v n (by omega), va_up_ne vs v (by omega)]
    rfl
theorem xpx_up (cI cJ : ClassId) (ads : Nat → Nat → Nat) (vs : Nat → xV) (k : Nat) (v : xV) : ∀ n, xpx cI cJ ads (va_up vs k v) k n = xpx cI cJ ads vs k n
  | 0 => rfl
  | n + 1 => by
    show (if n = k then xpl cI cJ ads (va_up vs k v) n else xpx cI cJ ads (va_up vs k v) k n ++ xst cI cJ (ads n) (va_up vs k v n)) = (if n = k then xpl cI cJ ads vs n else xpx cI cJ ads vs k n ++ xst cI cJ (ads n) (vs n))
    by_cases hk : n = k
    · rw [if_pos hk, if_pos hk, xpl_up cI cJ ads vs k v n (by omega)]
    · rw [if_neg hk, if_neg hk, xpx_up cI cJ ads vs k v n, va_up_ne vs v hk]
theorem xst_fst (cI cJ : ClassId) (ad : Nat → Nat) (v v2 : xV) : (xst cI cJ ad v).map (fun x => x.1) = (xst cI cJ ad v2).map (fun x => x.1) := rfl
theorem xpl_fst (cI cJ : ClassId) (ads : Nat → Nat → Nat) (vs vs2 : Nat → xV) : ∀ n, (xpl cI cJ ads vs n).map (fun x => x.1) = (xpl cI cJ ads vs2 n).map (fun x => x.1)
  | 0 => rfl
  | n + 1 => by
    show (xpl cI cJ ads vs n ++ xst cI cJ (ads n) (vs n)).map (fun x => x.1) = (xpl cI cJ ads vs2 n ++ xst cI cJ (ads n) (vs2 n)).map (fun x => x.1)
    rw [List.map_append, List.map_append, xpl_fst cI cJ ads vs vs2 n, xst_fst cI cJ (ads n) (vs n) (vs2 n)]
theorem xk_Dnd {A : Nat → Prop} {ws : va_W} : va_D A ws ↔ ((ws.map (fun x => x.1)).Nodup ∧ ∀ q ∈ ws, A q.1) := by
  constructor
  · intro h
    refine ⟨?_, fun q hq => ?_⟩
    · rw [List.nodup_iff_pairwise_ne, List.pairwise_iff_getElem]
      intro i j hi hj hij he
      rw [List.length_map] at hi hj
      rw [List.getElem_map, List.getElem_map] at he
      have := h.1 i j ws[i] ws[j] (List.getElem?_eq_getElem hi) (List.getElem?_eq_getElem hj) he
      omega
    · obtain ⟨i, hi⟩ := List.getElem?_of_mem hq
      exact h.2 i q hi
  · intro h
    refine ⟨fun i j x y hx hy hxy => ?_, fun k q hk => h.2 q (List.mem_of_getElem? hk)⟩
    have h1 := h.1
    rw [List.nodup_iff_pairwise_ne, List.pairwise_iff_getElem] at h1
    obtain ⟨hi, hx⟩ := List.getElem?_eq_some_iff.mp hx
    obtain ⟨hj, hy⟩ := List.getElem?_eq_some_iff.mp hy
    rcases Nat.lt_trichotomy i j with q | q | q
    · exact absurd (by rw [List.getElem_map, List.getElem_map, hx, hy]; exact hxy) (h1 i j (by rw [List.length_map]; exact hi) (by rw [List.length_map]; exact hj) q)
    · exact q
    · exact absurd (by rw [List.getElem_map, List.getElem_map, hx, hy]; exact hxy.symm) (h1 j i (by rw [List.length_map]; exact hj) (by rw [List.length_map]; exact hi) q)
theorem xk_Dperm {A : Nat → Prop} {ws ws' : va_W} (hp : ws.Perm ws') (h : va_D A ws) : va_D A ws' := by
  rw [xk_Dnd] at h ⊢
  exact ⟨(hp.map _).nodup_iff.mp h.1, fun q hq => h.2 q (hp.mem_iff.mpr hq)⟩
theorem xk_Pperm {D : va_G} {cl : List vw_C} {H : Heap} {ws ws' : va_W} (hp : ws.Perm ws') (h : va_P D cl ws H) : va_P D cl ws' H := xk_Pmem h (fun q hq => hp.mem_iff.mpr hq)
section
variable {p : Program} {l : Launch} {e : Env} {R : Room} {s : State} {m : MethodId} {args : Array Value} {below : List Frame} {meth : Method} {c : Code} {H : Heap} {locs : List Loc} {cells slots : Nat} {Q : State → Prop}
variable {pc : Nat} {ls : Array Slot} {rest : List Value} {D : va_G} {cl : List vw_C} {tys : List (ClassId × FieldType)}
theorem xa_aldq {cc : ByteArray} {ws : va_W} {a : Nat} (hx : p.tables.exec = Jvm.exec) (hb : c.code = cc) (hK : va_K D cl tys s) (hP : va_P D cl ws H) (q0 t0 : Nat) {cA : ClassId} {C : String} {n : Nat} {f : Nat → Option Nat} (ha : ws[q0]? = some (a, .inl (cA, n, .inr (.inr (.inr (.inr f)))))) (ht : tys[t0]? = some (cA, .object C)) {i : Int32} (k : Nat) (hi : i = nI k) (hk : k < n) (hn : n < 2 ^ 31) {q : Nat} (hf : f k = some q) (hd : decode cc pc = .ok (.aaload, 1))
    (kk : W p l e R s m args below meth c H locs cells slots Q (F0 m (pc + 1) ls (.ref q :: rest))) : W p l e R s m args below meth c H locs cells slots Q (F0 m pc ls (.int i :: .ref a :: rest)) := by
  subst hi
  refine va_aldq hx hb hK hP q0 t0 ha ht (vp_in_nI hk hn) hd ?_
  rw [nI_clamp (Nat.lt_trans hk hn), hf]
  exact kk
end
/-- a writing method's start, the worlds of its goal being names -/
theorem xk_wr2 {l : Launch} {D : va_G} {cl : List vw_C} {tys : List (ClassId × FieldType)} {y : MethodName} {ws ws' : List Cond} {rm : Room} {cc : ByteArray} {maxL : Nat} {ret : Option FieldType} {W0 W1 : va_W} {av : List Value} {rv : Option Value} (hy : plainName y.cls = true) (hw : ws = Cond.code y cc maxL ret :: ws') (hlen : (lg_sl av).length ≤ maxL)
    (body : ∀ (p : Program) (e : Env) (s : State) (m : MethodId) (below : List Frame) (meth : Method) (c : Code) (ls : Array Slot) (W0v W1v : va_W), W1 = W1v → p.tables.exec = Jvm.exec → c.code = cc → meth.sig.returnType = ret → meth.locks = false → c.maxLocals = maxL → s.vm.findClass y.cls = some m.cls → (∀ w ∈ ws, w.before av.toArray s = true) → lv_has ls maxL (lv_args 0 av) → va_P D cl W0 s.heap → va_K D cl tys s → xn s → va_D (xk_in W0v) W0 → va_S (xk_in W0v) s.heap s.heap [] →
      W p l e rm s m av.toArray below meth c s.heap [] 0 0 (MQ below (xk_W D cl W0v W1v rv) av.toArray s 0 0 (xk_in W0v)) (F0 m 0 ls [])) : xk_Wr l y ws rm D cl tys W0 av W1 rv :=
  xk_wr hy hw hlen (fun p e s m below meth c ls hx hb hr hlk hml hown hts hl hP hK hN hD hS => body p e s m below meth c ls W0 W1 rfl hx hb hr hlk hml hown hts hl hP hK hN hD hS)
def x_nx (n : Nat) : Nat := if n + 1 < 24 then n + 1 else 0
def x_pv (n : Nat) : Nat := if 0 < n then n - 1 else 23
def x_sz (n : Nat) : Nat := min 24 (n + 1)
theorem x_nx_lt {n : Nat} (h : n < 24) : x_nx n < 24 := by unfold x_nx; split <;> omega
theorem x_pv_lt {n : Nat} (h : n < 24) : x_pv n < 24 := by unfold x_pv; split <;> omega
theorem x_nx_y {n : Nat} (h : n < 24) (c : ¬ 24 ≤ nI n + 1) : nI n + 1 = nI (x_nx n) := by
  rw [nI_1] at c ⊢
  have := xn_lt_of (a := 24) (by decide) (by omega) c
  unfold x_nx
  rw [if_pos this]
theorem x_nx_n {n : Nat} (h : n < 24) (c : 24 ≤ nI n + 1) : (0 : Int32) = nI (x_nx n) := by
  rw [nI_1] at c
  have := xn_le_of (a := 24) (by decide) (by omega) c
  unfold x_nx
  rw [if_neg (by omega)]
  rfl
theorem x_sz_min {n : Nat} (h : n ≤ 24) : (if nI n + 1 < 24 then nI n + 1 else 24) = nI (x_sz n) := by
  rw [nI_1]
  unfold x_sz
  by_cases h2 : n + 1 < 24
  · rw [if_pos (show nI (n + 1) < 24 from nI_lt (b := 24) h2 (by decide)), Nat.min_eq_right (by omega)]
  · rw [if_neg (show ¬ nI (n + 1) < 24 from nI_nlt (b := 24) (by omega) (by omega)), Nat.min_eq_left (by omega)]
    rfl
theorem x_pv_y {n : Nat} (h : n < 24) (c : ¬ nI n ≤ 0) : nI n - 1 = nI (x_pv n) := by
  have h0 : 0 < n := by
    rcases Nat.eq_zero_or_pos n with q | q
    · rw [q] at c; exact absurd (by decide) c
    · exact q
  obtain ⟨k, rfl⟩ : ∃ k, n = k + 1 := ⟨n - 1, by omega⟩
  rw [nI_pred]
  unfold x_pv
  rw [if_pos h0]
  rfl
theorem x_pv_n {n : Nat} (h : n < 24) (c : nI n ≤ 0) : (23 : Int32) = nI (x_pv n) := by
  have h0 : ¬ 0 < n := fun q => nI_nle q (by omega) c
  unfold x_pv
  rw [if_neg h0]
  rfl
theorem x_pos {n : Nat} (c : ¬ nI n ≤ 0) : 0 < n := by
  rcases Nat.eq_zero_or_pos n with q | q
  · rw [q] at c; exact absurd (by decide) c
  · exact q
theorem x_szm {n : Nat} (h : 0 < n) : nI n - 1 = nI (n - 1) := by
  obtain ⟨k, rfl⟩ : ∃ k, n = k + 1 := ⟨n - 1, by omega⟩
  rw [nI_pred]
  rfl
end XPL
end
section
/-! Calls whose callee's cells are the middle, or the end, of the caller's world -/
section XF
variable {p : Program} {l : Launch} {e : Env} {R : Room} {s : State} {m : MethodId} {args : Array Value} {below : List Frame} {meth : Method} {c : Code} {H : Heap} {locs : List Loc} {cells slots : Nat} {Q : State → Prop}
variable {pc : Nat} {ls : Array Slot} {rest st0 : List Value} {D : va_G} {cl : List vw_C} {A : Nat → Prop} {tys : List (ClassId × FieldType)} {H0 : Heap} {a : Array Value}
theorem xk_callM {rv : Option Value} {X W0 W1 wr : va_W} (hr : va_Run p l e R s m args below meth c H locs cells slots 0 0 (F0 m pc ls st0) rest (xk_W D cl W0 W1 rv a) (xk_in W0))
    (hP : va_P D cl (X ++ (W0 ++ wr)) H) (hD : va_D A (X ++ (W0 ++ wr))) (hS : va_S A H0 H locs) (ha : W1.map (fun x => x.1) = W0.map (fun x => x.1))
    (kk : ∀ (H1 : Heap) (locs1 : List Loc), va_P D cl (X ++ (W1 ++ wr)) H1 → va_D A (X ++ (W1 ++ wr)) → va_S A H0 H1 locs1 → W p l e R s m args below meth c H1 locs1 cells slots Q (F0 m (pc + 3) ls (rv.toList ++ rest))) : W p l e R s m args below meth c H locs cells slots Q (F0 m pc ls st0) := by
  have hn := (xk_Dnd.mp hD).1
  rw [List.map_append, List.map_append, List.nodup_append] at hn
  obtain ⟨-, hn2, hn3⟩ := hn
  rw [List.nodup_append] at hn2
  refine xk_callC hr hP hD hS (fun q hq => List.mem_append_right _ (List.mem_append_left _ hq)) (fun x hx => ?_) (by rw [List.map_append, List.map_append, List.map_append, List.map_append, ha]) kk
  rcases List.mem_append.mp hx with h | h
  · exact Or.inr ⟨List.mem_append_left _ h, fun z => hn3 x.1 (List.mem_map.mpr ⟨x, h, rfl⟩) x.1 (List.mem_append_left _ z) rfl⟩
  · rcases List.mem_append.mp h with h | h
    · exact Or.inl h
    · exact Or.inr ⟨List.mem_append_right _ (List.mem_append_right _ h), fun z => hn2.2.2 x.1 z x.1 (List.mem_map.mpr ⟨x, h, rfl⟩) rfl⟩
theorem xk_callS {rv : Option Value} {X W0 W1 : va_W} (hr : va_Run p l e R s m args below meth c H locs cells slots 0 0 (F0 m pc ls st0) rest (xk_W D cl W0 W1 rv a) (xk_in W0))
    (hP : va_P D cl (X ++ W0) H) (hD : va_D A (X ++ W0)) (hS : va_S A H0 H locs) (ha : W1.map (fun x => x.1) = W0.map (fun x => x.1))
    (kk : ∀ (H1 : Heap) (locs1 : List Loc), va_P D cl (X ++ W1) H1 → va_D A (X ++ W1) → va_S A H0 H1 locs1 → W p l e R s m args below meth c H1 locs1 cells slots Q (F0 m (pc + 3) ls (rv.toList ++ rest))) : W p l e R s m args below meth c H locs cells slots Q (F0 m pc ls st0) := by
  have hn := (xk_Dnd.mp hD).1
  rw [List.map_append, List.nodup_append] at hn
  obtain ⟨-, hn2, hn3⟩ := hn
  refine xk_callC hr hP hD hS (fun q hq => List.mem_append_right _ hq) (fun x hx => ?_) (by rw [List.map_append, List.map_append, ha]) kk
  rcases List.mem_append.mp hx with h | h
  · exact Or.inr ⟨List.mem_append_left _ h, fun z => hn3 x.1 (List.mem_map.mpr ⟨x, h, rfl⟩) x.1 z rfl⟩
  · exact Or.inl h
theorem xk_Dmid {X W0 wr : va_W} (hD : va_D A (X ++ (W0 ++ wr))) : va_D (fun _ => True) W0 := by
  have hn := (xk_Dnd.mp hD).1
  rw [List.map_append, List.map_append, List.nodup_append] at hn
  have hn2 := hn.2.1
  rw [List.nodup_append] at hn2
  exact xk_Dnd.mpr ⟨hn2.1, fun _ _ => trivial⟩
theorem xk_Dend {X W0 : va_W} (hD : va_D A (X ++ W0)) : va_D (fun _ => True) W0 := by
  have hn := (xk_Dnd.mp hD).1
  rw [List.map_append, List.nodup_append] at hn
  exact xk_Dnd.mpr ⟨hn.2.1, fun _ _ => trivial⟩
theorem xk_preVm {As : List Value} {b : Addr} {X W0 wr : va_W} {ci : Nat} {q : vw_C} {fs : List Value} (hK : va_K D cl tys s) (hN : xn s) (hP : va_P D cl (X ++ (W0 ++ wr)) H) (hD : va_D A (X ++ (W0 ++ wr))) (hc : cl[ci]? = some q) (q0 : Nat) (he : W0[q0]? = some (b, .inr (ci, fs))) : PreV s H q.1 b (va_Pc (.ref b :: As) (xk_Bw D cl tys W0)) As := by
  have hP2 : va_P D cl W0 H := xk_Pmem hP (fun x hx => List.mem_append_right _ (List.mem_append_left _ hx))
  exact ⟨xk_blw, va_recv hK hP2 hc he, fun U hU hW => ⟨rfl, by rw [hU]; exact hP2, va_K.moved hW.alike hK, hN.warm hW, xk_Dmid hD⟩⟩
theorem xk_preVmr {As : List Value} {b : Addr} {X W0 wr : va_W} {ci : Nat} {q : vw_C} {fs : List Value} (hK : va_K D cl tys s) (hN : xn s) (hP : va_P D cl (X ++ (W0 ++ wr)) H) (hc : cl[ci]? = some q) (q0 : Nat) (he : W0[q0]? = some (b, .inr (ci, fs))) : PreV s H q.1 b (va_Pc (.ref b :: As) (xk_Br D cl tys W0)) As := by
  have hP2 : va_P D cl W0 H := xk_Pmem hP (fun x hx => List.mem_append_right _ (List.mem_append_left _ hx))
  exact ⟨xk_blr, va_recv hK hP2 hc he, fun U hU hW => ⟨rfl, by rw [hU]; exact hP2, va_K.moved hW.alike hK, hN.warm hW⟩⟩
theorem xk_preVs {As : List Value} {b : Addr} {X W0 : va_W} {ci : Nat} {q : vw_C} {fs : List Value} (hK : va_K D cl tys s) (hN : xn s) (hP : va_P D cl (X ++ W0) H) (hD : va_D A (X ++ W0)) (hc : cl[ci]? = some q) (q0 : Nat) (he : W0[q0]? = some (b, .inr (ci, fs))) : PreV s H q.1 b (va_Pc (.ref b :: As) (xk_Bw D cl tys W0)) As := by
  have hP2 : va_P D cl W0 H := xk_Pmem hP (fun x hx => List.mem_append_right _ hx)
  exact ⟨xk_blw, va_recv hK hP2 hc he, fun U hU hW => ⟨rfl, by rw [hU]; exact hP2, va_K.moved hW.alike hK, hN.warm hW, xk_Dend hD⟩⟩
theorem xa_lastW {cc : ByteArray} {ws ws' : va_W} {a : Nat} (hx : p.tables.exec = Jvm.exec) (hb : c.code = cc) (hK : va_K D cl tys s) (hP : va_P D cl ws H) (hD : va_D A ws) (hS : va_S A H0 H locs) (q0 t0 : Nat) {cA : ClassId} {n : Nat} {f : Nat → xw} (ha : ws[q0]? = some (a, .inl (cA, n, .inr (.inl (xw_arr f))))) (ht : tys[t0]? = some (cA, .long)) {i : Int32} {w : xw} (k : Nat) (hi : i = nI k) (hk : k < n) (hn : n < 2 ^ 31) (hd : decode cc pc = .ok (.lastore, 1)) (hs : ws.set q0 (a, .inl (cA, n, .inr (.inl (xw_arr (va_up f k w))))) = ws')
    (kk : ∀ (H1 : Heap) (locs1 : List Loc), va_P D cl ws' H1 → va_D A ws' → va_S A H0 H1 locs1 → W p l e R s m args below meth c H1 locs1 cells slots Q (F0 m (pc + 1) ls rest)) : W p l e R s m args below meth c H locs cells slots Q (F0 m pc ls (.long (xw_enc w) :: .int i :: .ref a :: rest)) := by
  subst hs
  refine xa_last hx hb hK hP hD hS q0 t0 ha ht k hi hk hn hd rfl ?_
  rw [xw_upd]
  exact kk
end XF
theorem k_useOfF (l : Launch) (D : va_G) (cI cJ cS : ClassId) (ad : Nat → Nat) (v : xV) (k : Nat) (hk : k < 256) : xk_Rd l yX2_useOf wsX2_useOf ({ frames := 2, cells := 0, slots := 0, locals := 41 }) D vwCl (xt cI cJ cS) (xst cI cJ ad v) [.ref (ad 0), .int (nI k)] (some (.int (xu v.2.2.2.1 v.2.2.2.2.1 k))) := k_useOf l D cI cJ cS ad v.1 v.2.1 v.2.2.1 v.2.2.2.1 v.2.2.2.2.1 v.2.2.2.2.2.1 v.2.2.2.2.2.2.1 v.2.2.2.2.2.2.2.1 v.2.2.2.2.2.2.2.2.1 v.2.2.2.2.2.2.2.2.2 k hk
theorem k_firstFreeRowF (l : Launch) (D : va_G) (cI cJ cS : ClassId) (ad : Nat → Nat) (v : xV) (x : Int32) : xk_Rd l yX2_firstFreeRow wsX2_firstFreeRow ({ frames := 3, cells := 0, slots := 0, locals := 62 }) D vwCl (xt cI cJ cS) (xst cI cJ ad v) [.ref (ad 0), .int x] (some (.int (x_ffr (xu v.2.2.2.1 v.2.2.2.2.1) x 256 0 0))) := k_firstFreeRow l D cI cJ cS ad v.1 v.2.1 v.2.2.1 v.2.2.2.1 v.2.2.2.2.1 v.2.2.2.2.2.1 v.2.2.2.2.2.2.1 v.2.2.2.2.2.2.2.1 v.2.2.2.2.2.2.2.2.1 v.2.2.2.2.2.2.2.2.2 x
theorem k_rangeFromF (l : Launch) (D : va_G) (cI cJ cS : ClassId) (ad : Nat → Nat) (v : xV) (k : Nat) (hk : k < 256) : xk_Rd l yX2_rangeFrom wsX2_rangeFrom ({ frames := 2, cells := 0, slots := 0, locals := 41 }) D vwCl (xt cI cJ cS) (xst cI cJ ad v) [.ref (ad 0), .int (nI k)] (some (.int (nI (x_rf v.2.2.2.2.2.2.1 k)))) := k_rangeFrom l D cI cJ cS ad v.1 v.2.1 v.2.2.1 v.2.2.2.1 v.2.2.2.2.1 v.2.2.2.2.2.1 v.2.2.2.2.2.2.1 v.2.2.2.2.2.2.2.1 v.2.2.2.2.2.2.2.2.1 v.2.2.2.2.2.2.2.2.2 k hk
theorem k_rangeToF (l : Launch) (D : va_G) (cI cJ cS : ClassId) (ad : Nat → Nat) (v : xV) (k : Nat) (hk : k < 256) : xk_Rd l yX2_rangeTo wsX2_rangeTo ({ frames := 2, cells := 0, slots := 0, locals := 41 }) D vwCl (xt cI cJ cS) (xst cI cJ ad v) [.ref (ad 0), .int (nI k)] (some (.int (nI (x_rt v.2.2.2.1 v.2.2.2.2.2.2.1 (255 - k) (k + 1))))) := k_rangeTo l D cI cJ cS ad v.1 v.2.1 v.2.2.1 v.2.2.2.1 v.2.2.2.2.1 v.2.2.2.2.2.1 v.2.2.2.2.2.2.1 v.2.2.2.2.2.2.2.1 v.2.2.2.2.2.2.2.2.1 v.2.2.2.2.2.2.2.2.2 k hk
theorem k_isRangeF (l : Launch) (D : va_G) (cI cJ cS : ClassId) (ad : Nat → Nat) (v : xV) (k : Nat) (hk : k < 256) (t : Nat) (ht : t < 512) : xk_Rd l yX2_isRange wsX2_isRange ({ frames := 3, cells := 0, slots := 0, locals := 63 }) D vwCl (xt cI cJ cS) (xst cI cJ ad v) [.ref (ad 0), .int (nI k), .int (nI t)] (some (.int (xb (x_isr v.2.2.2.1 v.2.2.2.2.2.2.1 k t)))) := k_isRange l D cI cJ cS ad v.1 v.2.1 v.2.2.1 v.2.2.2.1 v.2.2.2.2.1 v.2.2.2.2.2.1 v.2.2.2.2.2.2.1 v.2.2.2.2.2.2.2.1 v.2.2.2.2.2.2.2.2.1 v.2.2.2.2.2.2.2.2.2 k hk t ht
theorem k_pointersInF (l : Launch) (D : va_G) (cI cJ cS : ClassId) (ad : Nat → Nat) (v : xV) (hm : ∀ k, xw_ok (v.1 k)) (a1 b1 : Nat) (hab : a1 ≤ b1) (hb1 : b1 ≤ 256) : xk_Rd l yX2_pointersIn wsX2_pointersIn ({ frames := 1, cells := 0, slots := 0, locals := 21 }) D vwCl (xt cI cJ cS) (xst cI cJ ad v) [.ref (ad 0), .int (nI a1), .int (nI b1)] (some (.int (x_acc (fun k => xb (xw_p (v.1 k))) a1 (b1 - a1)))) := k_pointersIn l D cI cJ cS ad v.1 v.2.1 v.2.2.1 v.2.2.2.1 v.2.2.2.2.1 v.2.2.2.2.2.1 v.2.2.2.2.2.2.1 v.2.2.2.2.2.2.2.1 v.2.2.2.2.2.2.2.2.1 v.2.2.2.2.2.2.2.2.2 hm a1 b1 hab hb1
theorem k_isSeenF (l : Launch) (D : va_G) (cI cJ cS : ClassId) (ad : Nat → Nat) (v : xV) (hse : v.2.2.2.2.2.2.2.2.1 ≤ 16) (k : Nat) (hk : k < 16) : xk_Rd l yX2_isSeen wsX2_isSeen ({ frames := 0, cells := 0, slots := 0, locals := 0 }) D vwCl (xt cI cJ cS) (xst cI cJ ad v) [.ref (ad 0), .int (nI k)] (some (.int (xb (decide (k < v.2.2.2.2.2.2.2.2.1))))) := k_isSeen l D cI cJ cS ad v.1 v.2.1 v.2.2.1 v.2.2.2.1 v.2.2.2.2.1 v.2.2.2.2.2.1 v.2.2.2.2.2.2.1 v.2.2.2.2.2.2.2.1 v.2.2.2.2.2.2.2.2.1 v.2.2.2.2.2.2.2.2.2 hse k hk
theorem k_isDirtyF (l : Launch) (D : va_G) (cI cJ cS : ClassId) (ad : Nat → Nat) (v : xV) (k : Nat) (hk : k < 16) : xk_Rd l yX2_isDirty wsX2_isDirty ({ frames := 0, cells := 0, slots := 0, locals := 0 }) D vwCl (xt cI cJ cS) (xst cI cJ ad v) [.ref (ad 0), .int (nI k)] (some (.int (xb (v.2.2.2.2.2.2.2.2.2 k)))) := k_isDirty l D cI cJ cS ad v.1 v.2.1 v.2.2.1 v.2.2.2.1 v.2.2.2.2.1 v.2.2.2.2.2.1 v.2.2.2.2.2.2.1 v.2.2.2.2.2.2.2.1 v.2.2.2.2.2.2.2.2.1 v.2.2.2.2.2.2.2.2.2 k hk
theorem k_lookUpF (l : Launch) (D : va_G) (cI cJ cS : ClassId) (ad : Nat → Nat) (v : xV) (hm : ∀ k, xw_ok (v.1 k)) (k : Nat) (hk : k < 256) : xk_Wr l yX2_lookUp wsX2_lookUp ({ frames := 3, cells := 0, slots := 0, locals := 68 }) D vwCl (xt cI cJ cS) (xst cI cJ ad v) [.ref (ad 0), .int (nI k)] (xst cI cJ ad (v.1, v.2.1, x_tk v.2.2.2.2.2.1 (v.1 k) v.2.2.1, v.2.2.2.1, v.2.2.2.2.1, v.2.2.2.2.2.1, v.2.2.2.2.2.2.1, v.2.2.2.2.2.2.2.1, v.2.2.2.2.2.2.2.2.1, v.2.2.2.2.2.2.2.2.2)) (some (.long (xw_enc (x_lk v.2.2.2.2.2.1 (v.1 k))))) := k_lookUp l D cI cJ cS ad v.1 v.2.1 v.2.2.1 v.2.2.2.1 v.2.2.2.2.1 v.2.2.2.2.2.1 v.2.2.2.2.2.2.1 v.2.2.2.2.2.2.2.1 v.2.2.2.2.2.2.2.2.1 v.2.2.2.2.2.2.2.2.2 hm k hk
theorem k_layDownF (l : Launch) (D : va_G) (cI cJ cS : ClassId) (ad : Nat → Nat) (v : xV) (hse : v.2.2.2.2.2.2.2.2.1 ≤ 16) (k : Nat) (hk : k < 256) (w : xw) (hw : xw_ok w) : xk_Wr l yX2_layDown wsX2_layDown ({ frames := 1, cells := 0, slots := 0, locals := 21 }) D vwCl (xt cI cJ cS) (xst cI cJ ad v) [.ref (ad 0), .int (nI k), .long (xw_enc w)] (xst cI cJ ad (va_up v.1 k w, v.2.1, v.2.2.1, v.2.2.2.1, v.2.2.2.2.1, v.2.2.2.2.2.1, v.2.2.2.2.2.2.1, v.2.2.2.2.2.2.2.1, v.2.2.2.2.2.2.2.2.1, x_dk v.2.2.2.2.2.2.2.2.1 w k v.2.2.2.2.2.2.2.2.2)) none := k_layDown l D cI cJ cS ad v.1 v.2.1 v.2.2.1 v.2.2.2.1 v.2.2.2.2.1 v.2.2.2.2.2.1 v.2.2.2.2.2.2.1 v.2.2.2.2.2.2.2.1 v.2.2.2.2.2.2.2.2.1 v.2.2.2.2.2.2.2.2.2 hse k hk w hw
theorem k_beginSweepF (l : Launch) (D : va_G) (cI cJ cS : ClassId) (ad : Nat → Nat) (v : xV)  : xk_Wr l yX2_beginSweep wsX2_beginSweep ({ frames := 3, cells := 0, slots := 0, locals := 81 }) D vwCl (xt cI cJ cS) (xst cI cJ ad v) [.ref (ad 0)] (xst cI cJ ad (v.1, v.2.1, v.2.2.1, v.2.2.2.1, v.2.2.2.2.1, v.2.2.2.2.1, v.2.2.2.2.2.2.1, true, v.2.2.2.2.2.2.2.2.1, v.2.2.2.2.2.2.2.2.2)) (some (.int (nI (xs_w v.2.2.2.2.1 0 256)))) := k_beginSweep l D cI cJ cS ad v.1 v.2.1 v.2.2.1 v.2.2.2.1 v.2.2.2.2.1 v.2.2.2.2.2.1 v.2.2.2.2.2.2.1 v.2.2.2.2.2.2.2.1 v.2.2.2.2.2.2.2.2.1 v.2.2.2.2.2.2.2.2.2 
theorem k_giveOutF (l : Launch) (D : va_G) (cI cJ cS : ClassId) (ad : Nat → Nat) (v : xV) (a1 b1 : Nat) (hab : a1 ≤ b1) (hb1 : b1 ≤ 256) (ha1 : a1 < 256) : xk_Wr l yX2_giveOut wsX2_giveOut ({ frames := 2, cells := 0, slots := 0, locals := 41 }) D vwCl (xt cI cJ cS) (xst cI cJ ad v) [.ref (ad 0), .int (nI a1), .int (nI b1)] (xst cI cJ ad (x_clr v.1 a1 b1, v.2.1, v.2.2.1, x_add v.2.2.2.1 a1 b1, v.2.2.2.2.1, v.2.2.2.2.2.1, va_up v.2.2.2.2.2.2.1 a1 true, v.2.2.2.2.2.2.2.1, v.2.2.2.2.2.2.2.2.1, v.2.2.2.2.2.2.2.2.2)) none := k_giveOut l D cI cJ cS ad v.1 v.2.1 v.2.2.1 v.2.2.2.1 v.2.2.2.2.1 v.2.2.2.2.2.1 v.2.2.2.2.2.2.1 v.2.2.2.2.2.2.2.1 v.2.2.2.2.2.2.2.2.1 v.2.2.2.2.2.2.2.2.2 a1 b1 hab hb1 ha1
theorem k_giveBackF (l : Launch) (D : va_G) (cI cJ cS : ClassId) (ad : Nat → Nat) (v : xV) (a1 b1 : Nat) (hab : a1 ≤ b1) (hb1 : b1 ≤ 256) (ha1 : a1 < 256) : xk_Wr l yX2_giveBack wsX2_giveBack ({ frames := 2, cells := 0, slots := 0, locals := 41 }) D vwCl (xt cI cJ cS) (xst cI cJ ad v) [.ref (ad 0), .int (nI a1), .int (nI b1)] (xst cI cJ ad (v.1, v.2.1, v.2.2.1, x_sub v.2.2.2.1 a1 b1, x_add v.2.2.2.2.1 a1 b1, v.2.2.2.2.2.1, va_up v.2.2.2.2.2.2.1 a1 false, v.2.2.2.2.2.2.2.1, v.2.2.2.2.2.2.2.2.1, v.2.2.2.2.2.2.2.2.2)) none := k_giveBack l D cI cJ cS ad v.1 v.2.1 v.2.2.1 v.2.2.2.1 v.2.2.2.2.1 v.2.2.2.2.2.1 v.2.2.2.2.2.2.1 v.2.2.2.2.2.2.2.1 v.2.2.2.2.2.2.2.2.1 v.2.2.2.2.2.2.2.2.2 a1 b1 hab hb1 ha1
theorem k_lookAtNextPagesF (l : Launch) (D : va_G) (cI cJ cS : ClassId) (ad : Nat → Nat) (v : xV) (hm : ∀ k, xw_ok (v.1 k)) (hse : v.2.2.2.2.2.2.2.2.1 ≤ 16) (k : Nat) (hk1 : 1 ≤ k) (hk : k ≤ 16) : xk_Wr l yX2_lookAtNextPages wsX2_lookAtNextPages ({ frames := 5, cells := 0, slots := 0, locals := 115 }) D vwCl (xt cI cJ cS) (xst cI cJ ad v) [.ref (ad 0), .int (nI k)] (xst cI cJ ad (x_cl v.2.2.2.2.2.1 v.1 (16 * v.2.2.2.2.2.2.2.2.1) (16 * x_stop v.2.2.2.2.2.2.2.2.1 k), v.2.1, x_pt v.2.2.2.2.2.1 v.1 v.2.2.2.2.2.2.2.2.1 k v.2.2.1, v.2.2.2.1, v.2.2.2.2.1, v.2.2.2.2.2.1, v.2.2.2.2.2.2.1, v.2.2.2.2.2.2.2.1, x_stop v.2.2.2.2.2.2.2.2.1 k, v.2.2.2.2.2.2.2.2.2)) (some (.int (x_cn v.2.2.2.2.2.1 v.1 (16 * v.2.2.2.2.2.2.2.2.1) (16 * x_stop v.2.2.2.2.2.2.2.2.1 k)))) := k_lookAtNextPages l D cI cJ cS ad v.1 v.2.1 v.2.2.1 v.2.2.2.1 v.2.2.2.2.1 v.2.2.2.2.2.1 v.2.2.2.2.2.2.1 v.2.2.2.2.2.2.2.1 v.2.2.2.2.2.2.2.2.1 v.2.2.2.2.2.2.2.2.2 hm hse k hk1 hk
theorem k_finishSweepF (l : Launch) (D : va_G) (cI cJ cS : ClassId) (ad : Nat → Nat) (v : xV) (hm : ∀ k, xw_ok (v.1 k)) (hg : ∀ k, xw_ok (v.2.1 k)) : xk_Wr l yX2_finishSweep wsX2_finishSweep ({ frames := 5, cells := 0, slots := 0, locals := 115 }) D vwCl (xt cI cJ cS) (xst cI cJ ad v) [.ref (ad 0)] (xst cI cJ ad (x_dm v.2.2.2.2.2.1 v.2.2.2.2.2.2.2.2.2 v.1 16, x_cl v.2.2.2.2.2.1 v.2.1 0 8, x_et v.2.2.2.2.2.1 v.2.2.2.2.2.2.2.2.2 v.1 v.2.1 v.2.2.1, v.2.2.2.1, fun i => v.2.2.2.2.1 i && !v.2.2.2.2.2.1 i, fun i => v.2.2.2.2.2.1 i && !v.2.2.2.2.2.1 i, v.2.2.2.2.2.2.1, false, 0, fun _ => false)) (some (.int (nI (xs_w v.2.2.2.2.2.1 0 256)))) := k_finishSweep l D cI cJ cS ad v.1 v.2.1 v.2.2.1 v.2.2.2.1 v.2.2.2.2.1 v.2.2.2.2.2.1 v.2.2.2.2.2.2.1 v.2.2.2.2.2.2.2.1 v.2.2.2.2.2.2.2.2.1 v.2.2.2.2.2.2.2.2.2 hm hg
theorem k_becomeF (l : Launch) (D : va_G) (cI cJ cS : ClassId) (ad bd : Nat → Nat) (v v2 : xV) : xk_Wr l yX2_become wsX2_become ({ frames := 2, cells := 0, slots := 0, locals := 81 }) D vwCl (xt cI cJ cS) (xst cI cJ ad v ++ xst cI cJ bd v2) [.ref (ad 0), .ref (bd 0)] (xst cI cJ ad v2 ++ xst cI cJ bd v2) none := k_become l D cI cJ cS ad v.1 v.2.1 v.2.2.1 v.2.2.2.1 v.2.2.2.2.1 v.2.2.2.2.2.1 v.2.2.2.2.2.2.1 v.2.2.2.2.2.2.2.1 v.2.2.2.2.2.2.2.2.1 v.2.2.2.2.2.2.2.2.2 bd v2.1 v2.2.1 v2.2.2.1 v2.2.2.2.1 v2.2.2.2.2.1 v2.2.2.2.2.2.1 v2.2.2.2.2.2.2.1 v2.2.2.2.2.2.2.2.1 v2.2.2.2.2.2.2.2.2.1 v2.2.2.2.2.2.2.2.2.2
set_option maxHeartbeats 4000000 in
set_option maxRecDepth 100000 in
theorem k_keep (l : Launch) (D : va_G) (cI cJ cS : ClassId) (hh ka : Nat) (fk : Nat → Option Nat) (ad : Nat → Nat) (ads : Nat → Nat → Nat) (v : xV) (vs : Nat → xV) (nx sz : Nat) (hka : ∀ i, i < 24 → fk i = some (ads i 0)) (hnx : nx < 24) (hsz : sz ≤ 24) (N4 : Nat) (h4 : N4 = 24)  : xk_Wr l yX1_keep wsX1_keep ({ frames := 3, cells := 0, slots := 0, locals := 102 }) D vwCl (xt cI cJ cS) ([(hh, .inr (1, [.ref ka, .int (nI nx), .int (nI sz)])), (ka, .inl (cS, 24, .inr (.inr (.inr (.inr fk)))))] ++ (xst cI cJ ad v ++ xpl cI cJ ads vs N4)) [.ref hh, .ref (ad 0)] ([(hh, .inr (1, [.ref ka, .int (nI (x_nx nx)), .int (nI (x_sz sz))])), (ka, .inl (cS, 24, .inr (.inr (.inr (.inr fk)))))] ++ (xst cI cJ ad v ++ xpl cI cJ ads (va_up vs nx v) N4)) none := by
  refine xk_wr2 (cc := cX1_keep) (maxL := 2) (ret := none) (by decide) rfl (Nat.le_of_ble_eq_true rfl) (fun p e s m below meth c ls W0v W1v hW1 hx hb hr hlk hml hown hts hl hP hK hN hD hS => ?_)
  replace hl : lv_has ls 2 [(0, .ref hh), (1, .ref (ad 0))] := hl
  have hiX1 : ∀ w ∈ u_ws RX1 TX1 3, w ∈ wsX1_keep := by decide +kernel
  have hpm := xpl_perm cI cJ ads vs nx N4 (by have := hnx; omega)
  have hp1 : (xst cI cJ ad v ++ xpl cI cJ ads vs N4).Perm ((xst cI cJ (ads nx) (vs nx) ++ xst cI cJ ad v) ++ xpx cI cJ ads vs nx N4) := (hpm.append_left _).trans (by rw [← List.append_assoc]; exact List.perm_append_comm.append_right _)
  replace hP : va_P D vwCl ([(hh, .inr (1, [.ref ka, .int (nI nx), .int (nI sz)])), (ka, .inl (cS, 24, .inr (.inr (.inr (.inr fk)))))] ++ ((xst cI cJ (ads nx) (vs nx) ++ xst cI cJ ad v) ++ xpx cI cJ ads vs nx N4)) s.heap := xk_Pperm (hp1.append_left _) hP
  replace hD : va_D _ ([(hh, .inr (1, [.ref ka, .int (nI nx), .int (nI sz)])), (ka, .inl (cS, 24, .inr (.inr (.inr (.inr fk)))))] ++ ((xst cI cJ (ads nx) (vs nx) ++ xst cI cJ ad v) ++ xpx cI cJ ads vs nx N4)) := xk_Dperm (hp1.append_left _) hD
  have hq : (([(hh, .inr (1, [.ref ka, .int (nI (x_nx nx)), .int (nI (x_sz sz))])), (ka, .inl (cS, 24, .inr (.inr (.inr (.inr fk)))))] : va_W) ++ (xst cI cJ ad v ++ xpl cI cJ ads (va_up vs nx v) N4)).Perm (([(hh, .inr (1, [.ref ka, .int (nI (x_nx nx)), .int (nI (x_sz sz))])), (ka, .inl (cS, 24, .inr (.inr (.inr (.inr fk)))))] : va_W) ++ ((xst cI cJ (ads nx) v ++ xst cI cJ ad v) ++ xpx cI cJ ads vs nx N4)) := by
    have h := xpl_perm cI cJ ads (va_up vs nx v) nx N4 (by omega)
    rw [va_up_self, xpx_up] at h
    exact ((h.append_left _).trans (by rw [← List.append_assoc]; exact List.perm_append_comm.append_right _)).append_left _
  generalize xpx cI cJ ads vs nx N4 = tl at hP hD hq
  refine lv_aload_n hx hb dX1_keep_0 rfl (lv_at hl 0 rfl) ?_
  refine va_get (D := D) (ci := 1) (v := .ref ka) (C := RX1) (T := TX1) (N := 3) hx hb hts hiX1 hown hK hP 0 rfl rfl 0 (by decide) (hts (.fieldLink RX1 11 "PointerSweep$History" "kept" "[LPointerSweep$State;") (by decide +kernel)) (fun _ h9 => h9) rfl dX1_keep_1 ?_
  refine lv_aload_n hx hb dX1_keep_4 rfl (lv_at hl 0 rfl) ?_
  refine va_get (D := D) (ci := 1) (v := .int (nI nx)) (C := RX1) (T := TX1) (N := 3) hx hb hts hiX1 hown hK hP 0 rfl rfl 1 (by decide) (hts (.fieldLink RX1 17 "PointerSweep$History" "next" "I") (by decide +kernel)) (fun _ h9 => h9) rfl dX1_keep_5 ?_
  refine xa_aldq hx hb hK hP 1 2 rfl rfl nx rfl hnx (by decide) (hka nx hnx) dX1_keep_8 ?_
  refine lv_aload_n hx hb dX1_keep_9 rfl (lv_at hl 1 rfl) ?_
  refine xk_callM (va_runV (As := [.ref (ad 0)]) (rest := []) ⟨hx, hb, hml, hown, hts⟩ (k_becomeF l D cI cJ cS (ads nx) ad (vs nx) v) (cwV 1 hts gX1_keep_X2_become rfl rfl rfl (by decide +kernel) ⟨Nat.le_of_ble_eq_true rfl, Nat.le_of_ble_eq_true rfl⟩) (xk_preVm hK hN hP hD (ci := 2) rfl 0 rfl) rfl rfl hl.1 rfl (lv_room (Nat.le_of_ble_eq_true rfl)) dX1_keep_10 ⟨Nat.zero_le _, Nat.zero_le _⟩) hP hD hS rfl (fun H locs hP hD hS => ?_)
  refine lv_aload_n hx hb dX1_keep_13 rfl (lv_at hl 0 rfl) ?_
  refine lv_aload_n hx hb dX1_keep_14 rfl (lv_at hl 0 rfl) ?_
  refine va_get (D := D) (ci := 1) (v := .int (nI nx)) (C := RX1) (T := TX1) (N := 3) hx hb hts hiX1 hown hK hP 0 rfl rfl 1 (by decide) (hts (.fieldLink RX1 17 "PointerSweep$History" "next" "I") (by decide +kernel)) (fun _ h9 => h9) rfl dX1_keep_15 ?_
  refine lv_iconst (v := 1) hx hb dX1_keep_18 (by decide) ?_
  refine lv_iadd hx hb dX1_keep_19 ?_
  refine lv_bipush (v := 24) hx hb dX1_keep_20 (by decide) ?_
  refine lv_icmp_ge (tgt := 34) hx hb dX1_keep_22 (by decide) (fun c_22 => ?_) (fun c_22 => ?_)
  · skip
    refine lv_iconst (v := 0) hx hb dX1_keep_34 (by decide) ?_
    refine lv_topi (fun y ey => ?_)
    obtain rfl : y = nI (x_nx nx) := ey.trans (x_nx_n hnx c_22)
    refine xa_put (ci := 1) (v := .int (nI (x_nx nx))) (ty := .int) (C := RX1) (T := TX1) (N := 3) (ws' := [(hh, .inr (1, [.ref ka, .int (nI (x_nx nx)), .int (nI sz)])), (ka, .inl (cS, 24, .inr (.inr (.inr (.inr fk)))))] ++ ((xst cI cJ (ads nx) v ++ xst cI cJ ad v) ++ tl)) hx hb hts hiX1 tyX1 tyX1_ok nmX1 hown hK hP hD hS 0 rfl rfl 1 (by decide) (hts (.fieldLink RX1 17 "PointerSweep$History" "next" "I") (by decide +kernel)) (fun _ h9 => h9) rfl (by decide +kernel) rfl rfl (Nat.le_of_ble_eq_true rfl) dX1_keep_35 rfl (fun H locs hP hD hS => ?_)
    refine lv_aload_n hx hb dX1_keep_38 rfl (lv_at hl 0 rfl) ?_
    refine lv_bipush (v := 24) hx hb dX1_keep_39 (by decide) ?_
    refine lv_aload_n hx hb dX1_keep_41 rfl (lv_at hl 0 rfl) ?_
    refine va_get (D := D) (ci := 1) (v := .int (nI sz)) (C := RX1) (T := TX1) (N := 3) hx hb hts hiX1 hown hK hP 0 rfl rfl 2 (by decide) (hts (.fieldLink RX1 21 "PointerSweep$History" "size" "I") (by decide +kernel)) (fun _ h9 => h9) rfl dX1_keep_42 ?_
    refine lv_iconst (v := 1) hx hb dX1_keep_45 (by decide) ?_
    refine lv_iadd hx hb dX1_keep_46 ?_
    refine va_mmin hx hb (hml.trans hl.1.symm) hown (hts (.methodLink RX1 29 Lib.Math.min.name) (by decide +kernel)) (hts (.static Lib.Math.min.name) (by decide +kernel)) (hts (.initialized "java/lang/Math") (by decide +kernel)) (hts (.code Lib.Math.min.name Lib.Math.min.code 2 (some .int)) (by decide +kernel)) (Nat.le_of_ble_eq_true rfl) (Nat.le_of_ble_eq_true rfl) (Nat.zero_le _) (Nat.zero_le _) dX1_keep_47 ?_
    refine lv_topi (fun y ey => ?_)
    obtain rfl : y = nI (x_sz sz) := ey.trans (x_sz_min hsz)
    refine xa_put (ci := 1) (v := .int (nI (x_sz sz))) (ty := .int) (C := RX1) (T := TX1) (N := 3) (ws' := [(hh, .inr (1, [.ref ka, .int (nI (x_nx nx)), .int (nI (x_sz sz))])), (ka, .inl (cS, 24, .inr (.inr (.inr (.inr fk)))))] ++ ((xst cI cJ (ads nx) v ++ xst cI cJ ad v) ++ tl)) hx hb hts hiX1 tyX1 tyX1_ok nmX1 hown hK hP hD hS 0 rfl rfl 2 (by decide) (hts (.fieldLink RX1 21 "PointerSweep$History" "size" "I") (by decide +kernel)) (fun _ h9 => h9) rfl (by decide +kernel) rfl rfl (Nat.le_of_ble_eq_true rfl) dX1_keep_50 rfl (fun H locs hP hD hS => ?_)
    replace hP := xk_Pperm hq.symm hP
    exact xk_vretW hx hb hr hlk hP hS hW1 dX1_keep_53
  · skip
    refine lv_aload_n hx hb dX1_keep_25 rfl (lv_at hl 0 rfl) ?_
    refine va_get (D := D) (ci := 1) (v := .int (nI nx)) (C := RX1) (T := TX1) (N := 3) hx hb hts hiX1 hown hK hP 0 rfl rfl 1 (by decide) (hts (.fieldLink RX1 17 "PointerSweep$History" "next" "I") (by decide +kernel)) (fun _ h9 => h9) rfl dX1_keep_26 ?_
    refine lv_iconst (v := 1) hx hb dX1_keep_29 (by decide) ?_
    refine lv_iadd hx hb dX1_keep_30 ?_
    refine lv_goto (tgt := 35) hx hb dX1_keep_31 (by decide) ?_
    refine lv_topi (fun y ey => ?_)
    obtain rfl : y = nI (x_nx nx) := ey.trans (x_nx_y hnx c_22)
    refine xa_put (ci := 1) (v := .int (nI (x_nx nx))) (ty := .int) (C := RX1) (T := TX1) (N := 3) (ws' := [(hh, .inr (1, [.ref ka, .int (nI (x_nx nx)), .int (nI sz)])), (ka, .inl (cS, 24, .inr (.inr (.inr (.inr fk)))))] ++ ((xst cI cJ (ads nx) v ++ xst cI cJ ad v) ++ tl)) hx hb hts hiX1 tyX1 tyX1_ok nmX1 hown hK hP hD hS 0 rfl rfl 1 (by decide) (hts (.fieldLink RX1 17 "PointerSweep$History" "next" "I") (by decide +kernel)) (fun _ h9 => h9) rfl (by decide +kernel) rfl rfl (Nat.le_of_ble_eq_true rfl) dX1_keep_35 rfl (fun H locs hP hD hS => ?_)
    refine lv_aload_n hx hb dX1_keep_38 rfl (lv_at hl 0 rfl) ?_
    refine lv_bipush (v := 24) hx hb dX1_keep_39 (by decide) ?_
    refine lv_aload_n hx hb dX1_keep_41 rfl (lv_at hl 0 rfl) ?_
    refine va_get (D := D) (ci := 1) (v := .int (nI sz)) (C := RX1) (T := TX1) (N := 3) hx hb hts hiX1 hown hK hP 0 rfl rfl 2 (by decide) (hts (.fieldLink RX1 21 "PointerSweep$History" "size" "I") (by decide +kernel)) (fun _ h9 => h9) rfl dX1_keep_42 ?_
    refine lv_iconst (v := 1) hx hb dX1_keep_45 (by decide) ?_
    refine lv_iadd hx hb dX1_keep_46 ?_
    refine va_mmin hx hb (hml.trans hl.1.symm) hown (hts (.methodLink RX1 29 Lib.Math.min.name) (by decide +kernel)) (hts (.static Lib.Math.min.name) (by decide +kernel)) (hts (.initialized "java/lang/Math") (by decide +kernel)) (hts (.code Lib.Math.min.name Lib.Math.min.code 2 (some .int)) (by decide +kernel)) (Nat.le_of_ble_eq_true rfl) (Nat.le_of_ble_eq_true rfl) (Nat.zero_le _) (Nat.zero_le _) dX1_keep_47 ?_
    refine lv_topi (fun y ey => ?_)
    obtain rfl : y = nI (x_sz sz) := ey.trans (x_sz_min hsz)
    refine xa_put (ci := 1) (v := .int (nI (x_sz sz))) (ty := .int) (C := RX1) (T := TX1) (N := 3) (ws' := [(hh, .inr (1, [.ref ka, .int (nI (x_nx nx)), .int (nI (x_sz sz))])), (ka, .inl (cS, 24, .inr (.inr (.inr (.inr fk)))))] ++ ((xst cI cJ (ads nx) v ++ xst cI cJ ad v) ++ tl)) hx hb hts hiX1 tyX1 tyX1_ok nmX1 hown hK hP hD hS 0 rfl rfl 2 (by decide) (hts (.fieldLink RX1 21 "PointerSweep$History" "size" "I") (by decide +kernel)) (fun _ h9 => h9) rfl (by decide +kernel) rfl rfl (Nat.le_of_ble_eq_true rfl) dX1_keep_50 rfl (fun H locs hP hD hS => ?_)
    replace hP := xk_Pperm hq.symm hP
    exact xk_vretW hx hb hr hlk hP hS hW1 dX1_keep_53
set_option maxHeartbeats 4000000 in
set_option maxRecDepth 100000 in
theorem k_takeBack (l : Launch) (D : va_G) (cI cJ cS : ClassId) (hh ka : Nat) (fk : Nat → Option Nat) (ad : Nat → Nat) (ads : Nat → Nat → Nat) (v : xV) (vs : Nat → xV) (nx sz : Nat) (hka : ∀ i, i < 24 → fk i = some (ads i 0)) (hnx : nx < 24) (hsz : sz ≤ 24) (N4 : Nat) (h4 : N4 = 24) (hs0 : 0 < sz) : xk_Wr l yX1_takeBack wsX1_takeBack ({ frames := 3, cells := 0, slots := 0, locals := 102 }) D vwCl (xt cI cJ cS) ([(hh, .inr (1, [.ref ka, .int (nI nx), .int (nI sz)])), (ka, .inl (cS, 24, .inr (.inr (.inr (.inr fk)))))] ++ (xst cI cJ ad v ++ xpl cI cJ ads vs N4)) [.ref hh, .ref (ad 0)] ([(hh, .inr (1, [.ref ka, .int (nI (x_pv nx)), .int (nI (sz - 1))])), (ka, .inl (cS, 24, .inr (.inr (.inr (.inr fk)))))] ++ (xst cI cJ ad (vs (x_pv nx)) ++ xpl cI cJ ads vs N4)) none := by
  refine xk_wr2 (cc := cX1_takeBack) (maxL := 2) (ret := none) (by decide) rfl (Nat.le_of_ble_eq_true rfl) (fun p e s m below meth c ls W0v W1v hW1 hx hb hr hlk hml hown hts hl hP hK hN hD hS => ?_)
  replace hl : lv_has ls 2 [(0, .ref hh), (1, .ref (ad 0))] := hl
  have hiX1 : ∀ w ∈ u_ws RX1 TX1 3, w ∈ wsX1_takeBack := by decide +kernel
  have hpl := x_pv_lt hnx
  have hpm := xpl_perm cI cJ ads vs (x_pv nx) N4 (by have := hpl; omega)
  have hp1 : (xst cI cJ ad v ++ xpl cI cJ ads vs N4).Perm ((xst cI cJ ad v ++ xst cI cJ (ads (x_pv nx)) (vs (x_pv nx))) ++ xpx cI cJ ads vs (x_pv nx) N4) := (hpm.append_left _).trans (by rw [← List.append_assoc])
  replace hP : va_P D vwCl ([(hh, .inr (1, [.ref ka, .int (nI nx), .int (nI sz)])), (ka, .inl (cS, 24, .inr (.inr (.inr (.inr fk)))))] ++ ((xst cI cJ ad v ++ xst cI cJ (ads (x_pv nx)) (vs (x_pv nx))) ++ xpx cI cJ ads vs (x_pv nx) N4)) s.heap := xk_Pperm (hp1.append_left _) hP
  replace hD : va_D _ ([(hh, .inr (1, [.ref ka, .int (nI nx), .int (nI sz)])), (ka, .inl (cS, 24, .inr (.inr (.inr (.inr fk)))))] ++ ((xst cI cJ ad v ++ xst cI cJ (ads (x_pv nx)) (vs (x_pv nx))) ++ xpx cI cJ ads vs (x_pv nx) N4)) := xk_Dperm (hp1.append_left _) hD
  have hq : (([(hh, .inr (1, [.ref ka, .int (nI (x_pv nx)), .int (nI (sz - 1))])), (ka, .inl (cS, 24, .inr (.inr (.inr (.inr fk)))))] : va_W) ++ (xst cI cJ ad (vs (x_pv nx)) ++ xpl cI cJ ads vs N4)).Perm (([(hh, .inr (1, [.ref ka, .int (nI (x_pv nx)), .int (nI (sz - 1))])), (ka, .inl (cS, 24, .inr (.inr (.inr (.inr fk)))))] : va_W) ++ ((xst cI cJ ad (vs (x_pv nx)) ++ xst cI cJ (ads (x_pv nx)) (vs (x_pv nx))) ++ xpx cI cJ ads vs (x_pv nx) N4)) := ((hpm.append_left _).trans (by rw [← List.append_assoc])).append_left _
  generalize xpx cI cJ ads vs (x_pv nx) N4 = tl at hP hD hq
  refine lv_aload_n hx hb dX1_takeBack_0 rfl (lv_at hl 0 rfl) ?_
  refine va_get (D := D) (ci := 1) (v := .int (nI sz)) (C := RX1) (T := TX1) (N := 3) hx hb hts hiX1 hown hK hP 0 rfl rfl 2 (by decide) (hts (.fieldLink RX1 21 "PointerSweep$History" "size" "I") (by decide +kernel)) (fun _ h9 => h9) rfl dX1_takeBack_1 ?_
  refine lv_if_le (tgt := 52) hx hb dX1_takeBack_4 (by decide) (fun c_4 => ?_) (fun c_4 => ?_)
  · skip
    exact absurd c_4 (nI_nle hs0 (by omega))
  · skip
    refine lv_aload_n hx hb dX1_takeBack_7 rfl (lv_at hl 0 rfl) ?_
    refine lv_aload_n hx hb dX1_takeBack_8 rfl (lv_at hl 0 rfl) ?_
    refine va_get (D := D) (ci := 1) (v := .int (nI nx)) (C := RX1) (T := TX1) (N := 3) hx hb hts hiX1 hown hK hP 0 rfl rfl 1 (by decide) (hts (.fieldLink RX1 17 "PointerSweep$History" "next" "I") (by decide +kernel)) (fun _ h9 => h9) rfl dX1_takeBack_9 ?_
    refine lv_if_le (tgt := 24) hx hb dX1_takeBack_12 (by decide) (fun c_12 => ?_) (fun c_12 => ?_)
    · skip
      refine lv_bipush (v := 23) hx hb dX1_takeBack_24 (by decide) ?_
      refine lv_topi (fun y ey => ?_)
      obtain rfl : y = nI (x_pv nx) := ey.trans (x_pv_n hnx c_12)
      refine xa_put (ci := 1) (v := .int (nI (x_pv nx))) (ty := .int) (C := RX1) (T := TX1) (N := 3) (ws' := [(hh, .inr (1, [.ref ka, .int (nI (x_pv nx)), .int (nI sz)])), (ka, .inl (cS, 24, .inr (.inr (.inr (.inr fk)))))] ++ ((xst cI cJ ad v ++ xst cI cJ (ads (x_pv nx)) (vs (x_pv nx))) ++ tl)) hx hb hts hiX1 tyX1 tyX1_ok nmX1 hown hK hP hD hS 0 rfl rfl 1 (by decide) (hts (.fieldLink RX1 17 "PointerSweep$History" "next" "I") (by decide +kernel)) (fun _ h9 => h9) rfl (by decide +kernel) rfl rfl (Nat.le_of_ble_eq_true rfl) dX1_takeBack_26 rfl (fun H locs hP hD hS => ?_)
      refine lv_aload_n hx hb dX1_takeBack_29 rfl (lv_at hl 0 rfl) ?_
      refine lv_dup hx hb dX1_takeBack_30 rfl ?_
      refine va_get (D := D) (ci := 1) (v := .int (nI sz)) (C := RX1) (T := TX1) (N := 3) hx hb hts hiX1 hown hK hP 0 rfl rfl 2 (by decide) (hts (.fieldLink RX1 21 "PointerSweep$History" "size" "I") (by decide +kernel)) (fun _ h9 => h9) rfl dX1_takeBack_31 ?_
      refine lv_iconst (v := 1) hx hb dX1_takeBack_34 (by decide) ?_
      refine lv_isub hx hb dX1_takeBack_35 ?_
      refine lv_topi (fun y ey => ?_)
      obtain rfl : y = nI (sz - 1) := ey.trans (x_szm hs0)
      refine xa_put (ci := 1) (v := .int (nI (sz - 1))) (ty := .int) (C := RX1) (T := TX1) (N := 3) (ws' := [(hh, .inr (1, [.ref ka, .int (nI (x_pv nx)), .int (nI (sz - 1))])), (ka, .inl (cS, 24, .inr (.inr (.inr (.inr fk)))))] ++ ((xst cI cJ ad v ++ xst cI cJ (ads (x_pv nx)) (vs (x_pv nx))) ++ tl)) hx hb hts hiX1 tyX1 tyX1_ok nmX1 hown hK hP hD hS 0 rfl rfl 2 (by decide) (hts (.fieldLink RX1 21 "PointerSweep$History" "size" "I") (by decide +kernel)) (fun _ h9 => h9) rfl (by decide +kernel) rfl rfl (Nat.le_of_ble_eq_true rfl) dX1_takeBack_36 rfl (fun H locs hP hD hS => ?_)
      refine lv_aload_n hx hb dX1_takeBack_39 rfl (lv_at hl 1 rfl) ?_
      refine lv_aload_n hx hb dX1_takeBack_40 rfl (lv_at hl 0 rfl) ?_
      refine va_get (D := D) (ci := 1) (v := .ref ka) (C := RX1) (T := TX1) (N := 3) hx hb hts hiX1 hown hK hP 0 rfl rfl 0 (by decide) (hts (.fieldLink RX1 11 "PointerSweep$History" "kept" "[LPointerSweep$State;") (by decide +kernel)) (fun _ h9 => h9) rfl dX1_takeBack_41 ?_
      refine lv_aload_n hx hb dX1_takeBack_44 rfl (lv_at hl 0 rfl) ?_
      refine va_get (D := D) (ci := 1) (v := .int (nI (x_pv nx))) (C := RX1) (T := TX1) (N := 3) hx hb hts hiX1 hown hK hP 0 rfl rfl 1 (by decide) (hts (.fieldLink RX1 17 "PointerSweep$History" "next" "I") (by decide +kernel)) (fun _ h9 => h9) rfl dX1_takeBack_45 ?_
      refine xa_aldq hx hb hK hP 1 2 rfl rfl (x_pv nx) rfl hpl (by decide) (hka _ hpl) dX1_takeBack_48 ?_
      refine xk_callM (va_runV (As := [.ref (ads (x_pv nx) 0)]) (rest := []) ⟨hx, hb, hml, hown, hts⟩ (k_becomeF l D cI cJ cS ad (ads (x_pv nx)) v (vs (x_pv nx))) (cwV 1 hts gX1_takeBack_X2_become rfl rfl rfl (by decide +kernel) ⟨Nat.le_of_ble_eq_true rfl, Nat.le_of_ble_eq_true rfl⟩) (xk_preVm hK hN hP hD (ci := 2) rfl 0 rfl) rfl rfl hl.1 rfl (lv_room (Nat.le_of_ble_eq_true rfl)) dX1_takeBack_49 ⟨Nat.zero_le _, Nat.zero_le _⟩) hP hD hS rfl (fun H locs hP hD hS => ?_)
      replace hP := xk_Pperm hq.symm hP
      exact xk_vretW hx hb hr hlk hP hS hW1 dX1_takeBack_52
    · skip
      refine lv_aload_n hx hb dX1_takeBack_15 rfl (lv_at hl 0 rfl) ?_
      refine va_get (D := D) (ci := 1) (v := .int (nI nx)) (C := RX1) (T := TX1) (N := 3) hx hb hts hiX1 hown hK hP 0 rfl rfl 1 (by decide) (hts (.fieldLink RX1 17 "PointerSweep$History" "next" "I") (by decide +kernel)) (fun _ h9 => h9) rfl dX1_takeBack_16 ?_
      refine lv_iconst (v := 1) hx hb dX1_takeBack_19 (by decide) ?_
      refine lv_isub hx hb dX1_takeBack_20 ?_
      refine lv_goto (tgt := 26) hx hb dX1_takeBack_21 (by decide) ?_
      refine lv_topi (fun y ey => ?_)
      obtain rfl : y = nI (x_pv nx) := ey.trans (x_pv_y hnx c_12)
      refine xa_put (ci := 1) (v := .int (nI (x_pv nx))) (ty := .int) (C := RX1) (T := TX1) (N := 3) (ws' := [(hh, .inr (1, [.ref ka, .int (nI (x_pv nx)), .int (nI sz)])), (ka, .inl (cS, 24, .inr (.inr (.inr (.inr fk)))))] ++ ((xst cI cJ ad v ++ xst cI cJ (ads (x_pv nx)) (vs (x_pv nx))) ++ tl)) hx hb hts hiX1 tyX1 tyX1_ok nmX1 hown hK hP hD hS 0 rfl rfl 1 (by decide) (hts (.fieldLink RX1 17 "PointerSweep$History" "next" "I") (by decide +kernel)) (fun _ h9 => h9) rfl (by decide +kernel) rfl rfl (Nat.le_of_ble_eq_true rfl) dX1_takeBack_26 rfl (fun H locs hP hD hS => ?_)
      refine lv_aload_n hx hb dX1_takeBack_29 rfl (lv_at hl 0 rfl) ?_
      refine lv_dup hx hb dX1_takeBack_30 rfl ?_
      refine va_get (D := D) (ci := 1) (v := .int (nI sz)) (C := RX1) (T := TX1) (N := 3) hx hb hts hiX1 hown hK hP 0 rfl rfl 2 (by decide) (hts (.fieldLink RX1 21 "PointerSweep$History" "size" "I") (by decide +kernel)) (fun _ h9 => h9) rfl dX1_takeBack_31 ?_
      refine lv_iconst (v := 1) hx hb dX1_takeBack_34 (by decide) ?_
      refine lv_isub hx hb dX1_takeBack_35 ?_
      refine lv_topi (fun y ey => ?_)
      obtain rfl : y = nI (sz - 1) := ey.trans (x_szm hs0)
      refine xa_put (ci := 1) (v := .int (nI (sz - 1))) (ty := .int) (C := RX1) (T := TX1) (N := 3) (ws' := [(hh, .inr (1, [.ref ka, .int (nI (x_pv nx)), .int (nI (sz - 1))])), (ka, .inl (cS, 24, .inr (.inr (.inr (.inr fk)))))] ++ ((xst cI cJ ad v ++ xst cI cJ (ads (x_pv nx)) (vs (x_pv nx))) ++ tl)) hx hb hts hiX1 tyX1 tyX1_ok nmX1 hown hK hP hD hS 0 rfl rfl 2 (by decide) (hts (.fieldLink RX1 21 "PointerSweep$History" "size" "I") (by decide +kernel)) (fun _ h9 => h9) rfl (by decide +kernel) rfl rfl (Nat.le_of_ble_eq_true rfl) dX1_takeBack_36 rfl (fun H locs hP hD hS => ?_)
      refine lv_aload_n hx hb dX1_takeBack_39 rfl (lv_at hl 1 rfl) ?_
      refine lv_aload_n hx hb dX1_takeBack_40 rfl (lv_at hl 0 rfl) ?_
      refine va_get (D := D) (ci := 1) (v := .ref ka) (C := RX1) (T := TX1) (N := 3) hx hb hts hiX1 hown hK hP 0 rfl rfl 0 (by decide) (hts (.fieldLink RX1 11 "PointerSweep$History" "kept" "[LPointerSweep$State;") (by decide +kernel)) (fun _ h9 => h9) rfl dX1_takeBack_41 ?_
      refine lv_aload_n hx hb dX1_takeBack_44 rfl (lv_at hl 0 rfl) ?_
      refine va_get (D := D) (ci := 1) (v := .int (nI (x_pv nx))) (C := RX1) (T := TX1) (N := 3) hx hb hts hiX1 hown hK hP 0 rfl rfl 1 (by decide) (hts (.fieldLink RX1 17 "PointerSweep$History" "next" "I") (by decide +kernel)) (fun _ h9 => h9) rfl dX1_takeBack_45 ?_
      refine xa_aldq hx hb hK hP 1 2 rfl rfl (x_pv nx) rfl hpl (by decide) (hka _ hpl) dX1_takeBack_48 ?_
      refine xk_callM (va_runV (As := [.ref (ads (x_pv nx) 0)]) (rest := []) ⟨hx, hb, hml, hown, hts⟩ (k_becomeF l D cI cJ cS ad (ads (x_pv nx)) v (vs (x_pv nx))) (cwV 1 hts gX1_takeBack_X2_become rfl rfl rfl (by decide +kernel) ⟨Nat.le_of_ble_eq_true rfl, Nat.le_of_ble_eq_true rfl⟩) (xk_preVm hK hN hP hD (ci := 2) rfl 0 rfl) rfl rfl hl.1 rfl (lv_room (Nat.le_of_ble_eq_true rfl)) dX1_takeBack_49 ⟨Nat.zero_le _, Nat.zero_le _⟩) hP hD hS rfl (fun H locs hP hD hS => ?_)
      replace hP := xk_Pperm hq.symm hP
      exact xk_vretW hx hb hr hlk hP hS hW1 dX1_takeBack_52
end
section
/-! What each call answers, and the state behind it where it is an act: both sides are tied to these -/
section XSP
def xN (x : Int32) : Nat := x.toInt.toNat
theorem xN_nI {k : Nat} (h : k < 2 ^ 31) : xN (nI k) = k := by unfold xN; rw [nI_toInt h]; rfl
/-- a word in order: bounds of at least one cell, within memory -/
def xw_ok2 (w : xw) : Prop := match w.2 with
  | none => True
  | some (f, t, r) => f < t ∧ t ≤ 256 ∧ r < 4
theorem xw_ok2_ok {w : xw} (h : xw_ok2 w) : xw_ok w := by
  obtain ⟨a, o⟩ := w
  cases o with
  | none => trivial
  | some q =>
    obtain ⟨f, t, r⟩ := q
    obtain ⟨h1, h2, h3⟩ := h
    exact ⟨by omega, by omega, h3⟩
theorem xw_ok2_p {w : xw} (h : xw_ok2 w) (hp : xw_p w = true) : w = (w.1, some (xw_f w, xw_t w, xw_r w)) ∧ xw_f w < xw_t w ∧ xw_t w ≤ 256 ∧ xw_r w < 4 := by
  obtain ⟨a, o⟩ := w
  cases o with
  | none => cases hp
  | some q => obtain ⟨f, t, r⟩ := q; exact ⟨rfl, h⟩
def x_ok (v : xV) : Prop := (∀ k, xw_ok2 (v.1 k)) ∧ (∀ k, xw_ok2 (v.2.1 k)) ∧ v.2.2.2.2.2.2.2.2.1 ≤ 16
theorem x_ok_m {v : xV} (h : x_ok v) : ∀ k, xw_ok (v.1 k) := fun k => xw_ok2_ok (h.1 k)
theorem x_ok_r {v : xV} (h : x_ok v) : ∀ k, xw_ok (v.2.1 k) := fun k => xw_ok2_ok (h.2.1 k)
def x_fault (w : xw) (right d n : Int32) : Int32 := if xw_p w = true then (if nI (xw_r w) &&& right = 0 then -12 else if xw_cov w d n = true then 0 else -13) else -11
def x_reg (v : xV) (r : Nat) (w : xw) : xV := (v.1, va_up v.2.1 r w, v.2.2.1, v.2.2.2.1, v.2.2.2.2.1, v.2.2.2.2.2.1, v.2.2.2.2.2.2.1, v.2.2.2.2.2.2.2.1, v.2.2.2.2.2.2.2.2.1, v.2.2.2.2.2.2.2.2.2)
def x_giv (v : xV) (r f n : Nat) : xV := (x_clr v.1 f (f + n), va_up v.2.1 r (nI f, some (f, f + n, 3)), v.2.2.1, x_add v.2.2.2.1 f (f + n), v.2.2.2.2.1, v.2.2.2.2.2.1, va_up v.2.2.2.2.2.2.1 f true, v.2.2.2.2.2.2.2.1, v.2.2.2.2.2.2.2.2.1, v.2.2.2.2.2.2.2.2.2)
def sp_give (v : xV) (r n : Int32) : Int32 × Option xV :=
  if xi r 8 = true ∧ ¬ n < 1 ∧ n ≤ 64 then
    (if x_ffr (xu v.2.2.2.1 v.2.2.2.2.1) n 256 0 0 < 0 then (-3, none) else (x_ffr (xu v.2.2.2.1 v.2.2.2.2.1) n 256 0 0, some (x_giv v (xN r) (xN (x_ffr (xu v.2.2.2.1 v.2.2.2.2.1) n 256 0 0)) (xN n))))
  else (-1, none)
def x_bak (v : xV) (f t : Nat) : xV := (v.1, v.2.1, v.2.2.1, x_sub v.2.2.2.1 f t, x_add v.2.2.2.2.1 f t, v.2.2.2.2.2.1, va_up v.2.2.2.2.2.2.1 f false, v.2.2.2.2.2.2.2.1, v.2.2.2.2.2.2.2.2.1, v.2.2.2.2.2.2.2.2.2)
def sp_back (v : xV) (r : Int32) : Int32 × Option xV :=
  if xi r 8 = true then
    (if xw_p (v.2.1 (xN r)) = true then
      (if x_isr v.2.2.2.1 v.2.2.2.2.2.2.1 (xw_f (v.2.1 (xN r))) (xw_t (v.2.1 (xN r))) = true then (nI (xw_t (v.2.1 (xN r))) - nI (xw_f (v.2.1 (xN r))), some (x_bak v (xw_f (v.2.1 (xN r))) (xw_t (v.2.1 (xN r))))) else (-2, none))
     else (-11, none))
  else (-1, none)
def sp_number (v : xV) (r x : Int32) : Int32 × Option xV := if xi r 8 = true then (0, some (x_reg v (xN r) (x, none))) else (-1, none)
def sp_copy (v : xV) (r q : Int32) : Int32 × Option xV := if xi r 8 = true ∧ xi q 8 = true then (0, some (x_reg v (xN r) (v.2.1 (xN q)))) else (-1, none)
def sp_move (v : xV) (r d : Int32) : Int32 × Option xV :=
  if xi r 8 = true then
    (if xw_p (v.2.1 (xN r)) = true then ((v.2.1 (xN r)).1 + d, some (x_reg v (xN r) ((v.2.1 (xN r)).1 + d, some (xw_f (v.2.1 (xN r)), xw_t (v.2.1 (xN r)), xw_r (v.2.1 (xN r)))))) else (-1000000011, none))
  else (-1000000001, none)
def sp_narrow (v : xV) (r q n k : Int32) : Int32 × Option xV :=
  if xi r 8 = true ∧ xi q 8 = true ∧ ¬ n < 1 ∧ ¬ k < 0 ∧ k ≤ 3 then
    (if xw_p (v.2.1 (xN q)) = true then
      (if xw_cov (v.2.1 (xN q)) 0 n = true then ((v.2.1 (xN q)).1, some (x_reg v (xN r) ((v.2.1 (xN q)).1, some (xN (v.2.1 (xN q)).1, xN (v.2.1 (xN q)).1 + xN n, xN (nI (xw_r (v.2.1 (xN q))) &&& k))))) else (-13, none))
     else (-11, none))
  else (-1, none)
def x_lok (v : xV) (r k : Nat) : xV := (v.1, va_up v.2.1 r (x_lk v.2.2.2.2.2.1 (v.1 k)), x_tk v.2.2.2.2.2.1 (v.1 k) v.2.2.1, v.2.2.2.1, v.2.2.2.2.1, v.2.2.2.2.2.1, v.2.2.2.2.2.2.1, v.2.2.2.2.2.2.2.1, v.2.2.2.2.2.2.2.2.1, v.2.2.2.2.2.2.2.2.2)
def sp_look (v : xV) (r q d : Int32) : Int32 × Option xV :=
  if xi r 8 = true ∧ xi q 8 = true then
    (if x_fault (v.2.1 (xN q)) 1 d 1 = 0 then (xb (xw_p (x_lk v.2.2.2.2.2.1 (v.1 (xN ((v.2.1 (xN q)).1 + d))))), some (x_lok v (xN r) (xN ((v.2.1 (xN q)).1 + d)))) else (x_fault (v.2.1 (xN q)) 1 d 1, none))
  else (-1, none)
def x_lay (v : xV) (k : Nat) (w : xw) : xV := (va_up v.1 k w, v.2.1, v.2.2.1, v.2.2.2.1, v.2.2.2.2.1, v.2.2.2.2.2.1, v.2.2.2.2.2.2.1, v.2.2.2.2.2.2.2.1, v.2.2.2.2.2.2.2.2.1, x_dk v.2.2.2.2.2.2.2.2.1 w k v.2.2.2.2.2.2.2.2.2)
def sp_lay (v : xV) (q d r : Int32) : Int32 × Option xV :=
  if xi q 8 = true ∧ xi r 8 = true then
    (if x_fault (v.2.1 (xN q)) 2 d 1 = 0 then ((v.2.1 (xN q)).1 + d, some (x_lay v (xN ((v.2.1 (xN q)).1 + d)) (v.2.1 (xN r)))) else (x_fault (v.2.1 (xN q)) 2 d 1, none))
  else (-1, none)
/-- n words looked up from b on, and how many of them were stale -/
def x_tks (X : Nat → Bool) (f : Nat → xw) (b : Nat) (tal : Nat → Int32) : Nat → (Nat → Int32)
  | 0 => tal
  | n + 1 => x_tk X (f (b + n)) (x_tks X f b tal n)
def x_mov (X : Nat → Bool) (f : Nat → xw) (a b n : Nat) : Nat → xw := fun k => if a ≤ k ∧ k < a + n then x_lk X (f (b + (k - a))) else f k
def x_dks (seen : Nat) (X : Nat → Bool) (f : Nat → xw) (a b : Nat) (dy : Nat → Bool) : Nat → (Nat → Bool)
  | 0 => dy
  | n + 1 => x_dk seen (x_lk X (f (b + n))) (a + n) (x_dks seen X f a b dy n)
def x_blk (v : xV) (a b n : Nat) : xV := (x_mov v.2.2.2.2.2.1 v.1 a b n, v.2.1, x_tks v.2.2.2.2.2.1 v.1 b v.2.2.1 n, v.2.2.2.1, v.2.2.2.2.1, v.2.2.2.2.2.1, v.2.2.2.2.2.2.1, v.2.2.2.2.2.2.2.1, v.2.2.2.2.2.2.2.2.1, x_dks v.2.2.2.2.2.2.2.2.1 v.2.2.2.2.2.1 v.1 a b v.2.2.2.2.2.2.2.2.2 n)
def sp_block (v : xV) (q d t e n : Int32) : Int32 × Option xV :=
  if xi q 8 = true ∧ xi t 8 = true ∧ ¬ n < 1 ∧ n ≤ 64 then
    (if x_fault (v.2.1 (xN q)) 2 d n = 0 then
      (if x_fault (v.2.1 (xN t)) 1 e n = 0 then (n, some (x_blk v (xN ((v.2.1 (xN q)).1 + d)) (xN ((v.2.1 (xN t)).1 + e)) (xN n))) else (x_fault (v.2.1 (xN t)) 1 e n, none))
     else (x_fault (v.2.1 (xN q)) 2 d n, none))
  else (-1, none)
def x_swp (v : xV) : xV := (v.1, v.2.1, v.2.2.1, v.2.2.2.1, v.2.2.2.2.1, v.2.2.2.2.1, v.2.2.2.2.2.2.1, true, v.2.2.2.2.2.2.2.2.1, v.2.2.2.2.2.2.2.2.2)
def sp_sweep (v : xV) : Int32 × Option xV := if v.2.2.2.2.2.2.2.1 = true then (-2, none) else (nI (xs_w v.2.2.2.2.1 0 256), some (x_swp v))
def x_stp (v : xV) (k : Nat) : xV := (x_cl v.2.2.2.2.2.1 v.1 (16 * v.2.2.2.2.2.2.2.2.1) (16 * x_stop v.2.2.2.2.2.2.2.2.1 k), v.2.1, x_pt v.2.2.2.2.2.1 v.1 v.2.2.2.2.2.2.2.2.1 k v.2.2.1, v.2.2.2.1, v.2.2.2.2.1, v.2.2.2.2.2.1, v.2.2.2.2.2.2.1, v.2.2.2.2.2.2.2.1, x_stop v.2.2.2.2.2.2.2.2.1 k, v.2.2.2.2.2.2.2.2.2)
def sp_step (v : xV) (n : Int32) : Int32 × Option xV :=
  if ¬ n < 1 ∧ n ≤ 16 then (if v.2.2.2.2.2.2.2.1 = true then (x_cn v.2.2.2.2.2.1 v.1 (16 * v.2.2.2.2.2.2.2.2.1) (16 * x_stop v.2.2.2.2.2.2.2.2.1 (xN n)), some (x_stp v (xN n))) else (-2, none)) else (-1, none)
def x_end (v : xV) : xV := (x_dm v.2.2.2.2.2.1 v.2.2.2.2.2.2.2.2.2 v.1 16, x_cl v.2.2.2.2.2.1 v.2.1 0 8, x_et v.2.2.2.2.2.1 v.2.2.2.2.2.2.2.2.2 v.1 v.2.1 v.2.2.1, v.2.2.2.1, fun i => v.2.2.2.2.1 i && !v.2.2.2.2.2.1 i, fun i => v.2.2.2.2.2.1 i && !v.2.2.2.2.2.1 i, v.2.2.2.2.2.2.1, false, 0, fun _ => false)
def sp_end (v : xV) : Int32 × Option xV := if v.2.2.2.2.2.2.2.1 = true ∧ 16 ≤ v.2.2.2.2.2.2.2.2.1 then (nI (xs_w v.2.2.2.2.2.1 0 256), some (x_end v)) else (-2, none)
def x_told (X : Nat → Bool) (w : xw) (use what : Int32) : Int32 :=
  if what = 0 then xb (xw_p w) else if what = 1 then w.1 else if what = 2 then nI (xw_f w) else if what = 3 then nI (xw_t w) else if what = 4 then nI (xw_r w) else if what = 5 then use else if what = 6 then xb (x_stale X w) else -1000000001
def sp_told (v : xV) (wh i what : Int32) : Int32 :=
  if wh = 0 ∧ xi i 8 = true then x_told v.2.2.2.2.2.1 (v.2.1 (xN i)) 0 what else if wh = 1 ∧ xi i 256 = true then x_told v.2.2.2.2.2.1 (v.1 (xN i)) (xu v.2.2.2.1 v.2.2.2.2.1 (xN i)) what else -1000000001
def sp_page (v : xV) (p what : Int32) : Int32 :=
  if xi p 16 = true then
    (if what = 0 then xb (decide (xN p < v.2.2.2.2.2.2.2.2.1)) else if what = 1 then xb (v.2.2.2.2.2.2.2.2.2 (xN p)) else if what = 2 then x_acc (fun k => xb (xw_p (v.1 k))) (16 * xN p) (16 * xN p + 16 - 16 * xN p) else if what = 3 then nI (xs_w v.2.2.2.1 (16 * xN p) (16 * xN p + 16)) else if what = 4 then nI (xs_w v.2.2.2.2.1 (16 * xN p) (16 * xN p + 16)) else -1)
  else -1
def sp_range (v : xV) (i what : Int32) : Int32 :=
  if xi i 256 = true ∧ ¬ what < 0 ∧ what ≤ 1 then
    (if v.2.2.2.1 (xN i) = true then (if what = 0 then nI (x_rf v.2.2.2.2.2.2.1 (xN i)) else nI (x_rt v.2.2.2.1 v.2.2.2.2.2.2.1 (255 - xN i) (xN i + 1)) - nI (x_rf v.2.2.2.2.2.2.1 (xN i))) else -4)
  else -1
def sp_count (v : xV) (sz : Nat) (what : Int32) : Int32 :=
  if ¬ what < 5 ∧ ¬ 12 ≤ what then v.2.2.1 (xN (what - 5)) else if what = 0 then 256 - nI (xs_w v.2.2.2.1 0 256) - nI (xs_w v.2.2.2.2.1 0 256) else if what = 1 then nI (xs_w v.2.2.2.1 0 256) else if what = 2 then nI (xs_w v.2.2.2.2.1 0 256) else if what = 3 then nI (xs_w v.2.2.2.2.2.1 0 256) else if what = 4 then nI (xs_w v.2.2.2.2.2.2.1 0 256) else if what = 12 then xb v.2.2.2.2.2.2.2.1 else if what = 13 then nI sz else -1
/-- the class's world -/
def xx (cI cJ cS : ClassId) (h0 ca hh ka : Nat) (fk : Nat → Option Nat) (ad : Nat → Nat) (ads : Nat → Nat → Nat) (N4 : Nat) (cr : Nat → Int64) (v : xV) (vs : Nat → xV) (nx sz : Nat) : va_W := [(h0, .inr (3, [.ref (ad 0), .ref hh, .ref ca])), (ca, .inl (cJ, 64, .inr (.inl cr))), (hh, .inr (1, [.ref ka, .int (nI nx), .int (nI sz)])), (ka, .inl (cS, 24, .inr (.inr (.inr (.inr fk)))))] ++ (xst cI cJ ad v ++ xpl cI cJ ads vs N4)
def xxo (cI cJ cS : ClassId) (h0 ca hh ka : Nat) (fk : Nat → Option Nat) (ad : Nat → Nat) (ads : Nat → Nat → Nat) (N4 : Nat) (cr : Nat → Int64) (v : xV) (vs : Nat → xV) (nx sz : Nat) (o : Option xV) : va_W := match o with
  | none => xx cI cJ cS h0 ca hh ka fk ad ads N4 cr v vs nx sz
  | some v' => xx cI cJ cS h0 ca hh ka fk ad ads N4 cr v' (va_up vs nx v) (x_nx nx) (x_sz sz)
end XSP
end
section
theorem xh_fst (cI cJ cS : ClassId) (hh ka : Nat) (fk : Nat → Option Nat) (ad : Nat → Nat) (ads : Nat → Nat → Nat) (N4 : Nat) (v v2 : xV) (vs vs2 : Nat → xV) (nx sz nx2 sz2 : Nat) : (([(hh, .inr (1, [.ref ka, .int (nI nx), .int (nI sz)])), (ka, .inl (cS, 24, .inr (.inr (.inr (.inr fk)))))] : va_W) ++ (xst cI cJ ad v ++ xpl cI cJ ads vs N4)).map (fun x => x.1) = (([(hh, .inr (1, [.ref ka, .int (nI nx2), .int (nI sz2)])), (ka, .inl (cS, 24, .inr (.inr (.inr (.inr fk)))))] : va_W) ++ (xst cI cJ ad v2 ++ xpl cI cJ ads vs2 N4)).map (fun x => x.1) := by
  rw [List.map_append, List.map_append, List.map_append, List.map_append, xpl_fst cI cJ ads vs vs2 N4, xst_fst cI cJ ad v v2]
  rfl
theorem x_bt {b : Bool} (h : xb b = 0) : ¬ b = true := by rw [xb_eq h]; decide
set_option maxHeartbeats 4000000 in
set_option maxRecDepth 100000 in
theorem x_number (l : Launch) (D : va_G) (cI cJ cS : ClassId) (h0 ca hh ka : Nat) (fk : Nat → Option Nat) (ad : Nat → Nat) (ads : Nat → Nat → Nat) (N4 : Nat) (h4 : N4 = 24) (cr : Nat → Int64) (v : xV) (vs : Nat → xV) (nx sz : Nat) (hka : ∀ i, i < 24 → fk i = some (ads i 0)) (hnx : nx < 24) (hsz : sz ≤ 24) (hv : x_ok v) (r x : Int32) : xk_Wr l yX4_number wsX4_number ({ frames := 4, cells := 0, slots := 0, locals := 123 }) D vwCl (xt cI cJ cS) (xx cI cJ cS h0 ca hh ka fk ad ads N4 cr v vs nx sz) [.ref h0, .int r, .int x] (xxo cI cJ cS h0 ca hh ka fk ad ads N4 cr v vs nx sz (sp_number v r x).2) (some (.int (sp_number v r x).1)) := by
  refine xk_wr2 (cc := cX4_number) (maxL := 3) (ret := (some .int)) (by decide) rfl (Nat.le_of_ble_eq_true rfl) (fun p e s m below meth c ls W0v W1v hW1 hx hb hr hlk hml hown hts hl hP hK hN hD hS => ?_)
  replace hl : lv_has ls 3 [(0, .ref h0), (1, .int r), (2, .int x)] := hl
  have hiX2 : ∀ w ∈ u_ws RX2 TX2 10, w ∈ wsX4_number := by decide +kernel
  have hiX4 : ∀ w ∈ u_ws RX4 TX4 3, w ∈ wsX4_number := by decide +kernel
  replace hP : va_P D vwCl ([(h0, .inr (3, [.ref (ad 0), .ref hh, .ref ca])), (ca, .inl (cJ, 64, .inr (.inl cr))), (hh, .inr (1, [.ref ka, .int (nI nx), .int (nI sz)])), (ka, .inl (cS, 24, .inr (.inr (.inr (.inr fk)))))] ++ (xst cI cJ ad v ++ xpl cI cJ ads vs N4)) s.heap := hP
  replace hD : va_D _ ([(h0, .inr (3, [.ref (ad 0), .ref hh, .ref ca])), (ca, .inl (cJ, 64, .inr (.inl cr))), (hh, .inr (1, [.ref ka, .int (nI nx), .int (nI sz)])), (ka, .inl (cS, 24, .inr (.inr (.inr (.inr fk)))))] ++ (xst cI cJ ad v ++ xpl cI cJ ads vs N4)) := hD
  refine lv_iload_n hx hb dX4_number_0 rfl (lv_at hl 1 rfl) ?_
  refine xk_callR (va_runS (As := [.int r]) (rest := []) ⟨hx, hb, hml, hown, hts⟩ (k_isRegister l D cI cJ cS r) (va_cwS 1 hts gX4_number_X4_isRegister rfl rfl rfl (by decide +kernel) ⟨Nat.le_of_ble_eq_true rfl, Nat.le_of_ble_eq_true rfl⟩) (xk_preSr hK hN hP [] rfl) rfl rfl hl.1 rfl (lv_room (Nat.le_of_ble_eq_true rfl)) dX4_number_1 ⟨Nat.zero_le _, Nat.zero_le _⟩) ?_
  refine lv_if_ne (tgt := 9) hx hb dX4_number_4 (by decide) (fun c_4 => ?_) (fun c_4 => ?_)
  · skip
    obtain ⟨rk, hrk, er⟩ := xi_of (xb_ne c_4)
    have hxr : xN r = rk := by rw [er]; exact xN_nI (by omega)
    refine lv_aload_n hx hb dX4_number_9 rfl (lv_at hl 0 rfl) ?_
    refine va_get (D := D) (ci := 3) (v := .ref hh) (C := RX4) (T := TX4) (N := 3) hx hb hts hiX4 hown hK hP 0 rfl rfl 1 (by decide) (hts (.fieldLink RX4 19 "PointerSweep" "history" "LPointerSweep$History;") (by decide +kernel)) (fun _ h9 => h9) rfl dX4_number_10 ?_
    refine lv_aload_n hx hb dX4_number_13 rfl (lv_at hl 0 rfl) ?_
    refine va_get (D := D) (ci := 3) (v := .ref (ad 0)) (C := RX4) (T := TX4) (N := 3) hx hb hts hiX4 hown hK hP 0 rfl rfl 0 (by decide) (hts (.fieldLink RX4 12 "PointerSweep" "now" "LPointerSweep$State;") (by decide +kernel)) (fun _ h9 => h9) rfl dX4_number_14 ?_
    refine xk_callS (X := [(h0, .inr (3, [.ref (ad 0), .ref hh, .ref ca])), (ca, .inl (cJ, 64, .inr (.inl cr)))]) (va_runV (As := [.ref (ad 0)]) (rest := []) ⟨hx, hb, hml, hown, hts⟩ (k_keep l D cI cJ cS hh ka fk ad ads v vs nx sz hka hnx hsz N4 h4) (cwV 1 hts gX4_number_X1_keep rfl rfl rfl (by decide +kernel) ⟨Nat.le_of_ble_eq_true rfl, Nat.le_of_ble_eq_true rfl⟩) (xk_preVs (X := [(h0, .inr (3, [.ref (ad 0), .ref hh, .ref ca])), (ca, .inl (cJ, 64, .inr (.inl cr)))]) hK hN hP hD (ci := 1) rfl 0 rfl) rfl rfl hl.1 rfl (lv_room (Nat.le_of_ble_eq_true rfl)) dX4_number_17 ⟨Nat.zero_le _, Nat.zero_le _⟩) hP hD hS (xh_fst _ _ _ _ _ _ _ _ _ _ _ _ _ _ _ _ _) (fun H locs hP hD hS => ?_)
    replace hP : va_P D vwCl ([(h0, .inr (3, [.ref (ad 0), .ref hh, .ref ca])), (ca, .inl (cJ, 64, .inr (.inl cr))), (hh, .inr (1, [.ref ka, .int (nI (x_nx nx)), .int (nI (x_sz sz))])), (ka, .inl (cS, 24, .inr (.inr (.inr (.inr fk)))))] ++ (xst cI cJ ad v ++ xpl cI cJ ads (va_up vs nx v) N4)) H := hP
    replace hD : va_D _ ([(h0, .inr (3, [.ref (ad 0), .ref hh, .ref ca])), (ca, .inl (cJ, 64, .inr (.inl cr))), (hh, .inr (1, [.ref ka, .int (nI (x_nx nx)), .int (nI (x_sz sz))])), (ka, .inl (cS, 24, .inr (.inr (.inr (.inr fk)))))] ++ (xst cI cJ ad v ++ xpl cI cJ ads (va_up vs nx v) N4)) := hD
    refine lv_aload_n hx hb dX4_number_20 rfl (lv_at hl 0 rfl) ?_
    refine va_get (D := D) (ci := 3) (v := .ref (ad 0)) (C := RX4) (T := TX4) (N := 3) hx hb hts hiX4 hown hK hP 0 rfl rfl 0 (by decide) (hts (.fieldLink RX4 12 "PointerSweep" "now" "LPointerSweep$State;") (by decide +kernel)) (fun _ h9 => h9) rfl dX4_number_21 ?_
    refine va_get (D := D) (ci := 2) (v := .ref (ad 2)) (C := RX2) (T := TX2) (N := 10) hx hb hts hiX2 hown hK hP 4 rfl rfl 1 (by decide) (hts (.fieldLink RX4 43 "PointerSweep$State" "registers" "[J") (by decide +kernel)) (fun _ h9 => h9) rfl dX4_number_24 ?_
    refine lv_iload_n hx hb dX4_number_27 rfl (lv_at hl 1 rfl) ?_
    refine lv_iload_n hx hb dX4_number_28 rfl (lv_at hl 2 rfl) ?_
    refine xk_callR (va_runS (As := [.int x]) (rest := [.int r, .ref (ad 2)]) ⟨hx, hb, hml, hown, hts⟩ (k_ofNumber l D cI cJ cS x) (va_cwS 1 hts gX4_number_X3_ofNumber rfl rfl rfl (by decide +kernel) ⟨Nat.le_of_ble_eq_true rfl, Nat.le_of_ble_eq_true rfl⟩) (xk_preSr hK hN hP [] rfl) rfl rfl hl.1 rfl (lv_room (Nat.le_of_ble_eq_true rfl)) dX4_number_29 ⟨Nat.zero_le _, Nat.zero_le _⟩) ?_
    refine xa_lastW (w := (x, none)) (ws' := [(h0, .inr (3, [.ref (ad 0), .ref hh, .ref ca])), (ca, .inl (cJ, 64, .inr (.inl cr))), (hh, .inr (1, [.ref ka, .int (nI (x_nx nx)), .int (nI (x_sz sz))])), (ka, .inl (cS, 24, .inr (.inr (.inr (.inr fk)))))] ++ (xst cI cJ ad (v.1, (va_up v.2.1 rk (x, none)), v.2.2.1, v.2.2.2.1, v.2.2.2.2.1, v.2.2.2.2.2.1, v.2.2.2.2.2.2.1, v.2.2.2.2.2.2.2.1, v.2.2.2.2.2.2.2.2.1, v.2.2.2.2.2.2.2.2.2) ++ xpl cI cJ ads (va_up vs nx v) N4)) hx hb hK hP hD hS 6 1 rfl rfl rk er hrk (by decide) dX4_number_32 rfl (fun H locs hP hD hS => ?_)
    refine lv_iconst (v := 0) hx hb dX4_number_33 (by decide) ?_
    have e9 : sp_number v r x = (0, some (x_reg v rk (x, none))) := (by unfold sp_number; rw [if_pos (xb_ne c_4), hxr])
    exact xk_iretW hx hb hr hlk hP hS (by rw [e9]) (by rw [← hW1, e9]; rfl) dX4_number_34
  · skip
    refine lv_iconst (v := (-1)) hx hb dX4_number_7 (by decide) ?_
    have e9 : sp_number v r x = (-1, none) := if_neg (x_bt c_4)
    exact xk_iretW hx hb hr hlk hP hS (by rw [e9]) (by rw [← hW1, e9]; rfl) dX4_number_8
set_option maxHeartbeats 4000000 in
set_option maxRecDepth 100000 in
theorem x_copy (l : Launch) (D : va_G) (cI cJ cS : ClassId) (h0 ca hh ka : Nat) (fk : Nat → Option Nat) (ad : Nat → Nat) (ads : Nat → Nat → Nat) (N4 : Nat) (h4 : N4 = 24) (cr : Nat → Int64) (v : xV) (vs : Nat → xV) (nx sz : Nat) (hka : ∀ i, i < 24 → fk i = some (ads i 0)) (hnx : nx < 24) (hsz : sz ≤ 24) (hv : x_ok v) (r q : Int32) : xk_Wr l yX4_copy wsX4_copy ({ frames := 4, cells := 0, slots := 0, locals := 123 }) D vwCl (xt cI cJ cS) (xx cI cJ cS h0 ca hh ka fk ad ads N4 cr v vs nx sz) [.ref h0, .int r, .int q] (xxo cI cJ cS h0 ca hh ka fk ad ads N4 cr v vs nx sz (sp_copy v r q).2) (some (.int (sp_copy v r q).1)) := by
  refine xk_wr2 (cc := cX4_copy) (maxL := 3) (ret := (some .int)) (by decide) rfl (Nat.le_of_ble_eq_true rfl) (fun p e s m below meth c ls W0v W1v hW1 hx hb hr hlk hml hown hts hl hP hK hN hD hS => ?_)
  replace hl : lv_has ls 3 [(0, .ref h0), (1, .int r), (2, .int q)] := hl
  have hiX2 : ∀ w ∈ u_ws RX2 TX2 10, w ∈ wsX4_copy := by decide +kernel
  have hiX4 : ∀ w ∈ u_ws RX4 TX4 3, w ∈ wsX4_copy := by decide +kernel
  replace hP : va_P D vwCl ([(h0, .inr (3, [.ref (ad 0), .ref hh, .ref ca])), (ca, .inl (cJ, 64, .inr (.inl cr))), (hh, .inr (1, [.ref ka, .int (nI nx), .int (nI sz)])), (ka, .inl (cS, 24, .inr (.inr (.inr (.inr fk)))))] ++ (xst cI cJ ad v ++ xpl cI cJ ads vs N4)) s.heap := hP
  replace hD : va_D _ ([(h0, .inr (3, [.ref (ad 0), .ref hh, .ref ca])), (ca, .inl (cJ, 64, .inr (.inl cr))), (hh, .inr (1, [.ref ka, .int (nI nx), .int (nI sz)])), (ka, .inl (cS, 24, .inr (.inr (.inr (.inr fk)))))] ++ (xst cI cJ ad v ++ xpl cI cJ ads vs N4)) := hD
  refine lv_iload_n hx hb dX4_copy_0 rfl (lv_at hl 1 rfl) ?_
  refine xk_callR (va_runS (As := [.int r]) (rest := []) ⟨hx, hb, hml, hown, hts⟩ (k_isRegister l D cI cJ cS r) (va_cwS 1 hts gX4_copy_X4_isRegister rfl rfl rfl (by decide +kernel) ⟨Nat.le_of_ble_eq_true rfl, Nat.le_of_ble_eq_true rfl⟩) (xk_preSr hK hN hP [] rfl) rfl rfl hl.1 rfl (lv_room (Nat.le_of_ble_eq_true rfl)) dX4_copy_1 ⟨Nat.zero_le _, Nat.zero_le _⟩) ?_
  refine lv_if_eq (tgt := 14) hx hb dX4_copy_4 (by decide) (fun c_4 => ?_) (fun c_4 => ?_)
  · skip
    refine lv_iconst (v := (-1)) hx hb dX4_copy_14 (by decide) ?_
    have e9 : sp_copy v r q = (-1, none) := if_neg (fun z => x_bt c_4 z.1)
    exact xk_iretW hx hb hr hlk hP hS (by rw [e9]) (by rw [← hW1, e9]; rfl) dX4_copy_15
  · skip
    refine lv_iload_n hx hb dX4_copy_7 rfl (lv_at hl 2 rfl) ?_
    refine xk_callR (va_runS (As := [.int q]) (rest := []) ⟨hx, hb, hml, hown, hts⟩ (k_isRegister l D cI cJ cS q) (va_cwS 1 hts gX4_copy_X4_isRegister rfl rfl rfl (by decide +kernel) ⟨Nat.le_of_ble_eq_true rfl, Nat.le_of_ble_eq_true rfl⟩) (xk_preSr hK hN hP [] rfl) rfl rfl hl.1 rfl (lv_room (Nat.le_of_ble_eq_true rfl)) dX4_copy_8 ⟨Nat.zero_le _, Nat.zero_le _⟩) ?_
    refine lv_if_ne (tgt := 16) hx hb dX4_copy_11 (by decide) (fun c_11 => ?_) (fun c_11 => ?_)
    · skip
      obtain ⟨rk, hrk, er⟩ := xi_of (xb_ne c_4)
      have hxr : xN r = rk := by rw [er]; exact xN_nI (by omega)
      obtain ⟨qk, hqk, eq⟩ := xi_of (xb_ne c_11)
      have hxq : xN q = qk := by rw [eq]; exact xN_nI (by omega)
      refine lv_aload_n hx hb dX4_copy_16 rfl (lv_at hl 0 rfl) ?_
      refine va_get (D := D) (ci := 3) (v := .ref hh) (C := RX4) (T := TX4) (N := 3) hx hb hts hiX4 hown hK hP 0 rfl rfl 1 (by decide) (hts (.fieldLink RX4 19 "PointerSweep" "history" "LPointerSweep$History;") (by decide +kernel)) (fun _ h9 => h9) rfl dX4_copy_17 ?_
      refine lv_aload_n hx hb dX4_copy_20 rfl (lv_at hl 0 rfl) ?_
      refine va_get (D := D) (ci := 3) (v := .ref (ad 0)) (C := RX4) (T := TX4) (N := 3) hx hb hts hiX4 hown hK hP 0 rfl rfl 0 (by decide) (hts (.fieldLink RX4 12 "PointerSweep" "now" "LPointerSweep$State;") (by decide +kernel)) (fun _ h9 => h9) rfl dX4_copy_21 ?_
      refine xk_callS (X := [(h0, .inr (3, [.ref (ad 0), .ref hh, .ref ca])), (ca, .inl (cJ, 64, .inr (.inl cr)))]) (va_runV (As := [.ref (ad 0)]) (rest := []) ⟨hx, hb, hml, hown, hts⟩ (k_keep l D cI cJ cS hh ka fk ad ads v vs nx sz hka hnx hsz N4 h4) (cwV 1 hts gX4_copy_X1_keep rfl rfl rfl (by decide +kernel) ⟨Nat.le_of_ble_eq_true rfl, Nat.le_of_ble_eq_true rfl⟩) (xk_preVs (X := [(h0, .inr (3, [.ref (ad 0), .ref hh, .ref ca])), (ca, .inl (cJ, 64, .inr (.inl cr)))]) hK hN hP hD (ci := 1) rfl 0 rfl) rfl rfl hl.1 rfl (lv_room (Nat.le_of_ble_eq_true rfl)) dX4_copy_24 ⟨Nat.zero_le _, Nat.zero_le _⟩) hP hD hS (xh_fst _ _ _ _ _ _ _ _ _ _ _ _ _ _ _ _ _) (fun H locs hP hD hS => ?_)
      replace hP : va_P D vwCl ([(h0, .inr (3, [.ref (ad 0), .ref hh, .ref ca])), (ca, .inl (cJ, 64, .inr (.inl cr))), (hh, .inr (1, [.ref ka, .int (nI (x_nx nx)), .int (nI (x_sz sz))])), (ka, .inl (cS, 24, .inr (.inr (.inr (.inr fk)))))] ++ (xst cI cJ ad v ++ xpl cI cJ ads (va_up vs nx v) N4)) H := hP
      replace hD : va_D _ ([(h0, .inr (3, [.ref (ad 0), .ref hh, .ref ca])), (ca, .inl (cJ, 64, .inr (.inl cr))), (hh, .inr (1, [.ref ka, .int (nI (x_nx nx)), .int (nI (x_sz sz))])), (ka, .inl (cS, 24, .inr (.inr (.inr (.inr fk)))))] ++ (xst cI cJ ad v ++ xpl cI cJ ads (va_up vs nx v) N4)) := hD
      refine lv_aload_n hx hb dX4_copy_27 rfl (lv_at hl 0 rfl) ?_
      refine va_get (D := D) (ci := 3) (v := .ref (ad 0)) (C := RX4) (T := TX4) (N := 3) hx hb hts hiX4 hown hK hP 0 rfl rfl 0 (by decide) (hts (.fieldLink RX4 12 "PointerSweep" "now" "LPointerSweep$State;") (by decide +kernel)) (fun _ h9 => h9) rfl dX4_copy_28 ?_
      refine va_get (D := D) (ci := 2) (v := .ref (ad 2)) (C := RX2) (T := TX2) (N := 10) hx hb hts hiX2 hown hK hP 4 rfl rfl 1 (by decide) (hts (.fieldLink RX4 43 "PointerSweep$State" "registers" "[J") (by decide +kernel)) (fun _ h9 => h9) rfl dX4_copy_31 ?_
      refine lv_iload_n hx hb dX4_copy_34 rfl (lv_at hl 1 rfl) ?_
      refine lv_aload_n hx hb dX4_copy_35 rfl (lv_at hl 0 rfl) ?_
      refine va_get (D := D) (ci := 3) (v := .ref (ad 0)) (C := RX4) (T := TX4) (N := 3) hx hb hts hiX4 hown hK hP 0 rfl rfl 0 (by decide) (hts (.fieldLink RX4 12 "PointerSweep" "now" "LPointerSweep$State;") (by decide +kernel)) (fun _ h9 => h9) rfl dX4_copy_36 ?_
      refine va_get (D := D) (ci := 2) (v := .ref (ad 2)) (C := RX2) (T := TX2) (N := 10) hx hb hts hiX2 hown hK hP 4 rfl rfl 1 (by decide) (hts (.fieldLink RX4 43 "PointerSweep$State" "registers" "[J") (by decide +kernel)) (fun _ h9 => h9) rfl dX4_copy_39 ?_
      refine lv_iload_n hx hb dX4_copy_42 rfl (lv_at hl 2 rfl) ?_
      refine xa_lald hx hb hK hP 6 1 rfl rfl qk eq hqk (by decide) dX4_copy_43 ?_
      refine xa_lastW (w := (v.2.1 qk)) (ws' := [(h0, .inr (3, [.ref (ad 0), .ref hh, .ref ca])), (ca, .inl (cJ, 64, .inr (.inl cr))), (hh, .inr (1, [.ref ka, .int (nI (x_nx nx)), .int (nI (x_sz sz))])), (ka, .inl (cS, 24, .inr (.inr (.inr (.inr fk)))))] ++ (xst cI cJ ad (v.1, (va_up v.2.1 rk (v.2.1 qk)), v.2.2.1, v.2.2.2.1, v.2.2.2.2.1, v.2.2.2.2.2.1, v.2.2.2.2.2.2.1, v.2.2.2.2.2.2.2.1, v.2.2.2.2.2.2.2.2.1, v.2.2.2.2.2.2.2.2.2) ++ xpl cI cJ ads (va_up vs nx v) N4)) hx hb hK hP hD hS 6 1 rfl rfl rk er hrk (by decide) dX4_copy_44 rfl (fun H locs hP hD hS => ?_)
      refine lv_iconst (v := 0) hx hb dX4_copy_45 (by decide) ?_
      have e9 : sp_copy v r q = (0, some (x_reg v rk (v.2.1 qk))) := (by unfold sp_copy; rw [if_pos ⟨xb_ne c_4, xb_ne c_11⟩, hxr, hxq])
      exact xk_iretW hx hb hr hlk hP hS (by rw [e9]) (by rw [← hW1, e9]; rfl) dX4_copy_46
    · skip
      refine lv_iconst (v := (-1)) hx hb dX4_copy_14 (by decide) ?_
      have e9 : sp_copy v r q = (-1, none) := if_neg (fun z => x_bt c_11 z.2)
      exact xk_iretW hx hb hr hlk hP hS (by rw [e9]) (by rw [← hW1, e9]; rfl) dX4_copy_15
set_option maxHeartbeats 4000000 in
set_option maxRecDepth 100000 in
theorem x_sweep (l : Launch) (D : va_G) (cI cJ cS : ClassId) (h0 ca hh ka : Nat) (fk : Nat → Option Nat) (ad : Nat → Nat) (ads : Nat → Nat → Nat) (N4 : Nat) (h4 : N4 = 24) (cr : Nat → Int64) (v : xV) (vs : Nat → xV) (nx sz : Nat) (hka : ∀ i, i < 24 → fk i = some (ads i 0)) (hnx : nx < 24) (hsz : sz ≤ 24) (hv : x_ok v) : xk_Wr l yX4_sweep wsX4_sweep ({ frames := 4, cells := 0, slots := 0, locals := 123 }) D vwCl (xt cI cJ cS) (xx cI cJ cS h0 ca hh ka fk ad ads N4 cr v vs nx sz) [.ref h0] (xxo cI cJ cS h0 ca hh ka fk ad ads N4 cr v vs nx sz (sp_sweep v).2) (some (.int (sp_sweep v).1)) := by
  refine xk_wr2 (cc := cX4_sweep) (maxL := 1) (ret := (some .int)) (by decide) rfl (Nat.le_of_ble_eq_true rfl) (fun p e s m below meth c ls W0v W1v hW1 hx hb hr hlk hml hown hts hl hP hK hN hD hS => ?_)
  replace hl : lv_has ls 1 [(0, .ref h0)] := hl
  have hiX2 : ∀ w ∈ u_ws RX2 TX2 10, w ∈ wsX4_sweep := by decide +kernel
  have hiX4 : ∀ w ∈ u_ws RX4 TX4 3, w ∈ wsX4_sweep := by decide +kernel
  replace hP : va_P D vwCl ([(h0, .inr (3, [.ref (ad 0), .ref hh, .ref ca])), (ca, .inl (cJ, 64, .inr (.inl cr))), (hh, .inr (1, [.ref ka, .int (nI nx), .int (nI sz)])), (ka, .inl (cS, 24, .inr (.inr (.inr (.inr fk)))))] ++ (xst cI cJ ad v ++ xpl cI cJ ads vs N4)) s.heap := hP
  replace hD : va_D _ ([(h0, .inr (3, [.ref (ad 0), .ref hh, .ref ca])), (ca, .inl (cJ, 64, .inr (.inl cr))), (hh, .inr (1, [.ref ka, .int (nI nx), .int (nI sz)])), (ka, .inl (cS, 24, .inr (.inr (.inr (.inr fk)))))] ++ (xst cI cJ ad v ++ xpl cI cJ ads vs N4)) := hD
  refine lv_aload_n hx hb dX4_sweep_0 rfl (lv_at hl 0 rfl) ?_
  refine va_get (D := D) (ci := 3) (v := .ref (ad 0)) (C := RX4) (T := TX4) (N := 3) hx hb hts hiX4 hown hK hP 0 rfl rfl 0 (by decide) (hts (.fieldLink RX4 12 "PointerSweep" "now" "LPointerSweep$State;") (by decide +kernel)) (fun _ h9 => h9) rfl dX4_sweep_1 ?_
  refine va_get (D := D) (ci := 2) (v := .int (xb v.2.2.2.2.2.2.2.1)) (C := RX2) (T := TX2) (N := 10) hx hb hts hiX2 hown hK hP 4 rfl rfl 7 (by decide) (hts (.fieldLink RX4 105 "PointerSweep$State" "sweeping" "Z") (by decide +kernel)) (fun _ h9 => h9) rfl dX4_sweep_4 ?_
  refine lv_if_eq (tgt := 13) hx hb dX4_sweep_7 (by decide) (fun c_7 => ?_) (fun c_7 => ?_)
  · skip
    refine lv_aload_n hx hb dX4_sweep_13 rfl (lv_at hl 0 rfl) ?_
    refine va_get (D := D) (ci := 3) (v := .ref hh) (C := RX4) (T := TX4) (N := 3) hx hb hts hiX4 hown hK hP 0 rfl rfl 1 (by decide) (hts (.fieldLink RX4 19 "PointerSweep" "history" "LPointerSweep$History;") (by decide +kernel)) (fun _ h9 => h9) rfl dX4_sweep_14 ?_
    refine lv_aload_n hx hb dX4_sweep_17 rfl (lv_at hl 0 rfl) ?_
    refine va_get (D := D) (ci := 3) (v := .ref (ad 0)) (C := RX4) (T := TX4) (N := 3) hx hb hts hiX4 hown hK hP 0 rfl rfl 0 (by decide) (hts (.fieldLink RX4 12 "PointerSweep" "now" "LPointerSweep$State;") (by decide +kernel)) (fun _ h9 => h9) rfl dX4_sweep_18 ?_
    refine xk_callS (X := [(h0, .inr (3, [.ref (ad 0), .ref hh, .ref ca])), (ca, .inl (cJ, 64, .inr (.inl cr)))]) (va_runV (As := [.ref (ad 0)]) (rest := []) ⟨hx, hb, hml, hown, hts⟩ (k_keep l D cI cJ cS hh ka fk ad ads v vs nx sz hka hnx hsz N4 h4) (cwV 1 hts gX4_sweep_X1_keep rfl rfl rfl (by decide +kernel) ⟨Nat.le_of_ble_eq_true rfl, Nat.le_of_ble_eq_true rfl⟩) (xk_preVs (X := [(h0, .inr (3, [.ref (ad 0), .ref hh, .ref ca])), (ca, .inl (cJ, 64, .inr (.inl cr)))]) hK hN hP hD (ci := 1) rfl 0 rfl) rfl rfl hl.1 rfl (lv_room (Nat.le_of_ble_eq_true rfl)) dX4_sweep_21 ⟨Nat.zero_le _, Nat.zero_le _⟩) hP hD hS (xh_fst _ _ _ _ _ _ _ _ _ _ _ _ _ _ _ _ _) (fun H locs hP hD hS => ?_)
    replace hP : va_P D vwCl ([(h0, .inr (3, [.ref (ad 0), .ref hh, .ref ca])), (ca, .inl (cJ, 64, .inr (.inl cr))), (hh, .inr (1, [.ref ka, .int (nI (x_nx nx)), .int (nI (x_sz sz))])), (ka, .inl (cS, 24, .inr (.inr (.inr (.inr fk)))))] ++ (xst cI cJ ad v ++ xpl cI cJ ads (va_up vs nx v) N4)) H := hP
    replace hD : va_D _ ([(h0, .inr (3, [.ref (ad 0), .ref hh, .ref ca])), (ca, .inl (cJ, 64, .inr (.inl cr))), (hh, .inr (1, [.ref ka, .int (nI (x_nx nx)), .int (nI (x_sz sz))])), (ka, .inl (cS, 24, .inr (.inr (.inr (.inr fk)))))] ++ (xst cI cJ ad v ++ xpl cI cJ ads (va_up vs nx v) N4)) := hD
    refine lv_aload_n hx hb dX4_sweep_24 rfl (lv_at hl 0 rfl) ?_
    refine va_get (D := D) (ci := 3) (v := .ref (ad 0)) (C := RX4) (T := TX4) (N := 3) hx hb hts hiX4 hown hK hP 0 rfl rfl 0 (by decide) (hts (.fieldLink RX4 12 "PointerSweep" "now" "LPointerSweep$State;") (by decide +kernel)) (fun _ h9 => h9) rfl dX4_sweep_25 ?_
    refine xk_callM (va_runV (As := []) (rest := []) ⟨hx, hb, hml, hown, hts⟩ (k_beginSweepF l D cI cJ cS ad v ) (cwV 0 hts gX4_sweep_X2_beginSweep rfl rfl rfl (by decide +kernel) ⟨Nat.le_of_ble_eq_true rfl, Nat.le_of_ble_eq_true rfl⟩) (xk_preVm hK hN hP hD (ci := 2) rfl 0 rfl) rfl rfl hl.1 rfl (lv_room (Nat.le_of_ble_eq_true rfl)) dX4_sweep_28 ⟨Nat.zero_le _, Nat.zero_le _⟩) hP hD hS rfl (fun H locs hP hD hS => ?_)
    replace hP : va_P D vwCl ([(h0, .inr (3, [.ref (ad 0), .ref hh, .ref ca])), (ca, .inl (cJ, 64, .inr (.inl cr))), (hh, .inr (1, [.ref ka, .int (nI (x_nx nx)), .int (nI (x_sz sz))])), (ka, .inl (cS, 24, .inr (.inr (.inr (.inr fk)))))] ++ (xst cI cJ ad (v.1, v.2.1, v.2.2.1, v.2.2.2.1, v.2.2.2.2.1, v.2.2.2.2.1, v.2.2.2.2.2.2.1, true, v.2.2.2.2.2.2.2.2.1, v.2.2.2.2.2.2.2.2.2) ++ xpl cI cJ ads (va_up vs nx v) N4)) H := hP
    replace hD : va_D _ ([(h0, .inr (3, [.ref (ad 0), .ref hh, .ref ca])), (ca, .inl (cJ, 64, .inr (.inl cr))), (hh, .inr (1, [.ref ka, .int (nI (x_nx nx)), .int (nI (x_sz sz))])), (ka, .inl (cS, 24, .inr (.inr (.inr (.inr fk)))))] ++ (xst cI cJ ad (v.1, v.2.1, v.2.2.1, v.2.2.2.1, v.2.2.2.2.1, v.2.2.2.2.1, v.2.2.2.2.2.2.1, true, v.2.2.2.2.2.2.2.2.1, v.2.2.2.2.2.2.2.2.2) ++ xpl cI cJ ads (va_up vs nx v) N4)) := hD
    have e9 : sp_sweep v = (nI (xs_w v.2.2.2.2.1 0 256), some (x_swp v)) := if_neg (x_bt c_7)
    exact xk_iretW hx hb hr hlk hP hS (by rw [e9]) (by rw [← hW1, e9]; rfl) dX4_sweep_31
  · skip
    refine lv_bipush (v := (-2)) hx hb dX4_sweep_10 (by decide) ?_
    have e9 : sp_sweep v = (-2, none) := if_pos (xb_ne c_7)
    exact xk_iretW hx hb hr hlk hP hS (by rw [e9]) (by rw [← hW1, e9]; rfl) dX4_sweep_12
end
section
section XQ4
theorem x_1n {n M : Int32} {m : Nat} (hM : M.toInt = m) (h1 : ¬ n < 1) (h2 : n ≤ M) : ∃ k, 1 ≤ k ∧ k ≤ m ∧ n = nI k ∧ xN n = k := by
  rw [Int32.lt_iff_toInt_lt] at h1
  rw [Int32.le_iff_toInt_le] at h2
  have e : (1 : Int32).toInt = 1 := rfl
  have hl := n.toInt_lt
  refine ⟨n.toInt.toNat, by omega, by omega, ?_, rfl⟩
  apply Int32.toInt_inj.mp
  rw [nI_toInt (by omega)]
  omega
theorem x_0n {n M : Int32} {m : Nat} (hM : M.toInt = m) (h1 : ¬ n < 0) (h2 : n ≤ M) : ∃ k, k ≤ m ∧ n = nI k := by
  rw [Int32.lt_iff_toInt_lt] at h1
  rw [Int32.le_iff_toInt_le] at h2
  have e : (0 : Int32).toInt = 0 := rfl
  have hl := n.toInt_lt
  refine ⟨n.toInt.toNat, by omega, ?_⟩
  apply Int32.toInt_inj.mp
  rw [nI_toInt (by omega)]
  omega
theorem x_ffr_at (u : Nat → Int32) (nk : Nat) (hn : 1 ≤ nk) (hn2 : nk ≤ 64) : ∀ (m c j : Nat), c + m = 256 → j ≤ c → j < nk → x_ffr u (nI nk) m c (nI j) < 0 ∨ ∃ f, f + nk ≤ 256 ∧ x_ffr u (nI nk) m c (nI j) = nI f
  | 0, c, j, _, _, _ => Or.inl (by show (-1 : Int32) < 0; decide)
  | m + 1, c, j, hc, hj, hjn => by
    show (if (if u c = 0 then nI j + 1 else 0) = nI nk then nI c - nI nk + 1 else x_ffr u (nI nk) m (c + 1) (if u c = 0 then nI j + 1 else 0)) < 0 ∨ ∃ f, f + nk ≤ 256 ∧ (if (if u c = 0 then nI j + 1 else 0) = nI nk then nI c - nI nk + 1 else x_ffr u (nI nk) m (c + 1) (if u c = 0 then nI j + 1 else 0)) = nI f
    by_cases h : u c = 0
    · rw [if_pos h, nI_1]
      by_cases h2 : nI (j + 1) = nI nk
      · have h3 : j + 1 = nk := (nI_eq (by omega) (by omega)).mp h2
        rw [if_pos h2]
        refine Or.inr ⟨c + 1 - nk, by omega, ?_⟩
        rw [show nI c - nI nk + 1 = (nI c + 1) - nI nk by rw [Int32.sub_eq_add_neg, Int32.sub_eq_add_neg, Int32.add_assoc, Int32.add_assoc, Int32.add_comm (-nI nk) 1], nI_1, pk_sub (by omega)]
      · rw [if_neg h2]
        have h3 : j + 1 ≠ nk := fun q => h2 (by rw [q])
        exact x_ffr_at u nk hn hn2 m (c + 1) (j + 1) (by omega) (by omega) (by omega)
    · rw [if_neg h]
      have h2 : ¬ (0 : Int32) = nI nk := fun q => by
        have := (nI_eq (a := 0) (b := nk) (by decide) (by omega)).mp q
        omega
      rw [if_neg h2]
      exact x_ffr_at u nk hn hn2 m (c + 1) 0 (by omega) (by omega) (by omega)
theorem x_ffr_in {u : Nat → Int32} {n : Int32} {nk : Nat} (en : n = nI nk) (hn : 1 ≤ nk) (hn2 : nk ≤ 64) (h : 0 ≤ x_ffr u n 256 0 0) : ∃ f, f + nk ≤ 256 ∧ x_ffr u n 256 0 0 = nI f := by
  subst en
  rcases x_ffr_at u nk hn hn2 256 0 0 rfl (Nat.le_refl 0) (by omega) with q | q
  · exact absurd h (Int32.not_le.mpr q)
  · exact q
theorem x_cov0 {w : xw} {n : Int32} (h : xw_ok2 w) (hp : xw_p w = true) (hc : xw_cov w 0 n = true) (hn : ¬ n < 1) : ∃ ak nk, w.1 = nI ak ∧ n = nI nk ∧ 1 ≤ nk ∧ ak + nk ≤ 256 ∧ xN n = nk ∧ xN w.1 = ak := by
  obtain ⟨-, h1, h2, h3⟩ := xw_ok2_p h hp
  have h4 := of_decide_eq_true hc
  rw [Int32.lt_iff_toInt_lt] at hn
  have e : (1 : Int32).toInt = 1 := rfl
  have e0 : (0 : Int32).toInt = 0 := rfl
  refine ⟨w.1.toInt.toNat, n.toInt.toNat, ?_, ?_, by omega, by omega, rfl, rfl⟩
  · apply Int32.toInt_inj.mp
    rw [nI_toInt (by omega)]
    omega
  · apply Int32.toInt_inj.mp
    rw [nI_toInt (by omega)]
    omega
theorem x_and4 {r : Nat} (hr : r < 4) {k : Int32} (h1 : ¬ k < 0) (h2 : k ≤ 3) : ∃ j, j < 4 ∧ nI r &&& k = nI j ∧ xN (nI r &&& k) = j := by
  obtain ⟨kk, hk, rfl⟩ := x_0n (M := 3) (m := 3) rfl h1 h2
  have h3 : r &&& kk < 4 := Nat.and_lt_two_pow (n := 2) _ (by omega)
  refine ⟨r &&& kk, h3, nx_and r kk, ?_⟩
  rw [nx_and, xN_nI (by omega)]
theorem x_fault_p {w : xw} {right d n : Int32} (h : x_fault w right d n = 0) : xw_p w = true ∧ xw_cov w d n = true ∧ ¬ nI (xw_r w) &&& right = 0 := by
  unfold x_fault at h
  split at h
  · split at h
    · exact absurd h (by decide)
    · split at h
      · exact ⟨by assumption, by assumption, by assumption⟩
      · exact absurd h (by decide)
  · exact absurd h (by decide)
theorem x_fault0 {w : xw} {right d n : Int32} {nk : Nat} (hw : xw_ok2 w) (h : x_fault w right d n = 0) (hn : n = nI nk) (hk : nk < 2 ^ 31) : ∃ ck, w.1 + d = nI ck ∧ ck + nk ≤ 256 ∧ xN (w.1 + d) = ck := by
  obtain ⟨hp, hc, -⟩ := x_fault_p h
  obtain ⟨-, h1, h2, h3⟩ := xw_ok2_p hw hp
  have h4 := of_decide_eq_true hc
  rw [hn, nI_toInt hk] at h4
  have e : (w.1 + d).toInt = w.1.toInt + d.toInt := by
    rw [Int32.toInt_add, Int.bmod_eq_of_le (by omega) (by omega)]
  refine ⟨(w.1 + d).toInt.toNat, ?_, by omega, rfl⟩
  apply Int32.toInt_inj.mp
  rw [nI_toInt (by omega), e]
  omega
theorem x_ge0 {x : Int32} (h : 0 ≤ x) : ¬ x < 0 := Int32.not_lt.mpr h
theorem x_lt0 {x : Int32} (h : ¬ 0 ≤ x) : x < 0 := Int32.not_le.mp h
end XQ4
end
section
set_option maxHeartbeats 4000000 in
set_option maxRecDepth 100000 in
theorem k_faultOf (l : Launch) (D : va_G) (cI cJ cS : ClassId) (w : xw) (hw : xw_ok w) (right d n : Int32) : xk_Rd l yX4_faultOf wsX4_faultOf ({ frames := 2, cells := 0, slots := 0, locals := 46 }) D vwCl (xt cI cJ cS) ([]) [.long (xw_enc w), .int right, .int d, .int n] (some (.int (x_fault w right d n))) := by
  refine xk_rd (cc := cX4_faultOf) (maxL := 5) (ret := (some .int)) (by decide) rfl (Nat.le_of_ble_eq_true rfl) (fun p e s m below meth c ls hx hb hr hlk hml hown hts hl hP hK hN => ?_)
  replace hl : lv_has ls 5 [(0, .long (xw_enc w)), (2, .int right), (3, .int d), (4, .int n)] := hl
  refine lv_lload_n hx hb dX4_faultOf_0 rfl (lv_at hl 0 rfl) ?_
  refine xk_callR (va_runS (As := [.long (xw_enc w)]) (rest := []) ⟨hx, hb, hml, hown, hts⟩ (k_isPointer l D cI cJ cS w hw ) (va_cwS 1 hts gX4_faultOf_X3_isPointer rfl rfl rfl (by decide +kernel) ⟨Nat.le_of_ble_eq_true rfl, Nat.le_of_ble_eq_true rfl⟩) (xk_preSr hK hN hP [] rfl) rfl rfl hl.1 rfl (lv_room (Nat.le_of_ble_eq_true rfl)) dX4_faultOf_1 ⟨Nat.zero_le _, Nat.zero_le _⟩) ?_
  refine lv_if_ne (tgt := 10) hx hb dX4_faultOf_4 (by decide) (fun c_4 => ?_) (fun c_4 => ?_)
  · skip
    refine lv_lload_n hx hb dX4_faultOf_10 rfl (lv_at hl 0 rfl) ?_
    refine xk_callR (va_runS (As := [.long (xw_enc w)]) (rest := []) ⟨hx, hb, hml, hown, hts⟩ (k_rights l D cI cJ cS w hw ) (va_cwS 1 hts gX4_faultOf_X3_rights rfl rfl rfl (by decide +kernel) ⟨Nat.le_of_ble_eq_true rfl, Nat.le_of_ble_eq_true rfl⟩) (xk_preSr hK hN hP [] rfl) rfl rfl hl.1 rfl (lv_room (Nat.le_of_ble_eq_true rfl)) dX4_faultOf_11 ⟨Nat.zero_le _, Nat.zero_le _⟩) ?_
    refine lv_iload_n hx hb dX4_faultOf_14 rfl (lv_at hl 1 rfl) ?_
    refine lv_iand hx hb dX4_faultOf_15 ?_
    refine lv_if_ne (tgt := 22) hx hb dX4_faultOf_16 (by decide) (fun c_16 => ?_) (fun c_16 => ?_)
    · skip
      refine lv_lload_n hx hb dX4_faultOf_22 rfl (lv_at hl 0 rfl) ?_
      refine lv_iload_n hx hb dX4_faultOf_23 rfl (lv_at hl 2 rfl) ?_
      refine lv_iload hx hb dX4_faultOf_24 (lv_at hl 3 rfl) ?_
      refine xk_callR (va_runS (As := [.long (xw_enc w), .int d, .int n]) (rest := []) ⟨hx, hb, hml, hown, hts⟩ (k_covers l D cI cJ cS w hw d n) (va_cwS 3 hts gX4_faultOf_X3_covers rfl rfl rfl (by decide +kernel) ⟨Nat.le_of_ble_eq_true rfl, Nat.le_of_ble_eq_true rfl⟩) (xk_preSr hK hN hP [] rfl) rfl rfl hl.1 rfl (lv_room (Nat.le_of_ble_eq_true rfl)) dX4_faultOf_26 ⟨Nat.zero_le _, Nat.zero_le _⟩) ?_
      refine lv_if_eq (tgt := 36) hx hb dX4_faultOf_29 (by decide) (fun c_29 => ?_) (fun c_29 => ?_)
      · skip
        refine lv_bipush (v := (-13)) hx hb dX4_faultOf_36 (by decide) ?_
        exact xk_iretR hx hb hr hlk (by unfold x_fault; rw [if_pos (xb_ne c_4), if_neg c_16, if_neg (x_bt c_29)]) dX4_faultOf_38
      · skip
        refine lv_iconst (v := 0) hx hb dX4_faultOf_32 (by decide) ?_
        refine lv_goto (tgt := 38) hx hb dX4_faultOf_33 (by decide) ?_
        exact xk_iretR hx hb hr hlk (by unfold x_fault; rw [if_pos (xb_ne c_4), if_neg c_16, if_pos (xb_ne c_29)]) dX4_faultOf_38
    · skip
      refine lv_bipush (v := (-12)) hx hb dX4_faultOf_19 (by decide) ?_
      exact xk_iretR hx hb hr hlk (by unfold x_fault; rw [if_pos (xb_ne c_4), if_pos c_16]) dX4_faultOf_21
  · skip
    refine lv_bipush (v := (-11)) hx hb dX4_faultOf_7 (by decide) ?_
    exact xk_iretR hx hb hr hlk (by unfold x_fault; rw [if_neg (x_bt c_4)]) dX4_faultOf_9
set_option maxHeartbeats 4000000 in
set_option maxRecDepth 100000 in
theorem x_step (l : Launch) (D : va_G) (cI cJ cS : ClassId) (h0 ca hh ka : Nat) (fk : Nat → Option Nat) (ad : Nat → Nat) (ads : Nat → Nat → Nat) (N4 : Nat) (h4 : N4 = 24) (cr : Nat → Int64) (v : xV) (vs : Nat → xV) (nx sz : Nat) (hka : ∀ i, i < 24 → fk i = some (ads i 0)) (hnx : nx < 24) (hsz : sz ≤ 24) (hv : x_ok v) (n : Int32) : xk_Wr l yX4_step wsX4_step ({ frames := 6, cells := 0, slots := 0, locals := 139 }) D vwCl (xt cI cJ cS) (xx cI cJ cS h0 ca hh ka fk ad ads N4 cr v vs nx sz) [.ref h0, .int n] (xxo cI cJ cS h0 ca hh ka fk ad ads N4 cr v vs nx sz (sp_step v n).2) (some (.int (sp_step v n).1)) := by
  refine xk_wr2 (cc := cX4_step) (maxL := 2) (ret := (some .int)) (by decide) rfl (Nat.le_of_ble_eq_true rfl) (fun p e s m below meth c ls W0v W1v hW1 hx hb hr hlk hml hown hts hl hP hK hN hD hS => ?_)
  replace hl : lv_has ls 2 [(0, .ref h0), (1, .int n)] := hl
  have hiX2 : ∀ w ∈ u_ws RX2 TX2 10, w ∈ wsX4_step := by decide +kernel
  have hiX4 : ∀ w ∈ u_ws RX4 TX4 3, w ∈ wsX4_step := by decide +kernel
  replace hP : va_P D vwCl ([(h0, .inr (3, [.ref (ad 0), .ref hh, .ref ca])), (ca, .inl (cJ, 64, .inr (.inl cr))), (hh, .inr (1, [.ref ka, .int (nI nx), .int (nI sz)])), (ka, .inl (cS, 24, .inr (.inr (.inr (.inr fk)))))] ++ (xst cI cJ ad v ++ xpl cI cJ ads vs N4)) s.heap := hP
  replace hD : va_D _ ([(h0, .inr (3, [.ref (ad 0), .ref hh, .ref ca])), (ca, .inl (cJ, 64, .inr (.inl cr))), (hh, .inr (1, [.ref ka, .int (nI nx), .int (nI sz)])), (ka, .inl (cS, 24, .inr (.inr (.inr (.inr fk)))))] ++ (xst cI cJ ad v ++ xpl cI cJ ads vs N4)) := hD
  refine lv_iload_n hx hb dX4_step_0 rfl (lv_at hl 1 rfl) ?_
  refine lv_iconst (v := 1) hx hb dX4_step_1 (by decide) ?_
  refine lv_icmp_lt (tgt := 11) hx hb dX4_step_2 (by decide) (fun c_2 => ?_) (fun c_2 => ?_)
  · skip
    refine lv_iconst (v := (-1)) hx hb dX4_step_11 (by decide) ?_
    have e9 : sp_step v n = (-1, none) := if_neg (fun z => z.1 c_2)
    exact xk_iretW hx hb hr hlk hP hS (by rw [e9]) (by rw [← hW1, e9]; rfl) dX4_step_12
  · skip
    refine lv_iload_n hx hb dX4_step_5 rfl (lv_at hl 1 rfl) ?_
    refine lv_bipush (v := 16) hx hb dX4_step_6 (by decide) ?_
    refine lv_icmp_le (tgt := 13) hx hb dX4_step_8 (by decide) (fun c_8 => ?_) (fun c_8 => ?_)
    · skip
      refine lv_aload_n hx hb dX4_step_13 rfl (lv_at hl 0 rfl) ?_
      refine va_get (D := D) (ci := 3) (v := .ref (ad 0)) (C := RX4) (T := TX4) (N := 3) hx hb hts hiX4 hown hK hP 0 rfl rfl 0 (by decide) (hts (.fieldLink RX4 12 "PointerSweep" "now" "LPointerSweep$State;") (by decide +kernel)) (fun _ h9 => h9) rfl dX4_step_14 ?_
      refine va_get (D := D) (ci := 2) (v := .int (xb v.2.2.2.2.2.2.2.1)) (C := RX2) (T := TX2) (N := 10) hx hb hts hiX2 hown hK hP 4 rfl rfl 7 (by decide) (hts (.fieldLink RX4 105 "PointerSweep$State" "sweeping" "Z") (by decide +kernel)) (fun _ h9 => h9) rfl dX4_step_17 ?_
      refine lv_if_ne (tgt := 26) hx hb dX4_step_20 (by decide) (fun c_20 => ?_) (fun c_20 => ?_)
      · skip
        obtain ⟨nk, hn1, hn2, en, hxn⟩ := x_1n (M := 16) (m := 16) rfl c_2 c_8
        rw [en] at hl
        refine lv_aload_n hx hb dX4_step_26 rfl (lv_at hl 0 rfl) ?_
        refine va_get (D := D) (ci := 3) (v := .ref hh) (C := RX4) (T := TX4) (N := 3) hx hb hts hiX4 hown hK hP 0 rfl rfl 1 (by decide) (hts (.fieldLink RX4 19 "PointerSweep" "history" "LPointerSweep$History;") (by decide +kernel)) (fun _ h9 => h9) rfl dX4_step_27 ?_
        refine lv_aload_n hx hb dX4_step_30 rfl (lv_at hl 0 rfl) ?_
        refine va_get (D := D) (ci := 3) (v := .ref (ad 0)) (C := RX4) (T := TX4) (N := 3) hx hb hts hiX4 hown hK hP 0 rfl rfl 0 (by decide) (hts (.fieldLink RX4 12 "PointerSweep" "now" "LPointerSweep$State;") (by decide +kernel)) (fun _ h9 => h9) rfl dX4_step_31 ?_
        refine xk_callS (X := [(h0, .inr (3, [.ref (ad 0), .ref hh, .ref ca])), (ca, .inl (cJ, 64, .inr (.inl cr)))]) (va_runV (As := [.ref (ad 0)]) (rest := []) ⟨hx, hb, hml, hown, hts⟩ (k_keep l D cI cJ cS hh ka fk ad ads v vs nx sz hka hnx hsz N4 h4) (cwV 1 hts gX4_step_X1_keep rfl rfl rfl (by decide +kernel) ⟨Nat.le_of_ble_eq_true rfl, Nat.le_of_ble_eq_true rfl⟩) (xk_preVs (X := [(h0, .inr (3, [.ref (ad 0), .ref hh, .ref ca])), (ca, .inl (cJ, 64, .inr (.inl cr)))]) hK hN hP hD (ci := 1) rfl 0 rfl) rfl rfl hl.1 rfl (lv_room (Nat.le_of_ble_eq_true rfl)) dX4_step_34 ⟨Nat.zero_le _, Nat.zero_le _⟩) hP hD hS (xh_fst _ _ _ _ _ _ _ _ _ _ _ _ _ _ _ _ _) (fun H locs hP hD hS => ?_)
        replace hP : va_P D vwCl ([(h0, .inr (3, [.ref (ad 0), .ref hh, .ref ca])), (ca, .inl (cJ, 64, .inr (.inl cr))), (hh, .inr (1, [.ref ka, .int (nI (x_nx nx)), .int (nI (x_sz sz))])), (ka, .inl (cS, 24, .inr (.inr (.inr (.inr fk)))))] ++ (xst cI cJ ad v ++ xpl cI cJ ads (va_up vs nx v) N4)) H := hP
        replace hD : va_D _ ([(h0, .inr (3, [.ref (ad 0), .ref hh, .ref ca])), (ca, .inl (cJ, 64, .inr (.inl cr))), (hh, .inr (1, [.ref ka, .int (nI (x_nx nx)), .int (nI (x_sz sz))])), (ka, .inl (cS, 24, .inr (.inr (.inr (.inr fk)))))] ++ (xst cI cJ ad v ++ xpl cI cJ ads (va_up vs nx v) N4)) := hD
        refine lv_aload_n hx hb dX4_step_37 rfl (lv_at hl 0 rfl) ?_
        refine va_get (D := D) (ci := 3) (v := .ref (ad 0)) (C := RX4) (T := TX4) (N := 3) hx hb hts hiX4 hown hK hP 0 rfl rfl 0 (by decide) (hts (.fieldLink RX4 12 "PointerSweep" "now" "LPointerSweep$State;") (by decide +kernel)) (fun _ h9 => h9) rfl dX4_step_38 ?_
        refine lv_iload_n hx hb dX4_step_41 rfl (lv_at hl 1 rfl) ?_
        refine xk_callM (va_runV (As := [.int (nI nk)]) (rest := []) ⟨hx, hb, hml, hown, hts⟩ (k_lookAtNextPagesF l D cI cJ cS ad v (x_ok_m hv) hv.2.2 nk hn1 hn2) (cwV 1 hts gX4_step_X2_lookAtNextPages rfl rfl rfl (by decide +kernel) ⟨Nat.le_of_ble_eq_true rfl, Nat.le_of_ble_eq_true rfl⟩) (xk_preVm hK hN hP hD (ci := 2) rfl 0 rfl) rfl rfl hl.1 rfl (lv_room (Nat.le_of_ble_eq_true rfl)) dX4_step_42 ⟨Nat.zero_le _, Nat.zero_le _⟩) hP hD hS rfl (fun H locs hP hD hS => ?_)
        replace hP : va_P D vwCl ([(h0, .inr (3, [.ref (ad 0), .ref hh, .ref ca])), (ca, .inl (cJ, 64, .inr (.inl cr))), (hh, .inr (1, [.ref ka, .int (nI (x_nx nx)), .int (nI (x_sz sz))])), (ka, .inl (cS, 24, .inr (.inr (.inr (.inr fk)))))] ++ (xst cI cJ ad ((x_cl v.2.2.2.2.2.1 v.1 (16 * v.2.2.2.2.2.2.2.2.1) (16 * x_stop v.2.2.2.2.2.2.2.2.1 nk)), v.2.1, (x_pt v.2.2.2.2.2.1 v.1 v.2.2.2.2.2.2.2.2.1 nk v.2.2.1), v.2.2.2.1, v.2.2.2.2.1, v.2.2.2.2.2.1, v.2.2.2.2.2.2.1, v.2.2.2.2.2.2.2.1, (x_stop v.2.2.2.2.2.2.2.2.1 nk), v.2.2.2.2.2.2.2.2.2) ++ xpl cI cJ ads (va_up vs nx v) N4)) H := hP
        replace hD : va_D _ ([(h0, .inr (3, [.ref (ad 0), .ref hh, .ref ca])), (ca, .inl (cJ, 64, .inr (.inl cr))), (hh, .inr (1, [.ref ka, .int (nI (x_nx nx)), .int (nI (x_sz sz))])), (ka, .inl (cS, 24, .inr (.inr (.inr (.inr fk)))))] ++ (xst cI cJ ad ((x_cl v.2.2.2.2.2.1 v.1 (16 * v.2.2.2.2.2.2.2.2.1) (16 * x_stop v.2.2.2.2.2.2.2.2.1 nk)), v.2.1, (x_pt v.2.2.2.2.2.1 v.1 v.2.2.2.2.2.2.2.2.1 nk v.2.2.1), v.2.2.2.1, v.2.2.2.2.1, v.2.2.2.2.2.1, v.2.2.2.2.2.2.1, v.2.2.2.2.2.2.2.1, (x_stop v.2.2.2.2.2.2.2.2.1 nk), v.2.2.2.2.2.2.2.2.2) ++ xpl cI cJ ads (va_up vs nx v) N4)) := hD
        have e9 : sp_step v n = (x_cn v.2.2.2.2.2.1 v.1 (16 * v.2.2.2.2.2.2.2.2.1) (16 * x_stop v.2.2.2.2.2.2.2.2.1 nk), some (x_stp v nk)) := (by unfold sp_step; rw [if_pos ⟨c_2, c_8⟩, if_pos (xb_ne c_20), hxn])
        exact xk_iretW hx hb hr hlk hP hS (by rw [e9]) (by rw [← hW1, e9]; rfl) dX4_step_45
      · skip
        refine lv_bipush (v := (-2)) hx hb dX4_step_23 (by decide) ?_
        have e9 : sp_step v n = (-2, none) := (by unfold sp_step; rw [if_pos ⟨c_2, c_8⟩, if_neg (x_bt c_20)])
        exact xk_iretW hx hb hr hlk hP hS (by rw [e9]) (by rw [← hW1, e9]; rfl) dX4_step_25
    · skip
      refine lv_iconst (v := (-1)) hx hb dX4_step_11 (by decide) ?_
      have e9 : sp_step v n = (-1, none) := if_neg (fun z => c_8 z.2)
      exact xk_iretW hx hb hr hlk hP hS (by rw [e9]) (by rw [← hW1, e9]; rfl) dX4_step_12
set_option maxHeartbeats 4000000 in
set_option maxRecDepth 100000 in
theorem x_endc (l : Launch) (D : va_G) (cI cJ cS : ClassId) (h0 ca hh ka : Nat) (fk : Nat → Option Nat) (ad : Nat → Nat) (ads : Nat → Nat → Nat) (N4 : Nat) (h4 : N4 = 24) (cr : Nat → Int64) (v : xV) (vs : Nat → xV) (nx sz : Nat) (hka : ∀ i, i < 24 → fk i = some (ads i 0)) (hnx : nx < 24) (hsz : sz ≤ 24) (hv : x_ok v) : xk_Wr l yX4_end wsX4_end ({ frames := 6, cells := 0, slots := 0, locals := 136 }) D vwCl (xt cI cJ cS) (xx cI cJ cS h0 ca hh ka fk ad ads N4 cr v vs nx sz) [.ref h0] (xxo cI cJ cS h0 ca hh ka fk ad ads N4 cr v vs nx sz (sp_end v).2) (some (.int (sp_end v).1)) := by
  refine xk_wr2 (cc := cX4_end) (maxL := 1) (ret := (some .int)) (by decide) rfl (Nat.le_of_ble_eq_true rfl) (fun p e s m below meth c ls W0v W1v hW1 hx hb hr hlk hml hown hts hl hP hK hN hD hS => ?_)
  replace hl : lv_has ls 1 [(0, .ref h0)] := hl
  have hiX2 : ∀ w ∈ u_ws RX2 TX2 10, w ∈ wsX4_end := by decide +kernel
  have hiX4 : ∀ w ∈ u_ws RX4 TX4 3, w ∈ wsX4_end := by decide +kernel
  replace hP : va_P D vwCl ([(h0, .inr (3, [.ref (ad 0), .ref hh, .ref ca])), (ca, .inl (cJ, 64, .inr (.inl cr))), (hh, .inr (1, [.ref ka, .int (nI nx), .int (nI sz)])), (ka, .inl (cS, 24, .inr (.inr (.inr (.inr fk)))))] ++ (xst cI cJ ad v ++ xpl cI cJ ads vs N4)) s.heap := hP
  replace hD : va_D _ ([(h0, .inr (3, [.ref (ad 0), .ref hh, .ref ca])), (ca, .inl (cJ, 64, .inr (.inl cr))), (hh, .inr (1, [.ref ka, .int (nI nx), .int (nI sz)])), (ka, .inl (cS, 24, .inr (.inr (.inr (.inr fk)))))] ++ (xst cI cJ ad v ++ xpl cI cJ ads vs N4)) := hD
  refine lv_aload_n hx hb dX4_end_0 rfl (lv_at hl 0 rfl) ?_
  refine va_get (D := D) (ci := 3) (v := .ref (ad 0)) (C := RX4) (T := TX4) (N := 3) hx hb hts hiX4 hown hK hP 0 rfl rfl 0 (by decide) (hts (.fieldLink RX4 12 "PointerSweep" "now" "LPointerSweep$State;") (by decide +kernel)) (fun _ h9 => h9) rfl dX4_end_1 ?_
  refine va_get (D := D) (ci := 2) (v := .int (xb v.2.2.2.2.2.2.2.1)) (C := RX2) (T := TX2) (N := 10) hx hb hts hiX2 hown hK hP 4 rfl rfl 7 (by decide) (hts (.fieldLink RX4 105 "PointerSweep$State" "sweeping" "Z") (by decide +kernel)) (fun _ h9 => h9) rfl dX4_end_4 ?_
  refine lv_if_eq (tgt := 22) hx hb dX4_end_7 (by decide) (fun c_7 => ?_) (fun c_7 => ?_)
  · skip
    refine lv_bipush (v := (-2)) hx hb dX4_end_22 (by decide) ?_
    have e9 : sp_end v = (-2, none) := if_neg (fun z => x_bt c_7 z.1)
    exact xk_iretW hx hb hr hlk hP hS (by rw [e9]) (by rw [← hW1, e9]; rfl) dX4_end_24
  · skip
    refine lv_aload_n hx hb dX4_end_10 rfl (lv_at hl 0 rfl) ?_
    refine va_get (D := D) (ci := 3) (v := .ref (ad 0)) (C := RX4) (T := TX4) (N := 3) hx hb hts hiX4 hown hK hP 0 rfl rfl 0 (by decide) (hts (.fieldLink RX4 12 "PointerSweep" "now" "LPointerSweep$State;") (by decide +kernel)) (fun _ h9 => h9) rfl dX4_end_11 ?_
    refine va_get (D := D) (ci := 2) (v := .int (nI v.2.2.2.2.2.2.2.2.1)) (C := RX2) (T := TX2) (N := 10) hx hb hts hiX2 hown hK hP 4 rfl rfl 8 (by decide) (hts (.fieldLink RX4 116 "PointerSweep$State" "seenPages" "I") (by decide +kernel)) (fun _ h9 => h9) rfl dX4_end_14 ?_
    refine lv_bipush (v := 16) hx hb dX4_end_17 (by decide) ?_
    refine lv_icmp_ge (tgt := 25) hx hb dX4_end_19 (by decide) (fun c_19 => ?_) (fun c_19 => ?_)
    · skip
      refine lv_aload_n hx hb dX4_end_25 rfl (lv_at hl 0 rfl) ?_
      refine va_get (D := D) (ci := 3) (v := .ref hh) (C := RX4) (T := TX4) (N := 3) hx hb hts hiX4 hown hK hP 0 rfl rfl 1 (by decide) (hts (.fieldLink RX4 19 "PointerSweep" "history" "LPointerSweep$History;") (by decide +kernel)) (fun _ h9 => h9) rfl dX4_end_26 ?_
      refine lv_aload_n hx hb dX4_end_29 rfl (lv_at hl 0 rfl) ?_
      refine va_get (D := D) (ci := 3) (v := .ref (ad 0)) (C := RX4) (T := TX4) (N := 3) hx hb hts hiX4 hown hK hP 0 rfl rfl 0 (by decide) (hts (.fieldLink RX4 12 "PointerSweep" "now" "LPointerSweep$State;") (by decide +kernel)) (fun _ h9 => h9) rfl dX4_end_30 ?_
      refine xk_callS (X := [(h0, .inr (3, [.ref (ad 0), .ref hh, .ref ca])), (ca, .inl (cJ, 64, .inr (.inl cr)))]) (va_runV (As := [.ref (ad 0)]) (rest := []) ⟨hx, hb, hml, hown, hts⟩ (k_keep l D cI cJ cS hh ka fk ad ads v vs nx sz hka hnx hsz N4 h4) (cwV 1 hts gX4_end_X1_keep rfl rfl rfl (by decide +kernel) ⟨Nat.le_of_ble_eq_true rfl, Nat.le_of_ble_eq_true rfl⟩) (xk_preVs (X := [(h0, .inr (3, [.ref (ad 0), .ref hh, .ref ca])), (ca, .inl (cJ, 64, .inr (.inl cr)))]) hK hN hP hD (ci := 1) rfl 0 rfl) rfl rfl hl.1 rfl (lv_room (Nat.le_of_ble_eq_true rfl)) dX4_end_33 ⟨Nat.zero_le _, Nat.zero_le _⟩) hP hD hS (xh_fst _ _ _ _ _ _ _ _ _ _ _ _ _ _ _ _ _) (fun H locs hP hD hS => ?_)
      replace hP : va_P D vwCl ([(h0, .inr (3, [.ref (ad 0), .ref hh, .ref ca])), (ca, .inl (cJ, 64, .inr (.inl cr))), (hh, .inr (1, [.ref ka, .int (nI (x_nx nx)), .int (nI (x_sz sz))])), (ka, .inl (cS, 24, .inr (.inr (.inr (.inr fk)))))] ++ (xst cI cJ ad v ++ xpl cI cJ ads (va_up vs nx v) N4)) H := hP
      replace hD : va_D _ ([(h0, .inr (3, [.ref (ad 0), .ref hh, .ref ca])), (ca, .inl (cJ, 64, .inr (.inl cr))), (hh, .inr (1, [.ref ka, .int (nI (x_nx nx)), .int (nI (x_sz sz))])), (ka, .inl (cS, 24, .inr (.inr (.inr (.inr fk)))))] ++ (xst cI cJ ad v ++ xpl cI cJ ads (va_up vs nx v) N4)) := hD
      refine lv_aload_n hx hb dX4_end_36 rfl (lv_at hl 0 rfl) ?_
      refine va_get (D := D) (ci := 3) (v := .ref (ad 0)) (C := RX4) (T := TX4) (N := 3) hx hb hts hiX4 hown hK hP 0 rfl rfl 0 (by decide) (hts (.fieldLink RX4 12 "PointerSweep" "now" "LPointerSweep$State;") (by decide +kernel)) (fun _ h9 => h9) rfl dX4_end_37 ?_
      refine xk_callM (va_runV (As := []) (rest := []) ⟨hx, hb, hml, hown, hts⟩ (k_finishSweepF l D cI cJ cS ad v (x_ok_m hv) (x_ok_r hv)) (cwV 0 hts gX4_end_X2_finishSweep rfl rfl rfl (by decide +kernel) ⟨Nat.le_of_ble_eq_true rfl, Nat.le_of_ble_eq_true rfl⟩) (xk_preVm hK hN hP hD (ci := 2) rfl 0 rfl) rfl rfl hl.1 rfl (lv_room (Nat.le_of_ble_eq_true rfl)) dX4_end_40 ⟨Nat.zero_le _, Nat.zero_le _⟩) hP hD hS rfl (fun H locs hP hD hS => ?_)
      replace hP : va_P D vwCl ([(h0, .inr (3, [.ref (ad 0), .ref hh, .ref ca])), (ca, .inl (cJ, 64, .inr (.inl cr))), (hh, .inr (1, [.ref ka, .int (nI (x_nx nx)), .int (nI (x_sz sz))])), (ka, .inl (cS, 24, .inr (.inr (.inr (.inr fk)))))] ++ (xst cI cJ ad ((x_dm v.2.2.2.2.2.1 v.2.2.2.2.2.2.2.2.2 v.1 16), (x_cl v.2.2.2.2.2.1 v.2.1 0 8), (x_et v.2.2.2.2.2.1 v.2.2.2.2.2.2.2.2.2 v.1 v.2.1 v.2.2.1), v.2.2.2.1, (fun i => v.2.2.2.2.1 i && !v.2.2.2.2.2.1 i), (fun i => v.2.2.2.2.2.1 i && !v.2.2.2.2.2.1 i), v.2.2.2.2.2.2.1, false, 0, (fun _ => false)) ++ xpl cI cJ ads (va_up vs nx v) N4)) H := hP
      replace hD : va_D _ ([(h0, .inr (3, [.ref (ad 0), .ref hh, .ref ca])), (ca, .inl (cJ, 64, .inr (.inl cr))), (hh, .inr (1, [.ref ka, .int (nI (x_nx nx)), .int (nI (x_sz sz))])), (ka, .inl (cS, 24, .inr (.inr (.inr (.inr fk)))))] ++ (xst cI cJ ad ((x_dm v.2.2.2.2.2.1 v.2.2.2.2.2.2.2.2.2 v.1 16), (x_cl v.2.2.2.2.2.1 v.2.1 0 8), (x_et v.2.2.2.2.2.1 v.2.2.2.2.2.2.2.2.2 v.1 v.2.1 v.2.2.1), v.2.2.2.1, (fun i => v.2.2.2.2.1 i && !v.2.2.2.2.2.1 i), (fun i => v.2.2.2.2.2.1 i && !v.2.2.2.2.2.1 i), v.2.2.2.2.2.2.1, false, 0, (fun _ => false)) ++ xpl cI cJ ads (va_up vs nx v) N4)) := hD
      have e9 : sp_end v = (nI (xs_w v.2.2.2.2.2.1 0 256), some (x_end v)) := if_pos ⟨xb_ne c_7, xn_le_of (a := 16) (by decide) (by have := hv.2.2; omega) c_19⟩
      exact xk_iretW hx hb hr hlk hP hS (by rw [e9]) (by rw [← hW1, e9]; rfl) dX4_end_43
    · skip
      refine lv_bipush (v := (-2)) hx hb dX4_end_22 (by decide) ?_
      have e9 : sp_end v = (-2, none) := if_neg (fun z => c_19 (nI_le (a := 16) z.2 (by have := hv.2.2; omega)))
      exact xk_iretW hx hb hr hlk hP hS (by rw [e9]) (by rw [← hW1, e9]; rfl) dX4_end_24
set_option maxHeartbeats 4000000 in
set_option maxRecDepth 100000 in
theorem x_undo0 (l : Launch) (D : va_G) (cI cJ cS : ClassId) (h0 ca hh ka : Nat) (fk : Nat → Option Nat) (ad : Nat → Nat) (ads : Nat → Nat → Nat) (N4 : Nat) (h4 : N4 = 24) (cr : Nat → Int64) (v : xV) (vs : Nat → xV) (nx sz : Nat) (hka : ∀ i, i < 24 → fk i = some (ads i 0)) (hnx : nx < 24) (hsz : sz ≤ 24) (hv : x_ok v) (hs0 : sz = 0) : xk_Wr l yX4_undo wsX4_undo ({ frames := 4, cells := 0, slots := 0, locals := 123 }) D vwCl (xt cI cJ cS) (xx cI cJ cS h0 ca hh ka fk ad ads N4 cr v vs nx sz) [.ref h0] (xx cI cJ cS h0 ca hh ka fk ad ads N4 cr v vs nx sz) (some (.int (-2))) := by
  refine xk_wr2 (cc := cX4_undo) (maxL := 1) (ret := (some .int)) (by decide) rfl (Nat.le_of_ble_eq_true rfl) (fun p e s m below meth c ls W0v W1v hW1 hx hb hr hlk hml hown hts hl hP hK hN hD hS => ?_)
  replace hl : lv_has ls 1 [(0, .ref h0)] := hl
  have hiX1 : ∀ w ∈ u_ws RX1 TX1 3, w ∈ wsX4_undo := by decide +kernel
  have hiX4 : ∀ w ∈ u_ws RX4 TX4 3, w ∈ wsX4_undo := by decide +kernel
  replace hP : va_P D vwCl ([(h0, .inr (3, [.ref (ad 0), .ref hh, .ref ca])), (ca, .inl (cJ, 64, .inr (.inl cr))), (hh, .inr (1, [.ref ka, .int (nI nx), .int (nI sz)])), (ka, .inl (cS, 24, .inr (.inr (.inr (.inr fk)))))] ++ (xst cI cJ ad v ++ xpl cI cJ ads vs N4)) s.heap := hP
  replace hD : va_D _ ([(h0, .inr (3, [.ref (ad 0), .ref hh, .ref ca])), (ca, .inl (cJ, 64, .inr (.inl cr))), (hh, .inr (1, [.ref ka, .int (nI nx), .int (nI sz)])), (ka, .inl (cS, 24, .inr (.inr (.inr (.inr fk)))))] ++ (xst cI cJ ad v ++ xpl cI cJ ads vs N4)) := hD
  refine lv_aload_n hx hb dX4_undo_0 rfl (lv_at hl 0 rfl) ?_
  refine va_get (D := D) (ci := 3) (v := .ref hh) (C := RX4) (T := TX4) (N := 3) hx hb hts hiX4 hown hK hP 0 rfl rfl 1 (by decide) (hts (.fieldLink RX4 19 "PointerSweep" "history" "LPointerSweep$History;") (by decide +kernel)) (fun _ h9 => h9) rfl dX4_undo_1 ?_
  refine va_get (D := D) (ci := 1) (v := .int (nI sz)) (C := RX1) (T := TX1) (N := 3) hx hb hts hiX1 hown hK hP 2 rfl rfl 2 (by decide) (hts (.fieldLink RX4 167 "PointerSweep$History" "size" "I") (by decide +kernel)) (fun _ h9 => h9) rfl dX4_undo_4 ?_
  refine lv_if_ne (tgt := 13) hx hb dX4_undo_7 (by decide) (fun c_7 => ?_) (fun c_7 => ?_)
  · skip
    exact absurd (by rw [hs0]; rfl) c_7
  · skip
    refine lv_bipush (v := (-2)) hx hb dX4_undo_10 (by decide) ?_
    exact xk_iretW hx hb hr hlk hP hS rfl hW1 dX4_undo_12
set_option maxHeartbeats 4000000 in
set_option maxRecDepth 100000 in
theorem x_undo1 (l : Launch) (D : va_G) (cI cJ cS : ClassId) (h0 ca hh ka : Nat) (fk : Nat → Option Nat) (ad : Nat → Nat) (ads : Nat → Nat → Nat) (N4 : Nat) (h4 : N4 = 24) (cr : Nat → Int64) (v : xV) (vs : Nat → xV) (nx sz : Nat) (hka : ∀ i, i < 24 → fk i = some (ads i 0)) (hnx : nx < 24) (hsz : sz ≤ 24) (hv : x_ok v) (hs0 : 0 < sz) : xk_Wr l yX4_undo wsX4_undo ({ frames := 4, cells := 0, slots := 0, locals := 123 }) D vwCl (xt cI cJ cS) (xx cI cJ cS h0 ca hh ka fk ad ads N4 cr v vs nx sz) [.ref h0] (xx cI cJ cS h0 ca hh ka fk ad ads N4 cr (vs (x_pv nx)) vs (x_pv nx) (sz - 1)) (some (.int 1)) := by
  refine xk_wr2 (cc := cX4_undo) (maxL := 1) (ret := (some .int)) (by decide) rfl (Nat.le_of_ble_eq_true rfl) (fun p e s m below meth c ls W0v W1v hW1 hx hb hr hlk hml hown hts hl hP hK hN hD hS => ?_)
  replace hl : lv_has ls 1 [(0, .ref h0)] := hl
  have hiX1 : ∀ w ∈ u_ws RX1 TX1 3, w ∈ wsX4_undo := by decide +kernel
  have hiX4 : ∀ w ∈ u_ws RX4 TX4 3, w ∈ wsX4_undo := by decide +kernel
  replace hP : va_P D vwCl ([(h0, .inr (3, [.ref (ad 0), .ref hh, .ref ca])), (ca, .inl (cJ, 64, .inr (.inl cr))), (hh, .inr (1, [.ref ka, .int (nI nx), .int (nI sz)])), (ka, .inl (cS, 24, .inr (.inr (.inr (.inr fk)))))] ++ (xst cI cJ ad v ++ xpl cI cJ ads vs N4)) s.heap := hP
  replace hD : va_D _ ([(h0, .inr (3, [.ref (ad 0), .ref hh, .ref ca])), (ca, .inl (cJ, 64, .inr (.inl cr))), (hh, .inr (1, [.ref ka, .int (nI nx), .int (nI sz)])), (ka, .inl (cS, 24, .inr (.inr (.inr (.inr fk)))))] ++ (xst cI cJ ad v ++ xpl cI cJ ads vs N4)) := hD
  refine lv_aload_n hx hb dX4_undo_0 rfl (lv_at hl 0 rfl) ?_
  refine va_get (D := D) (ci := 3) (v := .ref hh) (C := RX4) (T := TX4) (N := 3) hx hb hts hiX4 hown hK hP 0 rfl rfl 1 (by decide) (hts (.fieldLink RX4 19 "PointerSweep" "history" "LPointerSweep$History;") (by decide +kernel)) (fun _ h9 => h9) rfl dX4_undo_1 ?_
  refine va_get (D := D) (ci := 1) (v := .int (nI sz)) (C := RX1) (T := TX1) (N := 3) hx hb hts hiX1 hown hK hP 2 rfl rfl 2 (by decide) (hts (.fieldLink RX4 167 "PointerSweep$History" "size" "I") (by decide +kernel)) (fun _ h9 => h9) rfl dX4_undo_4 ?_
  refine lv_if_ne (tgt := 13) hx hb dX4_undo_7 (by decide) (fun c_7 => ?_) (fun c_7 => ?_)
  · skip
    refine lv_aload_n hx hb dX4_undo_13 rfl (lv_at hl 0 rfl) ?_
    refine va_get (D := D) (ci := 3) (v := .ref hh) (C := RX4) (T := TX4) (N := 3) hx hb hts hiX4 hown hK hP 0 rfl rfl 1 (by decide) (hts (.fieldLink RX4 19 "PointerSweep" "history" "LPointerSweep$History;") (by decide +kernel)) (fun _ h9 => h9) rfl dX4_undo_14 ?_
    refine lv_aload_n hx hb dX4_undo_17 rfl (lv_at hl 0 rfl) ?_
    refine va_get (D := D) (ci := 3) (v := .ref (ad 0)) (C := RX4) (T := TX4) (N := 3) hx hb hts hiX4 hown hK hP 0 rfl rfl 0 (by decide) (hts (.fieldLink RX4 12 "PointerSweep" "now" "LPointerSweep$State;") (by decide +kernel)) (fun _ h9 => h9) rfl dX4_undo_18 ?_
    refine xk_callS (X := [(h0, .inr (3, [.ref (ad 0), .ref hh, .ref ca])), (ca, .inl (cJ, 64, .inr (.inl cr)))]) (va_runV (As := [.ref (ad 0)]) (rest := []) ⟨hx, hb, hml, hown, hts⟩ (k_takeBack l D cI cJ cS hh ka fk ad ads v vs nx sz hka hnx hsz N4 h4 hs0) (cwV 1 hts gX4_undo_X1_takeBack rfl rfl rfl (by decide +kernel) ⟨Nat.le_of_ble_eq_true rfl, Nat.le_of_ble_eq_true rfl⟩) (xk_preVs (X := [(h0, .inr (3, [.ref (ad 0), .ref hh, .ref ca])), (ca, .inl (cJ, 64, .inr (.inl cr)))]) hK hN hP hD (ci := 1) rfl 0 rfl) rfl rfl hl.1 rfl (lv_room (Nat.le_of_ble_eq_true rfl)) dX4_undo_21 ⟨Nat.zero_le _, Nat.zero_le _⟩) hP hD hS (xh_fst _ _ _ _ _ _ _ _ _ _ _ _ _ _ _ _ _) (fun H locs hP hD hS => ?_)
    replace hP : va_P D vwCl ([(h0, .inr (3, [.ref (ad 0), .ref hh, .ref ca])), (ca, .inl (cJ, 64, .inr (.inl cr))), (hh, .inr (1, [.ref ka, .int (nI (x_pv nx)), .int (nI (sz - 1))])), (ka, .inl (cS, 24, .inr (.inr (.inr (.inr fk)))))] ++ (xst cI cJ ad (((vs (x_pv nx)).1), ((vs (x_pv nx)).2.1), ((vs (x_pv nx)).2.2.1), ((vs (x_pv nx)).2.2.2.1), ((vs (x_pv nx)).2.2.2.2.1), ((vs (x_pv nx)).2.2.2.2.2.1), ((vs (x_pv nx)).2.2.2.2.2.2.1), ((vs (x_pv nx)).2.2.2.2.2.2.2.1), ((vs (x_pv nx)).2.2.2.2.2.2.2.2.1), ((vs (x_pv nx)).2.2.2.2.2.2.2.2.2)) ++ xpl cI cJ ads vs N4)) H := hP
    replace hD : va_D _ ([(h0, .inr (3, [.ref (ad 0), .ref hh, .ref ca])), (ca, .inl (cJ, 64, .inr (.inl cr))), (hh, .inr (1, [.ref ka, .int (nI (x_pv nx)), .int (nI (sz - 1))])), (ka, .inl (cS, 24, .inr (.inr (.inr (.inr fk)))))] ++ (xst cI cJ ad (((vs (x_pv nx)).1), ((vs (x_pv nx)).2.1), ((vs (x_pv nx)).2.2.1), ((vs (x_pv nx)).2.2.2.1), ((vs (x_pv nx)).2.2.2.2.1), ((vs (x_pv nx)).2.2.2.2.2.1), ((vs (x_pv nx)).2.2.2.2.2.2.1), ((vs (x_pv nx)).2.2.2.2.2.2.2.1), ((vs (x_pv nx)).2.2.2.2.2.2.2.2.1), ((vs (x_pv nx)).2.2.2.2.2.2.2.2.2)) ++ xpl cI cJ ads vs N4)) := hD
    refine lv_iconst (v := 1) hx hb dX4_undo_24 (by decide) ?_
    exact xk_iretW hx hb hr hlk hP hS rfl hW1 dX4_undo_25
  · skip
    exact absurd c_7 (nI_ne0 hs0 (by omega))
set_option maxHeartbeats 4000000 in
set_option maxRecDepth 100000 in
theorem x_give (l : Launch) (D : va_G) (cI cJ cS : ClassId) (h0 ca hh ka : Nat) (fk : Nat → Option Nat) (ad : Nat → Nat) (ads : Nat → Nat → Nat) (N4 : Nat) (h4 : N4 = 24) (cr : Nat → Int64) (v : xV) (vs : Nat → xV) (nx sz : Nat) (hka : ∀ i, i < 24 → fk i = some (ads i 0)) (hnx : nx < 24) (hsz : sz ≤ 24) (hv : x_ok v) (r n : Int32) : xk_Wr l yX4_give wsX4_give ({ frames := 4, cells := 0, slots := 0, locals := 123 }) D vwCl (xt cI cJ cS) (xx cI cJ cS h0 ca hh ka fk ad ads N4 cr v vs nx sz) [.ref h0, .int r, .int n] (xxo cI cJ cS h0 ca hh ka fk ad ads N4 cr v vs nx sz (sp_give v r n).2) (some (.int (sp_give v r n).1)) := by
  refine xk_wr2 (cc := cX4_give) (maxL := 4) (ret := (some .int)) (by decide) rfl (Nat.le_of_ble_eq_true rfl) (fun p e s m below meth c ls W0v W1v hW1 hx hb hr hlk hml hown hts hl hP hK hN hD hS => ?_)
  replace hl : lv_has ls 4 [(0, .ref h0), (1, .int r), (2, .int n)] := hl
  have hiX2 : ∀ w ∈ u_ws RX2 TX2 10, w ∈ wsX4_give := by decide +kernel
  have hiX4 : ∀ w ∈ u_ws RX4 TX4 3, w ∈ wsX4_give := by decide +kernel
  replace hP : va_P D vwCl ([(h0, .inr (3, [.ref (ad 0), .ref hh, .ref ca])), (ca, .inl (cJ, 64, .inr (.inl cr))), (hh, .inr (1, [.ref ka, .int (nI nx), .int (nI sz)])), (ka, .inl (cS, 24, .inr (.inr (.inr (.inr fk)))))] ++ (xst cI cJ ad v ++ xpl cI cJ ads vs N4)) s.heap := hP
  replace hD : va_D _ ([(h0, .inr (3, [.ref (ad 0), .ref hh, .ref ca])), (ca, .inl (cJ, 64, .inr (.inl cr))), (hh, .inr (1, [.ref ka, .int (nI nx), .int (nI sz)])), (ka, .inl (cS, 24, .inr (.inr (.inr (.inr fk)))))] ++ (xst cI cJ ad v ++ xpl cI cJ ads vs N4)) := hD
  refine lv_iload_n hx hb dX4_give_0 rfl (lv_at hl 1 rfl) ?_
  refine xk_callR (va_runS (As := [.int r]) (rest := []) ⟨hx, hb, hml, hown, hts⟩ (k_isRegister l D cI cJ cS r) (va_cwS 1 hts gX4_give_X4_isRegister rfl rfl rfl (by decide +kernel) ⟨Nat.le_of_ble_eq_true rfl, Nat.le_of_ble_eq_true rfl⟩) (xk_preSr hK hN hP [] rfl) rfl rfl hl.1 rfl (lv_room (Nat.le_of_ble_eq_true rfl)) dX4_give_1 ⟨Nat.zero_le _, Nat.zero_le _⟩) ?_
  refine lv_if_eq (tgt := 18) hx hb dX4_give_4 (by decide) (fun c_4 => ?_) (fun c_4 => ?_)
  · skip
    refine lv_iconst (v := (-1)) hx hb dX4_give_18 (by decide) ?_
    have e9 : sp_give v r n = (-1, none) := if_neg (fun z => x_bt c_4 z.1)
    exact xk_iretW hx hb hr hlk hP hS (by rw [e9]) (by rw [← hW1, e9]; rfl) dX4_give_19
  · skip
    refine lv_iload_n hx hb dX4_give_7 rfl (lv_at hl 2 rfl) ?_
    refine lv_iconst (v := 1) hx hb dX4_give_8 (by decide) ?_
    refine lv_icmp_lt (tgt := 18) hx hb dX4_give_9 (by decide) (fun c_9 => ?_) (fun c_9 => ?_)
    · skip
      refine lv_iconst (v := (-1)) hx hb dX4_give_18 (by decide) ?_
      have e9 : sp_give v r n = (-1, none) := if_neg (fun z => z.2.1 c_9)
      exact xk_iretW hx hb hr hlk hP hS (by rw [e9]) (by rw [← hW1, e9]; rfl) dX4_give_19
    · skip
      refine lv_iload_n hx hb dX4_give_12 rfl (lv_at hl 2 rfl) ?_
      refine lv_bipush (v := 64) hx hb dX4_give_13 (by decide) ?_
      refine lv_icmp_le (tgt := 20) hx hb dX4_give_15 (by decide) (fun c_15 => ?_) (fun c_15 => ?_)
      · skip
        refine lv_aload_n hx hb dX4_give_20 rfl (lv_at hl 0 rfl) ?_
        refine va_get (D := D) (ci := 3) (v := .ref (ad 0)) (C := RX4) (T := TX4) (N := 3) hx hb hts hiX4 hown hK hP 0 rfl rfl 0 (by decide) (hts (.fieldLink RX4 12 "PointerSweep" "now" "LPointerSweep$State;") (by decide +kernel)) (fun _ h9 => h9) rfl dX4_give_21 ?_
        refine lv_iload_n hx hb dX4_give_24 rfl (lv_at hl 2 rfl) ?_
        refine xk_callR (va_runV (As := [.int n]) (rest := []) ⟨hx, hb, hml, hown, hts⟩ (k_firstFreeRowF l D cI cJ cS ad v n) (cwV 1 hts gX4_give_X2_firstFreeRow rfl rfl rfl (by decide +kernel) ⟨Nat.le_of_ble_eq_true rfl, Nat.le_of_ble_eq_true rfl⟩) (xk_preVmr hK hN hP (ci := 2) rfl 0 rfl) rfl rfl hl.1 rfl (lv_room (Nat.le_of_ble_eq_true rfl)) dX4_give_25 ⟨Nat.zero_le _, Nat.zero_le _⟩) ?_
        refine lv_istore_n (lv' := [(3, .int (x_ffr (xu v.2.2.2.1 v.2.2.2.2.1) n 256 0 0)), (0, .ref h0), (1, .int r), (2, .int n)]) hx hb dX4_give_28 rfl hl (by decide) rfl (fun ls hl => ?_)
        refine lv_iload_n hx hb dX4_give_29 rfl (lv_at hl 0 rfl) ?_
        refine lv_if_ge (tgt := 36) hx hb dX4_give_30 (by decide) (fun c_30 => ?_) (fun c_30 => ?_)
        · skip
          obtain ⟨rk, hrk, er⟩ := xi_of (xb_ne c_4)
          have hxr : xN r = rk := by rw [er]; exact xN_nI (by omega)
          obtain ⟨nk, hn1, hn2, en, hxn⟩ := x_1n (M := 64) (m := 64) rfl c_9 c_15
          obtain ⟨fj, hfj, ef⟩ := x_ffr_in en hn1 hn2 c_30
          rw [ef, en, er] at hl
          refine lv_aload_n hx hb dX4_give_36 rfl (lv_at hl 1 rfl) ?_
          refine va_get (D := D) (ci := 3) (v := .ref hh) (C := RX4) (T := TX4) (N := 3) hx hb hts hiX4 hown hK hP 0 rfl rfl 1 (by decide) (hts (.fieldLink RX4 19 "PointerSweep" "history" "LPointerSweep$History;") (by decide +kernel)) (fun _ h9 => h9) rfl dX4_give_37 ?_
          refine lv_aload_n hx hb dX4_give_40 rfl (lv_at hl 1 rfl) ?_
          refine va_get (D := D) (ci := 3) (v := .ref (ad 0)) (C := RX4) (T := TX4) (N := 3) hx hb hts hiX4 hown hK hP 0 rfl rfl 0 (by decide) (hts (.fieldLink RX4 12 "PointerSweep" "now" "LPointerSweep$State;") (by decide +kernel)) (fun _ h9 => h9) rfl dX4_give_41 ?_
          refine xk_callS (X := [(h0, .inr (3, [.ref (ad 0), .ref hh, .ref ca])), (ca, .inl (cJ, 64, .inr (.inl cr)))]) (va_runV (As := [.ref (ad 0)]) (rest := []) ⟨hx, hb, hml, hown, hts⟩ (k_keep l D cI cJ cS hh ka fk ad ads v vs nx sz hka hnx hsz N4 h4) (cwV 1 hts gX4_give_X1_keep rfl rfl rfl (by decide +kernel) ⟨Nat.le_of_ble_eq_true rfl, Nat.le_of_ble_eq_true rfl⟩) (xk_preVs (X := [(h0, .inr (3, [.ref (ad 0), .ref hh, .ref ca])), (ca, .inl (cJ, 64, .inr (.inl cr)))]) hK hN hP hD (ci := 1) rfl 0 rfl) rfl rfl hl.1 rfl (lv_room (Nat.le_of_ble_eq_true rfl)) dX4_give_44 ⟨Nat.zero_le _, Nat.zero_le _⟩) hP hD hS (xh_fst _ _ _ _ _ _ _ _ _ _ _ _ _ _ _ _ _) (fun H locs hP hD hS => ?_)
          replace hP : va_P D vwCl ([(h0, .inr (3, [.ref (ad 0), .ref hh, .ref ca])), (ca, .inl (cJ, 64, .inr (.inl cr))), (hh, .inr (1, [.ref ka, .int (nI (x_nx nx)), .int (nI (x_sz sz))])), (ka, .inl (cS, 24, .inr (.inr (.inr (.inr fk)))))] ++ (xst cI cJ ad v ++ xpl cI cJ ads (va_up vs nx v) N4)) H := hP
          replace hD : va_D _ ([(h0, .inr (3, [.ref (ad 0), .ref hh, .ref ca])), (ca, .inl (cJ, 64, .inr (.inl cr))), (hh, .inr (1, [.ref ka, .int (nI (x_nx nx)), .int (nI (x_sz sz))])), (ka, .inl (cS, 24, .inr (.inr (.inr (.inr fk)))))] ++ (xst cI cJ ad v ++ xpl cI cJ ads (va_up vs nx v) N4)) := hD
          refine lv_aload_n hx hb dX4_give_47 rfl (lv_at hl 1 rfl) ?_
          refine va_get (D := D) (ci := 3) (v := .ref (ad 0)) (C := RX4) (T := TX4) (N := 3) hx hb hts hiX4 hown hK hP 0 rfl rfl 0 (by decide) (hts (.fieldLink RX4 12 "PointerSweep" "now" "LPointerSweep$State;") (by decide +kernel)) (fun _ h9 => h9) rfl dX4_give_48 ?_
          refine lv_iload_n hx hb dX4_give_51 rfl (lv_at hl 0 rfl) ?_
          refine lv_iload_n hx hb dX4_give_52 rfl (lv_at hl 0 rfl) ?_
          refine lv_iload_n hx hb dX4_give_53 rfl (lv_at hl 3 rfl) ?_
          refine lv_iadd hx hb dX4_give_54 ?_
          refine lv_topi (fun y ey => ?_)
          obtain rfl : y = nI (fj + nk) := ey.trans (nI_add _ _)
          refine xk_callM (va_runV (As := [.int (nI fj), .int (nI (fj + nk))]) (rest := []) ⟨hx, hb, hml, hown, hts⟩ (k_giveOutF l D cI cJ cS ad v fj (fj + nk) (by omega) (by omega) (by omega)) (cwV 2 hts gX4_give_X2_giveOut rfl rfl rfl (by decide +kernel) ⟨Nat.le_of_ble_eq_true rfl, Nat.le_of_ble_eq_true rfl⟩) (xk_preVm hK hN hP hD (ci := 2) rfl 0 rfl) rfl rfl hl.1 rfl (lv_room (Nat.le_of_ble_eq_true rfl)) dX4_give_55 ⟨Nat.zero_le _, Nat.zero_le _⟩) hP hD hS rfl (fun H locs hP hD hS => ?_)
          replace hP : va_P D vwCl ([(h0, .inr (3, [.ref (ad 0), .ref hh, .ref ca])), (ca, .inl (cJ, 64, .inr (.inl cr))), (hh, .inr (1, [.ref ka, .int (nI (x_nx nx)), .int (nI (x_sz sz))])), (ka, .inl (cS, 24, .inr (.inr (.inr (.inr fk)))))] ++ (xst cI cJ ad ((x_clr v.1 fj (fj + nk)), v.2.1, v.2.2.1, (x_add v.2.2.2.1 fj (fj + nk)), v.2.2.2.2.1, v.2.2.2.2.2.1, (va_up v.2.2.2.2.2.2.1 fj true), v.2.2.2.2.2.2.2.1, v.2.2.2.2.2.2.2.2.1, v.2.2.2.2.2.2.2.2.2) ++ xpl cI cJ ads (va_up vs nx v) N4)) H := hP
          replace hD : va_D _ ([(h0, .inr (3, [.ref (ad 0), .ref hh, .ref ca])), (ca, .inl (cJ, 64, .inr (.inl cr))), (hh, .inr (1, [.ref ka, .int (nI (x_nx nx)), .int (nI (x_sz sz))])), (ka, .inl (cS, 24, .inr (.inr (.inr (.inr fk)))))] ++ (xst cI cJ ad ((x_clr v.1 fj (fj + nk)), v.2.1, v.2.2.1, (x_add v.2.2.2.1 fj (fj + nk)), v.2.2.2.2.1, v.2.2.2.2.2.1, (va_up v.2.2.2.2.2.2.1 fj true), v.2.2.2.2.2.2.2.1, v.2.2.2.2.2.2.2.2.1, v.2.2.2.2.2.2.2.2.2) ++ xpl cI cJ ads (va_up vs nx v) N4)) := hD
          refine lv_aload_n hx hb dX4_give_58 rfl (lv_at hl 1 rfl) ?_
          refine va_get (D := D) (ci := 3) (v := .ref (ad 0)) (C := RX4) (T := TX4) (N := 3) hx hb hts hiX4 hown hK hP 0 rfl rfl 0 (by decide) (hts (.fieldLink RX4 12 "PointerSweep" "now" "LPointerSweep$State;") (by decide +kernel)) (fun _ h9 => h9) rfl dX4_give_59 ?_
          refine va_get (D := D) (ci := 2) (v := .ref (ad 2)) (C := RX2) (T := TX2) (N := 10) hx hb hts hiX2 hown hK hP 4 rfl rfl 1 (by decide) (hts (.fieldLink RX4 43 "PointerSweep$State" "registers" "[J") (by decide +kernel)) (fun _ h9 => h9) rfl dX4_give_62 ?_
          refine lv_iload_n hx hb dX4_give_65 rfl (lv_at hl 2 rfl) ?_
          refine lv_iload_n hx hb dX4_give_66 rfl (lv_at hl 0 rfl) ?_
          refine lv_iload_n hx hb dX4_give_67 rfl (lv_at hl 0 rfl) ?_
          refine lv_iload_n hx hb dX4_give_68 rfl (lv_at hl 3 rfl) ?_
          refine lv_iadd hx hb dX4_give_69 ?_
          refine lv_topi (fun y ey => ?_)
          obtain rfl : y = nI (fj + nk) := ey.trans (nI_add _ _)
          refine lv_iload_n hx hb dX4_give_70 rfl (lv_at hl 0 rfl) ?_
          refine lv_iconst (v := 3) hx hb dX4_give_71 (by decide) ?_
          refine xk_callR (va_runS (As := [.int (nI fj), .int (nI (fj + nk)), .int (nI fj), .int 3]) (rest := [.int (nI rk), .ref (ad 2)]) ⟨hx, hb, hml, hown, hts⟩ (k_ofPointer l D cI cJ cS fj (fj + nk) (nI fj) 3 (by omega) (by omega) (by decide)) (va_cwS 4 hts gX4_give_X3_ofPointer rfl rfl rfl (by decide +kernel) ⟨Nat.le_of_ble_eq_true rfl, Nat.le_of_ble_eq_true rfl⟩) (xk_preSr hK hN hP [] rfl) rfl rfl hl.1 rfl (lv_room (Nat.le_of_ble_eq_true rfl)) dX4_give_72 ⟨Nat.zero_le _, Nat.zero_le _⟩) ?_
          refine xa_lastW (w := ((nI fj), some (fj, (fj + nk), 3))) (ws' := [(h0, .inr (3, [.ref (ad 0), .ref hh, .ref ca])), (ca, .inl (cJ, 64, .inr (.inl cr))), (hh, .inr (1, [.ref ka, .int (nI (x_nx nx)), .int (nI (x_sz sz))])), (ka, .inl (cS, 24, .inr (.inr (.inr (.inr fk)))))] ++ (xst cI cJ ad ((x_clr v.1 fj (fj + nk)), (va_up v.2.1 rk ((nI fj), some (fj, (fj + nk), 3))), v.2.2.1, (x_add v.2.2.2.1 fj (fj + nk)), v.2.2.2.2.1, v.2.2.2.2.2.1, (va_up v.2.2.2.2.2.2.1 fj true), v.2.2.2.2.2.2.2.1, v.2.2.2.2.2.2.2.2.1, v.2.2.2.2.2.2.2.2.2) ++ xpl cI cJ ads (va_up vs nx v) N4)) hx hb hK hP hD hS 6 1 rfl rfl rk rfl hrk (by decide) dX4_give_75 rfl (fun H locs hP hD hS => ?_)
          refine lv_iload_n hx hb dX4_give_76 rfl (lv_at hl 0 rfl) ?_
          have e9 : sp_give v r n = (nI fj, some (x_giv v rk fj nk)) := (by unfold sp_give; rw [if_pos ⟨xb_ne c_4, c_9, c_15⟩, if_neg (x_ge0 c_30), ef, hxr, hxn, xN_nI (by omega)])
          exact xk_iretW hx hb hr hlk hP hS (by rw [e9]) (by rw [← hW1, e9]; rfl) dX4_give_77
        · skip
          refine lv_bipush (v := (-3)) hx hb dX4_give_33 (by decide) ?_
          have e9 : sp_give v r n = (-3, none) := (by unfold sp_give; rw [if_pos ⟨xb_ne c_4, c_9, c_15⟩, if_pos (x_lt0 c_30)])
          exact xk_iretW hx hb hr hlk hP hS (by rw [e9]) (by rw [← hW1, e9]; rfl) dX4_give_35
      · skip
        refine lv_iconst (v := (-1)) hx hb dX4_give_18 (by decide) ?_
        have e9 : sp_give v r n = (-1, none) := if_neg (fun z => c_15 z.2.2)
        exact xk_iretW hx hb hr hlk hP hS (by rw [e9]) (by rw [← hW1, e9]; rfl) dX4_give_19
end
section
set_option maxHeartbeats 4000000 in
set_option maxRecDepth 100000 in
theorem x_back (l : Launch) (D : va_G) (cI cJ cS : ClassId) (h0 ca hh ka : Nat) (fk : Nat → Option Nat) (ad : Nat → Nat) (ads : Nat → Nat → Nat) (N4 : Nat) (h4 : N4 = 24) (cr : Nat → Int64) (v : xV) (vs : Nat → xV) (nx sz : Nat) (hka : ∀ i, i < 24 → fk i = some (ads i 0)) (hnx : nx < 24) (hsz : sz ≤ 24) (hv : x_ok v) (r : Int32) : xk_Wr l yX4_back wsX4_back ({ frames := 4, cells := 0, slots := 0, locals := 123 }) D vwCl (xt cI cJ cS) (xx cI cJ cS h0 ca hh ka fk ad ads N4 cr v vs nx sz) [.ref h0, .int r] (xxo cI cJ cS h0 ca hh ka fk ad ads N4 cr v vs nx sz (sp_back v r).2) (some (.int (sp_back v r).1)) := by
  refine xk_wr2 (cc := cX4_back) (maxL := 6) (ret := (some .int)) (by decide) rfl (Nat.le_of_ble_eq_true rfl) (fun p e s m below meth c ls W0v W1v hW1 hx hb hr hlk hml hown hts hl hP hK hN hD hS => ?_)
  replace hl : lv_has ls 6 [(0, .ref h0), (1, .int r)] := hl
  have hiX2 : ∀ w ∈ u_ws RX2 TX2 10, w ∈ wsX4_back := by decide +kernel
  have hiX4 : ∀ w ∈ u_ws RX4 TX4 3, w ∈ wsX4_back := by decide +kernel
  replace hP : va_P D vwCl ([(h0, .inr (3, [.ref (ad 0), .ref hh, .ref ca])), (ca, .inl (cJ, 64, .inr (.inl cr))), (hh, .inr (1, [.ref ka, .int (nI nx), .int (nI sz)])), (ka, .inl (cS, 24, .inr (.inr (.inr (.inr fk)))))] ++ (xst cI cJ ad v ++ xpl cI cJ ads vs N4)) s.heap := hP
  replace hD : va_D _ ([(h0, .inr (3, [.ref (ad 0), .ref hh, .ref ca])), (ca, .inl (cJ, 64, .inr (.inl cr))), (hh, .inr (1, [.ref ka, .int (nI nx), .int (nI sz)])), (ka, .inl (cS, 24, .inr (.inr (.inr (.inr fk)))))] ++ (xst cI cJ ad v ++ xpl cI cJ ads vs N4)) := hD
  refine lv_iload_n hx hb dX4_back_0 rfl (lv_at hl 1 rfl) ?_
  refine xk_callR (va_runS (As := [.int r]) (rest := []) ⟨hx, hb, hml, hown, hts⟩ (k_isRegister l D cI cJ cS r) (va_cwS 1 hts gX4_back_X4_isRegister rfl rfl rfl (by decide +kernel) ⟨Nat.le_of_ble_eq_true rfl, Nat.le_of_ble_eq_true rfl⟩) (xk_preSr hK hN hP [] rfl) rfl rfl hl.1 rfl (lv_room (Nat.le_of_ble_eq_true rfl)) dX4_back_1 ⟨Nat.zero_le _, Nat.zero_le _⟩) ?_
  refine lv_if_ne (tgt := 9) hx hb dX4_back_4 (by decide) (fun c_4 => ?_) (fun c_4 => ?_)
  · skip
    obtain ⟨rk, hrk, er⟩ := xi_of (xb_ne c_4)
    have hxr : xN r = rk := by rw [er]; exact xN_nI (by omega)
    refine lv_aload_n hx hb dX4_back_9 rfl (lv_at hl 0 rfl) ?_
    refine va_get (D := D) (ci := 3) (v := .ref (ad 0)) (C := RX4) (T := TX4) (N := 3) hx hb hts hiX4 hown hK hP 0 rfl rfl 0 (by decide) (hts (.fieldLink RX4 12 "PointerSweep" "now" "LPointerSweep$State;") (by decide +kernel)) (fun _ h9 => h9) rfl dX4_back_10 ?_
    refine va_get (D := D) (ci := 2) (v := .ref (ad 2)) (C := RX2) (T := TX2) (N := 10) hx hb hts hiX2 hown hK hP 4 rfl rfl 1 (by decide) (hts (.fieldLink RX4 43 "PointerSweep$State" "registers" "[J") (by decide +kernel)) (fun _ h9 => h9) rfl dX4_back_13 ?_
    refine lv_iload_n hx hb dX4_back_16 rfl (lv_at hl 1 rfl) ?_
    refine xa_lald hx hb hK hP 6 1 rfl rfl rk er hrk (by decide) dX4_back_17 ?_
    refine lv_lstore_n (lv' := [(2, .long (xw_enc (v.2.1 rk))), (0, .ref h0), (1, .int r)]) hx hb dX4_back_18 rfl hl (by decide) rfl (fun ls hl => ?_)
    refine lv_lload_n hx hb dX4_back_19 rfl (lv_at hl 0 rfl) ?_
    refine xk_callR (va_runS (As := [.long (xw_enc (v.2.1 rk))]) (rest := []) ⟨hx, hb, hml, hown, hts⟩ (k_isPointer l D cI cJ cS (v.2.1 rk) ((x_ok_r hv) rk) ) (va_cwS 1 hts gX4_back_X3_isPointer rfl rfl rfl (by decide +kernel) ⟨Nat.le_of_ble_eq_true rfl, Nat.le_of_ble_eq_true rfl⟩) (xk_preSr hK hN hP [] rfl) rfl rfl hl.1 rfl (lv_room (Nat.le_of_ble_eq_true rfl)) dX4_back_20 ⟨Nat.zero_le _, Nat.zero_le _⟩) ?_
    refine lv_if_ne (tgt := 29) hx hb dX4_back_23 (by decide) (fun c_23 => ?_) (fun c_23 => ?_)
    · skip
      obtain ⟨ew, hf1, hf2, hf3⟩ := xw_ok2_p (hv.2.1 rk) (xb_ne c_23)
      refine lv_lload_n hx hb dX4_back_29 rfl (lv_at hl 0 rfl) ?_
      refine xk_callR (va_runS (As := [.long (xw_enc (v.2.1 rk))]) (rest := []) ⟨hx, hb, hml, hown, hts⟩ (k_from l D cI cJ cS (v.2.1 rk) ((x_ok_r hv) rk) ) (va_cwS 1 hts gX4_back_X3_from rfl rfl rfl (by decide +kernel) ⟨Nat.le_of_ble_eq_true rfl, Nat.le_of_ble_eq_true rfl⟩) (xk_preSr hK hN hP [] rfl) rfl rfl hl.1 rfl (lv_room (Nat.le_of_ble_eq_true rfl)) dX4_back_30 ⟨Nat.zero_le _, Nat.zero_le _⟩) ?_
      refine lv_istore (lv' := [(4, .int (nI (xw_f (v.2.1 rk)))), (2, .long (xw_enc (v.2.1 rk))), (0, .ref h0), (1, .int r)]) hx hb dX4_back_33 hl (by decide) rfl (fun ls hl => ?_)
      refine lv_lload_n hx hb dX4_back_35 rfl (lv_at hl 1 rfl) ?_
      refine xk_callR (va_runS (As := [.long (xw_enc (v.2.1 rk))]) (rest := []) ⟨hx, hb, hml, hown, hts⟩ (k_to l D cI cJ cS (v.2.1 rk) ((x_ok_r hv) rk) ) (va_cwS 1 hts gX4_back_X3_to rfl rfl rfl (by decide +kernel) ⟨Nat.le_of_ble_eq_true rfl, Nat.le_of_ble_eq_true rfl⟩) (xk_preSr hK hN hP [] rfl) rfl rfl hl.1 rfl (lv_room (Nat.le_of_ble_eq_true rfl)) dX4_back_36 ⟨Nat.zero_le _, Nat.zero_le _⟩) ?_
      refine lv_istore (lv' := [(5, .int (nI (xw_t (v.2.1 rk)))), (4, .int (nI (xw_f (v.2.1 rk)))), (2, .long (xw_enc (v.2.1 rk))), (0, .ref h0), (1, .int r)]) hx hb dX4_back_39 hl (by decide) rfl (fun ls hl => ?_)
      refine lv_aload_n hx hb dX4_back_41 rfl (lv_at hl 3 rfl) ?_
      refine va_get (D := D) (ci := 3) (v := .ref (ad 0)) (C := RX4) (T := TX4) (N := 3) hx hb hts hiX4 hown hK hP 0 rfl rfl 0 (by decide) (hts (.fieldLink RX4 12 "PointerSweep" "now" "LPointerSweep$State;") (by decide +kernel)) (fun _ h9 => h9) rfl dX4_back_42 ?_
      refine lv_iload hx hb dX4_back_45 (lv_at hl 1 rfl) ?_
      refine lv_iload hx hb dX4_back_47 (lv_at hl 0 rfl) ?_
      refine xk_callR (va_runV (As := [.int (nI (xw_f (v.2.1 rk))), .int (nI (xw_t (v.2.1 rk)))]) (rest := []) ⟨hx, hb, hml, hown, hts⟩ (k_isRangeF l D cI cJ cS ad v (xw_f (v.2.1 rk)) (by omega) (xw_t (v.2.1 rk)) (by omega)) (cwV 2 hts gX4_back_X2_isRange rfl rfl rfl (by decide +kernel) ⟨Nat.le_of_ble_eq_true rfl, Nat.le_of_ble_eq_true rfl⟩) (xk_preVmr hK hN hP (ci := 2) rfl 0 rfl) rfl rfl hl.1 rfl (lv_room (Nat.le_of_ble_eq_true rfl)) dX4_back_49 ⟨Nat.zero_le _, Nat.zero_le _⟩) ?_
      refine lv_if_ne (tgt := 58) hx hb dX4_back_52 (by decide) (fun c_52 => ?_) (fun c_52 => ?_)
      · skip
        refine lv_aload_n hx hb dX4_back_58 rfl (lv_at hl 3 rfl) ?_
        refine va_get (D := D) (ci := 3) (v := .ref hh) (C := RX4) (T := TX4) (N := 3) hx hb hts hiX4 hown hK hP 0 rfl rfl 1 (by decide) (hts (.fieldLink RX4 19 "PointerSweep" "history" "LPointerSweep$History;") (by decide +kernel)) (fun _ h9 => h9) rfl dX4_back_59 ?_
        refine lv_aload_n hx hb dX4_back_62 rfl (lv_at hl 3 rfl) ?_
        refine va_get (D := D) (ci := 3) (v := .ref (ad 0)) (C := RX4) (T := TX4) (N := 3) hx hb hts hiX4 hown hK hP 0 rfl rfl 0 (by decide) (hts (.fieldLink RX4 12 "PointerSweep" "now" "LPointerSweep$State;") (by decide +kernel)) (fun _ h9 => h9) rfl dX4_back_63 ?_
        refine xk_callS (X := [(h0, .inr (3, [.ref (ad 0), .ref hh, .ref ca])), (ca, .inl (cJ, 64, .inr (.inl cr)))]) (va_runV (As := [.ref (ad 0)]) (rest := []) ⟨hx, hb, hml, hown, hts⟩ (k_keep l D cI cJ cS hh ka fk ad ads v vs nx sz hka hnx hsz N4 h4) (cwV 1 hts gX4_back_X1_keep rfl rfl rfl (by decide +kernel) ⟨Nat.le_of_ble_eq_true rfl, Nat.le_of_ble_eq_true rfl⟩) (xk_preVs (X := [(h0, .inr (3, [.ref (ad 0), .ref hh, .ref ca])), (ca, .inl (cJ, 64, .inr (.inl cr)))]) hK hN hP hD (ci := 1) rfl 0 rfl) rfl rfl hl.1 rfl (lv_room (Nat.le_of_ble_eq_true rfl)) dX4_back_66 ⟨Nat.zero_le _, Nat.zero_le _⟩) hP hD hS (xh_fst _ _ _ _ _ _ _ _ _ _ _ _ _ _ _ _ _) (fun H locs hP hD hS => ?_)
        replace hP : va_P D vwCl ([(h0, .inr (3, [.ref (ad 0), .ref hh, .ref ca])), (ca, .inl (cJ, 64, .inr (.inl cr))), (hh, .inr (1, [.ref ka, .int (nI (x_nx nx)), .int (nI (x_sz sz))])), (ka, .inl (cS, 24, .inr (.inr (.inr (.inr fk)))))] ++ (xst cI cJ ad v ++ xpl cI cJ ads (va_up vs nx v) N4)) H := hP
        replace hD : va_D _ ([(h0, .inr (3, [.ref (ad 0), .ref hh, .ref ca])), (ca, .inl (cJ, 64, .inr (.inl cr))), (hh, .inr (1, [.ref ka, .int (nI (x_nx nx)), .int (nI (x_sz sz))])), (ka, .inl (cS, 24, .inr (.inr (.inr (.inr fk)))))] ++ (xst cI cJ ad v ++ xpl cI cJ ads (va_up vs nx v) N4)) := hD
        refine lv_aload_n hx hb dX4_back_69 rfl (lv_at hl 3 rfl) ?_
        refine va_get (D := D) (ci := 3) (v := .ref (ad 0)) (C := RX4) (T := TX4) (N := 3) hx hb hts hiX4 hown hK hP 0 rfl rfl 0 (by decide) (hts (.fieldLink RX4 12 "PointerSweep" "now" "LPointerSweep$State;") (by decide +kernel)) (fun _ h9 => h9) rfl dX4_back_70 ?_
        refine lv_iload hx hb dX4_back_73 (lv_at hl 1 rfl) ?_
        refine lv_iload hx hb dX4_back_75 (lv_at hl 0 rfl) ?_
        refine xk_callM (va_runV (As := [.int (nI (xw_f (v.2.1 rk))), .int (nI (xw_t (v.2.1 rk)))]) (rest := []) ⟨hx, hb, hml, hown, hts⟩ (k_giveBackF l D cI cJ cS ad v (xw_f (v.2.1 rk)) (xw_t (v.2.1 rk)) (by omega) (by omega) (by omega)) (cwV 2 hts gX4_back_X2_giveBack rfl rfl rfl (by decide +kernel) ⟨Nat.le_of_ble_eq_true rfl, Nat.le_of_ble_eq_true rfl⟩) (xk_preVm hK hN hP hD (ci := 2) rfl 0 rfl) rfl rfl hl.1 rfl (lv_room (Nat.le_of_ble_eq_true rfl)) dX4_back_77 ⟨Nat.zero_le _, Nat.zero_le _⟩) hP hD hS rfl (fun H locs hP hD hS => ?_)
        replace hP : va_P D vwCl ([(h0, .inr (3, [.ref (ad 0), .ref hh, .ref ca])), (ca, .inl (cJ, 64, .inr (.inl cr))), (hh, .inr (1, [.ref ka, .int (nI (x_nx nx)), .int (nI (x_sz sz))])), (ka, .inl (cS, 24, .inr (.inr (.inr (.inr fk)))))] ++ (xst cI cJ ad (v.1, v.2.1, v.2.2.1, (x_sub v.2.2.2.1 (xw_f (v.2.1 rk)) (xw_t (v.2.1 rk))), (x_add v.2.2.2.2.1 (xw_f (v.2.1 rk)) (xw_t (v.2.1 rk))), v.2.2.2.2.2.1, (va_up v.2.2.2.2.2.2.1 (xw_f (v.2.1 rk)) false), v.2.2.2.2.2.2.2.1, v.2.2.2.2.2.2.2.2.1, v.2.2.2.2.2.2.2.2.2) ++ xpl cI cJ ads (va_up vs nx v) N4)) H := hP
        replace hD : va_D _ ([(h0, .inr (3, [.ref (ad 0), .ref hh, .ref ca])), (ca, .inl (cJ, 64, .inr (.inl cr))), (hh, .inr (1, [.ref ka, .int (nI (x_nx nx)), .int (nI (x_sz sz))])), (ka, .inl (cS, 24, .inr (.inr (.inr (.inr fk)))))] ++ (xst cI cJ ad (v.1, v.2.1, v.2.2.1, (x_sub v.2.2.2.1 (xw_f (v.2.1 rk)) (xw_t (v.2.1 rk))), (x_add v.2.2.2.2.1 (xw_f (v.2.1 rk)) (xw_t (v.2.1 rk))), v.2.2.2.2.2.1, (va_up v.2.2.2.2.2.2.1 (xw_f (v.2.1 rk)) false), v.2.2.2.2.2.2.2.1, v.2.2.2.2.2.2.2.2.1, v.2.2.2.2.2.2.2.2.2) ++ xpl cI cJ ads (va_up vs nx v) N4)) := hD
        refine lv_iload hx hb dX4_back_80 (lv_at hl 0 rfl) ?_
        refine lv_iload hx hb dX4_back_82 (lv_at hl 1 rfl) ?_
        refine lv_isub hx hb dX4_back_84 ?_
        have e9 : sp_back v r = (nI (xw_t (v.2.1 rk)) - nI (xw_f (v.2.1 rk)), some (x_bak v (xw_f (v.2.1 rk)) (xw_t (v.2.1 rk)))) := (by unfold sp_back; rw [if_pos (xb_ne c_4), hxr, if_pos (xb_ne c_23), if_pos (xb_ne c_52)])
        exact xk_iretW hx hb hr hlk hP hS (by rw [e9]) (by rw [← hW1, e9]; rfl) dX4_back_85
      · skip
        refine lv_bipush (v := (-2)) hx hb dX4_back_55 (by decide) ?_
        have e9 : sp_back v r = (-2, none) := (by unfold sp_back; rw [if_pos (xb_ne c_4), hxr, if_pos (xb_ne c_23), if_neg (x_bt c_52)])
        exact xk_iretW hx hb hr hlk hP hS (by rw [e9]) (by rw [← hW1, e9]; rfl) dX4_back_57
    · skip
      refine lv_bipush (v := (-11)) hx hb dX4_back_26 (by decide) ?_
      have e9 : sp_back v r = (-11, none) := (by unfold sp_back; rw [if_pos (xb_ne c_4), hxr, if_neg (x_bt c_23)])
      exact xk_iretW hx hb hr hlk hP hS (by rw [e9]) (by rw [← hW1, e9]; rfl) dX4_back_28
  · skip
    refine lv_iconst (v := (-1)) hx hb dX4_back_7 (by decide) ?_
    have e9 : sp_back v r = (-1, none) := if_neg (x_bt c_4)
    exact xk_iretW hx hb hr hlk hP hS (by rw [e9]) (by rw [← hW1, e9]; rfl) dX4_back_8
set_option maxHeartbeats 4000000 in
set_option maxRecDepth 100000 in
theorem x_move (l : Launch) (D : va_G) (cI cJ cS : ClassId) (h0 ca hh ka : Nat) (fk : Nat → Option Nat) (ad : Nat → Nat) (ads : Nat → Nat → Nat) (N4 : Nat) (h4 : N4 = 24) (cr : Nat → Int64) (v : xV) (vs : Nat → xV) (nx sz : Nat) (hka : ∀ i, i < 24 → fk i = some (ads i 0)) (hnx : nx < 24) (hsz : sz ≤ 24) (hv : x_ok v) (r d : Int32) : xk_Wr l yX4_move wsX4_move ({ frames := 4, cells := 0, slots := 0, locals := 123 }) D vwCl (xt cI cJ cS) (xx cI cJ cS h0 ca hh ka fk ad ads N4 cr v vs nx sz) [.ref h0, .int r, .int d] (xxo cI cJ cS h0 ca hh ka fk ad ads N4 cr v vs nx sz (sp_move v r d).2) (some (.int (sp_move v r d).1)) := by
  refine xk_wr2 (cc := cX4_move) (maxL := 6) (ret := (some .int)) (by decide) rfl (Nat.le_of_ble_eq_true rfl) (fun p e s m below meth c ls W0v W1v hW1 hx hb hr hlk hml hown hts hl hP hK hN hD hS => ?_)
  replace hl : lv_has ls 6 [(0, .ref h0), (1, .int r), (2, .int d)] := hl
  have hiX2 : ∀ w ∈ u_ws RX2 TX2 10, w ∈ wsX4_move := by decide +kernel
  have hiX4 : ∀ w ∈ u_ws RX4 TX4 3, w ∈ wsX4_move := by decide +kernel
  replace hP : va_P D vwCl ([(h0, .inr (3, [.ref (ad 0), .ref hh, .ref ca])), (ca, .inl (cJ, 64, .inr (.inl cr))), (hh, .inr (1, [.ref ka, .int (nI nx), .int (nI sz)])), (ka, .inl (cS, 24, .inr (.inr (.inr (.inr fk)))))] ++ (xst cI cJ ad v ++ xpl cI cJ ads vs N4)) s.heap := hP
  replace hD : va_D _ ([(h0, .inr (3, [.ref (ad 0), .ref hh, .ref ca])), (ca, .inl (cJ, 64, .inr (.inl cr))), (hh, .inr (1, [.ref ka, .int (nI nx), .int (nI sz)])), (ka, .inl (cS, 24, .inr (.inr (.inr (.inr fk)))))] ++ (xst cI cJ ad v ++ xpl cI cJ ads vs N4)) := hD
  refine lv_iload_n hx hb dX4_move_0 rfl (lv_at hl 1 rfl) ?_
  refine xk_callR (va_runS (As := [.int r]) (rest := []) ⟨hx, hb, hml, hown, hts⟩ (k_isRegister l D cI cJ cS r) (va_cwS 1 hts gX4_move_X4_isRegister rfl rfl rfl (by decide +kernel) ⟨Nat.le_of_ble_eq_true rfl, Nat.le_of_ble_eq_true rfl⟩) (xk_preSr hK hN hP [] rfl) rfl rfl hl.1 rfl (lv_room (Nat.le_of_ble_eq_true rfl)) dX4_move_1 ⟨Nat.zero_le _, Nat.zero_le _⟩) ?_
  refine lv_if_ne (tgt := 10) hx hb dX4_move_4 (by decide) (fun c_4 => ?_) (fun c_4 => ?_)
  · skip
    obtain ⟨rk, hrk, er⟩ := xi_of (xb_ne c_4)
    have hxr : xN r = rk := by rw [er]; exact xN_nI (by omega)
    refine lv_aload_n hx hb dX4_move_10 rfl (lv_at hl 0 rfl) ?_
    refine va_get (D := D) (ci := 3) (v := .ref (ad 0)) (C := RX4) (T := TX4) (N := 3) hx hb hts hiX4 hown hK hP 0 rfl rfl 0 (by decide) (hts (.fieldLink RX4 12 "PointerSweep" "now" "LPointerSweep$State;") (by decide +kernel)) (fun _ h9 => h9) rfl dX4_move_11 ?_
    refine va_get (D := D) (ci := 2) (v := .ref (ad 2)) (C := RX2) (T := TX2) (N := 10) hx hb hts hiX2 hown hK hP 4 rfl rfl 1 (by decide) (hts (.fieldLink RX4 43 "PointerSweep$State" "registers" "[J") (by decide +kernel)) (fun _ h9 => h9) rfl dX4_move_14 ?_
    refine lv_iload_n hx hb dX4_move_17 rfl (lv_at hl 1 rfl) ?_
    refine xa_lald hx hb hK hP 6 1 rfl rfl rk er hrk (by decide) dX4_move_18 ?_
    refine lv_lstore_n (lv' := [(3, .long (xw_enc (v.2.1 rk))), (0, .ref h0), (1, .int r), (2, .int d)]) hx hb dX4_move_19 rfl hl (by decide) rfl (fun ls hl => ?_)
    refine lv_lload_n hx hb dX4_move_20 rfl (lv_at hl 0 rfl) ?_
    refine xk_callR (va_runS (As := [.long (xw_enc (v.2.1 rk))]) (rest := []) ⟨hx, hb, hml, hown, hts⟩ (k_isPointer l D cI cJ cS (v.2.1 rk) ((x_ok_r hv) rk) ) (va_cwS 1 hts gX4_move_X3_isPointer rfl rfl rfl (by decide +kernel) ⟨Nat.le_of_ble_eq_true rfl, Nat.le_of_ble_eq_true rfl⟩) (xk_preSr hK hN hP [] rfl) rfl rfl hl.1 rfl (lv_room (Nat.le_of_ble_eq_true rfl)) dX4_move_21 ⟨Nat.zero_le _, Nat.zero_le _⟩) ?_
    refine lv_if_ne (tgt := 30) hx hb dX4_move_24 (by decide) (fun c_24 => ?_) (fun c_24 => ?_)
    · skip
      obtain ⟨ew, hf1, hf2, hf3⟩ := xw_ok2_p (hv.2.1 rk) (xb_ne c_24)
      refine lv_aload_n hx hb dX4_move_30 rfl (lv_at hl 1 rfl) ?_
      refine va_get (D := D) (ci := 3) (v := .ref hh) (C := RX4) (T := TX4) (N := 3) hx hb hts hiX4 hown hK hP 0 rfl rfl 1 (by decide) (hts (.fieldLink RX4 19 "PointerSweep" "history" "LPointerSweep$History;") (by decide +kernel)) (fun _ h9 => h9) rfl dX4_move_31 ?_
      refine lv_aload_n hx hb dX4_move_34 rfl (lv_at hl 1 rfl) ?_
      refine va_get (D := D) (ci := 3) (v := .ref (ad 0)) (C := RX4) (T := TX4) (N := 3) hx hb hts hiX4 hown hK hP 0 rfl rfl 0 (by decide) (hts (.fieldLink RX4 12 "PointerSweep" "now" "LPointerSweep$State;") (by decide +kernel)) (fun _ h9 => h9) rfl dX4_move_35 ?_
      refine xk_callS (X := [(h0, .inr (3, [.ref (ad 0), .ref hh, .ref ca])), (ca, .inl (cJ, 64, .inr (.inl cr)))]) (va_runV (As := [.ref (ad 0)]) (rest := []) ⟨hx, hb, hml, hown, hts⟩ (k_keep l D cI cJ cS hh ka fk ad ads v vs nx sz hka hnx hsz N4 h4) (cwV 1 hts gX4_move_X1_keep rfl rfl rfl (by decide +kernel) ⟨Nat.le_of_ble_eq_true rfl, Nat.le_of_ble_eq_true rfl⟩) (xk_preVs (X := [(h0, .inr (3, [.ref (ad 0), .ref hh, .ref ca])), (ca, .inl (cJ, 64, .inr (.inl cr)))]) hK hN hP hD (ci := 1) rfl 0 rfl) rfl rfl hl.1 rfl (lv_room (Nat.le_of_ble_eq_true rfl)) dX4_move_38 ⟨Nat.zero_le _, Nat.zero_le _⟩) hP hD hS (xh_fst _ _ _ _ _ _ _ _ _ _ _ _ _ _ _ _ _) (fun H locs hP hD hS => ?_)
      replace hP : va_P D vwCl ([(h0, .inr (3, [.ref (ad 0), .ref hh, .ref ca])), (ca, .inl (cJ, 64, .inr (.inl cr))), (hh, .inr (1, [.ref ka, .int (nI (x_nx nx)), .int (nI (x_sz sz))])), (ka, .inl (cS, 24, .inr (.inr (.inr (.inr fk)))))] ++ (xst cI cJ ad v ++ xpl cI cJ ads (va_up vs nx v) N4)) H := hP
      replace hD : va_D _ ([(h0, .inr (3, [.ref (ad 0), .ref hh, .ref ca])), (ca, .inl (cJ, 64, .inr (.inl cr))), (hh, .inr (1, [.ref ka, .int (nI (x_nx nx)), .int (nI (x_sz sz))])), (ka, .inl (cS, 24, .inr (.inr (.inr (.inr fk)))))] ++ (xst cI cJ ad v ++ xpl cI cJ ads (va_up vs nx v) N4)) := hD
      refine lv_lload_n hx hb dX4_move_41 rfl (lv_at hl 0 rfl) ?_
      refine xk_callR (va_runS (As := [.long (xw_enc (v.2.1 rk))]) (rest := []) ⟨hx, hb, hml, hown, hts⟩ (k_at l D cI cJ cS (v.2.1 rk) ((x_ok_r hv) rk) ) (va_cwS 1 hts gX4_move_X3_at rfl rfl rfl (by decide +kernel) ⟨Nat.le_of_ble_eq_true rfl, Nat.le_of_ble_eq_true rfl⟩) (xk_preSr hK hN hP [] rfl) rfl rfl hl.1 rfl (lv_room (Nat.le_of_ble_eq_true rfl)) dX4_move_42 ⟨Nat.zero_le _, Nat.zero_le _⟩) ?_
      refine lv_iload_n hx hb dX4_move_45 rfl (lv_at hl 3 rfl) ?_
      refine lv_iadd hx hb dX4_move_46 ?_
      refine lv_istore (lv' := [(5, .int ((v.2.1 rk).1 + d)), (3, .long (xw_enc (v.2.1 rk))), (0, .ref h0), (1, .int r), (2, .int d)]) hx hb dX4_move_47 hl (by decide) rfl (fun ls hl => ?_)
      refine lv_aload_n hx hb dX4_move_49 rfl (lv_at hl 2 rfl) ?_
      refine va_get (D := D) (ci := 3) (v := .ref (ad 0)) (C := RX4) (T := TX4) (N := 3) hx hb hts hiX4 hown hK hP 0 rfl rfl 0 (by decide) (hts (.fieldLink RX4 12 "PointerSweep" "now" "LPointerSweep$State;") (by decide +kernel)) (fun _ h9 => h9) rfl dX4_move_50 ?_
      refine va_get (D := D) (ci := 2) (v := .ref (ad 2)) (C := RX2) (T := TX2) (N := 10) hx hb hts hiX2 hown hK hP 4 rfl rfl 1 (by decide) (hts (.fieldLink RX4 43 "PointerSweep$State" "registers" "[J") (by decide +kernel)) (fun _ h9 => h9) rfl dX4_move_53 ?_
      refine lv_iload_n hx hb dX4_move_56 rfl (lv_at hl 3 rfl) ?_
      refine lv_lload_n hx hb dX4_move_57 rfl (lv_at hl 1 rfl) ?_
      refine xk_callR (va_runS (As := [.long (xw_enc (v.2.1 rk))]) (rest := [.int r, .ref (ad 2)]) ⟨hx, hb, hml, hown, hts⟩ (k_from l D cI cJ cS (v.2.1 rk) ((x_ok_r hv) rk) ) (va_cwS 1 hts gX4_move_X3_from rfl rfl rfl (by decide +kernel) ⟨Nat.le_of_ble_eq_true rfl, Nat.le_of_ble_eq_true rfl⟩) (xk_preSr hK hN hP [] rfl) rfl rfl hl.1 rfl (lv_room (Nat.le_of_ble_eq_true rfl)) dX4_move_58 ⟨Nat.zero_le _, Nat.zero_le _⟩) ?_
      refine lv_lload_n hx hb dX4_move_61 rfl (lv_at hl 1 rfl) ?_
      refine xk_callR (va_runS (As := [.long (xw_enc (v.2.1 rk))]) (rest := [.int (nI (xw_f (v.2.1 rk))), .int r, .ref (ad 2)]) ⟨hx, hb, hml, hown, hts⟩ (k_to l D cI cJ cS (v.2.1 rk) ((x_ok_r hv) rk) ) (va_cwS 1 hts gX4_move_X3_to rfl rfl rfl (by decide +kernel) ⟨Nat.le_of_ble_eq_true rfl, Nat.le_of_ble_eq_true rfl⟩) (xk_preSr hK hN hP [] rfl) rfl rfl hl.1 rfl (lv_room (Nat.le_of_ble_eq_true rfl)) dX4_move_62 ⟨Nat.zero_le _, Nat.zero_le _⟩) ?_
      refine lv_iload hx hb dX4_move_65 (lv_at hl 0 rfl) ?_
      refine lv_lload_n hx hb dX4_move_67 rfl (lv_at hl 1 rfl) ?_
      refine xk_callR (va_runS (As := [.long (xw_enc (v.2.1 rk))]) (rest := [.int ((v.2.1 rk).1 + d), .int (nI (xw_t (v.2.1 rk))), .int (nI (xw_f (v.2.1 rk))), .int r, .ref (ad 2)]) ⟨hx, hb, hml, hown, hts⟩ (k_rights l D cI cJ cS (v.2.1 rk) ((x_ok_r hv) rk) ) (va_cwS 1 hts gX4_move_X3_rights rfl rfl rfl (by decide +kernel) ⟨Nat.le_of_ble_eq_true rfl, Nat.le_of_ble_eq_true rfl⟩) (xk_preSr hK hN hP [] rfl) rfl rfl hl.1 rfl (lv_room (Nat.le_of_ble_eq_true rfl)) dX4_move_68 ⟨Nat.zero_le _, Nat.zero_le _⟩) ?_
      refine xk_callR (va_runS (As := [.int (nI (xw_f (v.2.1 rk))), .int (nI (xw_t (v.2.1 rk))), .int ((v.2.1 rk).1 + d), .int (nI (xw_r (v.2.1 rk)))]) (rest := [.int r, .ref (ad 2)]) ⟨hx, hb, hml, hown, hts⟩ (k_ofPointer l D cI cJ cS (xw_f (v.2.1 rk)) (xw_t (v.2.1 rk)) ((v.2.1 rk).1 + d) (xw_r (v.2.1 rk)) (by omega) (by omega) hf3) (va_cwS 4 hts gX4_move_X3_ofPointer rfl rfl rfl (by decide +kernel) ⟨Nat.le_of_ble_eq_true rfl, Nat.le_of_ble_eq_true rfl⟩) (xk_preSr hK hN hP [] rfl) rfl rfl hl.1 rfl (lv_room (Nat.le_of_ble_eq_true rfl)) dX4_move_71 ⟨Nat.zero_le _, Nat.zero_le _⟩) ?_
      refine xa_lastW (w := (((v.2.1 rk).1 + d), some ((xw_f (v.2.1 rk)), (xw_t (v.2.1 rk)), (xw_r (v.2.1 rk))))) (ws' := [(h0, .inr (3, [.ref (ad 0), .ref hh, .ref ca])), (ca, .inl (cJ, 64, .inr (.inl cr))), (hh, .inr (1, [.ref ka, .int (nI (x_nx nx)), .int (nI (x_sz sz))])), (ka, .inl (cS, 24, .inr (.inr (.inr (.inr fk)))))] ++ (xst cI cJ ad (v.1, (va_up v.2.1 rk (((v.2.1 rk).1 + d), some ((xw_f (v.2.1 rk)), (xw_t (v.2.1 rk)), (xw_r (v.2.1 rk))))), v.2.2.1, v.2.2.2.1, v.2.2.2.2.1, v.2.2.2.2.2.1, v.2.2.2.2.2.2.1, v.2.2.2.2.2.2.2.1, v.2.2.2.2.2.2.2.2.1, v.2.2.2.2.2.2.2.2.2) ++ xpl cI cJ ads (va_up vs nx v) N4)) hx hb hK hP hD hS 6 1 rfl rfl rk er hrk (by decide) dX4_move_74 rfl (fun H locs hP hD hS => ?_)
      refine lv_iload hx hb dX4_move_75 (lv_at hl 0 rfl) ?_
      have e9 : sp_move v r d = ((v.2.1 rk).1 + d, some (x_reg v rk ((v.2.1 rk).1 + d, some (xw_f (v.2.1 rk), xw_t (v.2.1 rk), xw_r (v.2.1 rk))))) := (by unfold sp_move; rw [if_pos (xb_ne c_4), hxr, if_pos (xb_ne c_24)])
      exact xk_iretW hx hb hr hlk hP hS (by rw [e9]) (by rw [← hW1, e9]; rfl) dX4_move_77
    · skip
      refine lv_ldc hx hb hown (hts (.constant RX4 75 (-1000000011)) (by decide +kernel)) dX4_move_27 ?_
      have e9 : sp_move v r d = (-1000000011, none) := (by unfold sp_move; rw [if_pos (xb_ne c_4), hxr, if_neg (x_bt c_24)])
      exact xk_iretW hx hb hr hlk hP hS (by rw [e9]) (by rw [← hW1, e9]; rfl) dX4_move_29
  · skip
    refine lv_ldc hx hb hown (hts (.constant RX4 74 (-1000000001)) (by decide +kernel)) dX4_move_7 ?_
    have e9 : sp_move v r d = (-1000000001, none) := if_neg (x_bt c_4)
    exact xk_iretW hx hb hr hlk hP hS (by rw [e9]) (by rw [← hW1, e9]; rfl) dX4_move_9
set_option maxHeartbeats 4000000 in
set_option maxRecDepth 100000 in
theorem x_narrow (l : Launch) (D : va_G) (cI cJ cS : ClassId) (h0 ca hh ka : Nat) (fk : Nat → Option Nat) (ad : Nat → Nat) (ads : Nat → Nat → Nat) (N4 : Nat) (h4 : N4 = 24) (cr : Nat → Int64) (v : xV) (vs : Nat → xV) (nx sz : Nat) (hka : ∀ i, i < 24 → fk i = some (ads i 0)) (hnx : nx < 24) (hsz : sz ≤ 24) (hv : x_ok v) (r q n k : Int32) : xk_Wr l yX4_narrow wsX4_narrow ({ frames := 4, cells := 0, slots := 0, locals := 123 }) D vwCl (xt cI cJ cS) (xx cI cJ cS h0 ca hh ka fk ad ads N4 cr v vs nx sz) [.ref h0, .int r, .int q, .int n, .int k] (xxo cI cJ cS h0 ca hh ka fk ad ads N4 cr v vs nx sz (sp_narrow v r q n k).2) (some (.int (sp_narrow v r q n k).1)) := by
  refine xk_wr2 (cc := cX4_narrow) (maxL := 8) (ret := (some .int)) (by decide) rfl (Nat.le_of_ble_eq_true rfl) (fun p e s m below meth c ls W0v W1v hW1 hx hb hr hlk hml hown hts hl hP hK hN hD hS => ?_)
  replace hl : lv_has ls 8 [(0, .ref h0), (1, .int r), (2, .int q), (3, .int n), (4, .int k)] := hl
  have hiX2 : ∀ w ∈ u_ws RX2 TX2 10, w ∈ wsX4_narrow := by decide +kernel
  have hiX4 : ∀ w ∈ u_ws RX4 TX4 3, w ∈ wsX4_narrow := by decide +kernel
  replace hP : va_P D vwCl ([(h0, .inr (3, [.ref (ad 0), .ref hh, .ref ca])), (ca, .inl (cJ, 64, .inr (.inl cr))), (hh, .inr (1, [.ref ka, .int (nI nx), .int (nI sz)])), (ka, .inl (cS, 24, .inr (.inr (.inr (.inr fk)))))] ++ (xst cI cJ ad v ++ xpl cI cJ ads vs N4)) s.heap := hP
  replace hD : va_D _ ([(h0, .inr (3, [.ref (ad 0), .ref hh, .ref ca])), (ca, .inl (cJ, 64, .inr (.inl cr))), (hh, .inr (1, [.ref ka, .int (nI nx), .int (nI sz)])), (ka, .inl (cS, 24, .inr (.inr (.inr (.inr fk)))))] ++ (xst cI cJ ad v ++ xpl cI cJ ads vs N4)) := hD
  refine lv_iload_n hx hb dX4_narrow_0 rfl (lv_at hl 1 rfl) ?_
  refine xk_callR (va_runS (As := [.int r]) (rest := []) ⟨hx, hb, hml, hown, hts⟩ (k_isRegister l D cI cJ cS r) (va_cwS 1 hts gX4_narrow_X4_isRegister rfl rfl rfl (by decide +kernel) ⟨Nat.le_of_ble_eq_true rfl, Nat.le_of_ble_eq_true rfl⟩) (xk_preSr hK hN hP [] rfl) rfl rfl hl.1 rfl (lv_room (Nat.le_of_ble_eq_true rfl)) dX4_narrow_1 ⟨Nat.zero_le _, Nat.zero_le _⟩) ?_
  refine lv_if_eq (tgt := 30) hx hb dX4_narrow_4 (by decide) (fun c_4 => ?_) (fun c_4 => ?_)
  · skip
    refine lv_iconst (v := (-1)) hx hb dX4_narrow_30 (by decide) ?_
    have e9 : sp_narrow v r q n k = (-1, none) := if_neg (fun z => x_bt c_4 z.1)
    exact xk_iretW hx hb hr hlk hP hS (by rw [e9]) (by rw [← hW1, e9]; rfl) dX4_narrow_31
  · skip
    refine lv_iload_n hx hb dX4_narrow_7 rfl (lv_at hl 2 rfl) ?_
    refine xk_callR (va_runS (As := [.int q]) (rest := []) ⟨hx, hb, hml, hown, hts⟩ (k_isRegister l D cI cJ cS q) (va_cwS 1 hts gX4_narrow_X4_isRegister rfl rfl rfl (by decide +kernel) ⟨Nat.le_of_ble_eq_true rfl, Nat.le_of_ble_eq_true rfl⟩) (xk_preSr hK hN hP [] rfl) rfl rfl hl.1 rfl (lv_room (Nat.le_of_ble_eq_true rfl)) dX4_narrow_8 ⟨Nat.zero_le _, Nat.zero_le _⟩) ?_
    refine lv_if_eq (tgt := 30) hx hb dX4_narrow_11 (by decide) (fun c_11 => ?_) (fun c_11 => ?_)
    · skip
      refine lv_iconst (v := (-1)) hx hb dX4_narrow_30 (by decide) ?_
      have e9 : sp_narrow v r q n k = (-1, none) := if_neg (fun z => x_bt c_11 z.2.1)
      exact xk_iretW hx hb hr hlk hP hS (by rw [e9]) (by rw [← hW1, e9]; rfl) dX4_narrow_31
    · skip
      refine lv_iload_n hx hb dX4_narrow_14 rfl (lv_at hl 3 rfl) ?_
      refine lv_iconst (v := 1) hx hb dX4_narrow_15 (by decide) ?_
      refine lv_icmp_lt (tgt := 30) hx hb dX4_narrow_16 (by decide) (fun c_16 => ?_) (fun c_16 => ?_)
      · skip
        refine lv_iconst (v := (-1)) hx hb dX4_narrow_30 (by decide) ?_
        have e9 : sp_narrow v r q n k = (-1, none) := if_neg (fun z => z.2.2.1 c_16)
        exact xk_iretW hx hb hr hlk hP hS (by rw [e9]) (by rw [← hW1, e9]; rfl) dX4_narrow_31
      · skip
        refine lv_iload hx hb dX4_narrow_19 (lv_at hl 4 rfl) ?_
        refine lv_if_lt (tgt := 30) hx hb dX4_narrow_21 (by decide) (fun c_21 => ?_) (fun c_21 => ?_)
        · skip
          refine lv_iconst (v := (-1)) hx hb dX4_narrow_30 (by decide) ?_
          have e9 : sp_narrow v r q n k = (-1, none) := if_neg (fun z => z.2.2.2.1 c_21)
          exact xk_iretW hx hb hr hlk hP hS (by rw [e9]) (by rw [← hW1, e9]; rfl) dX4_narrow_31
        · skip
          refine lv_iload hx hb dX4_narrow_24 (lv_at hl 4 rfl) ?_
          refine lv_iconst (v := 3) hx hb dX4_narrow_26 (by decide) ?_
          refine lv_icmp_le (tgt := 32) hx hb dX4_narrow_27 (by decide) (fun c_27 => ?_) (fun c_27 => ?_)
          · skip
            obtain ⟨rk, hrk, er⟩ := xi_of (xb_ne c_4)
            have hxr : xN r = rk := by rw [er]; exact xN_nI (by omega)
            obtain ⟨qk, hqk, eq⟩ := xi_of (xb_ne c_11)
            have hxq : xN q = qk := by rw [eq]; exact xN_nI (by omega)
            refine lv_aload_n hx hb dX4_narrow_32 rfl (lv_at hl 0 rfl) ?_
            refine va_get (D := D) (ci := 3) (v := .ref (ad 0)) (C := RX4) (T := TX4) (N := 3) hx hb hts hiX4 hown hK hP 0 rfl rfl 0 (by decide) (hts (.fieldLink RX4 12 "PointerSweep" "now" "LPointerSweep$State;") (by decide +kernel)) (fun _ h9 => h9) rfl dX4_narrow_33 ?_
            refine va_get (D := D) (ci := 2) (v := .ref (ad 2)) (C := RX2) (T := TX2) (N := 10) hx hb hts hiX2 hown hK hP 4 rfl rfl 1 (by decide) (hts (.fieldLink RX4 43 "PointerSweep$State" "registers" "[J") (by decide +kernel)) (fun _ h9 => h9) rfl dX4_narrow_36 ?_
            refine lv_iload_n hx hb dX4_narrow_39 rfl (lv_at hl 2 rfl) ?_
            refine xa_lald hx hb hK hP 6 1 rfl rfl qk eq hqk (by decide) dX4_narrow_40 ?_
            refine lv_lstore (lv' := [(5, .long (xw_enc (v.2.1 qk))), (0, .ref h0), (1, .int r), (2, .int q), (3, .int n), (4, .int k)]) hx hb dX4_narrow_41 hl (by decide) rfl (fun ls hl => ?_)
            refine lv_lload hx hb dX4_narrow_43 (lv_at hl 0 rfl) ?_
            refine xk_callR (va_runS (As := [.long (xw_enc (v.2.1 qk))]) (rest := []) ⟨hx, hb, hml, hown, hts⟩ (k_isPointer l D cI cJ cS (v.2.1 qk) ((x_ok_r hv) qk) ) (va_cwS 1 hts gX4_narrow_X3_isPointer rfl rfl rfl (by decide +kernel) ⟨Nat.le_of_ble_eq_true rfl, Nat.le_of_ble_eq_true rfl⟩) (xk_preSr hK hN hP [] rfl) rfl rfl hl.1 rfl (lv_room (Nat.le_of_ble_eq_true rfl)) dX4_narrow_45 ⟨Nat.zero_le _, Nat.zero_le _⟩) ?_
            refine lv_if_ne (tgt := 54) hx hb dX4_narrow_48 (by decide) (fun c_48 => ?_) (fun c_48 => ?_)
            · skip
              refine lv_lload hx hb dX4_narrow_54 (lv_at hl 0 rfl) ?_
              refine lv_iconst (v := 0) hx hb dX4_narrow_56 (by decide) ?_
              refine lv_iload_n hx hb dX4_narrow_57 rfl (lv_at hl 4 rfl) ?_
              refine xk_callR (va_runS (As := [.long (xw_enc (v.2.1 qk)), .int 0, .int n]) (rest := []) ⟨hx, hb, hml, hown, hts⟩ (k_covers l D cI cJ cS (v.2.1 qk) ((x_ok_r hv) qk) 0 n) (va_cwS 3 hts gX4_narrow_X3_covers rfl rfl rfl (by decide +kernel) ⟨Nat.le_of_ble_eq_true rfl, Nat.le_of_ble_eq_true rfl⟩) (xk_preSr hK hN hP [] rfl) rfl rfl hl.1 rfl (lv_room (Nat.le_of_ble_eq_true rfl)) dX4_narrow_58 ⟨Nat.zero_le _, Nat.zero_le _⟩) ?_
              refine lv_if_ne (tgt := 67) hx hb dX4_narrow_61 (by decide) (fun c_61 => ?_) (fun c_61 => ?_)
              · skip
                obtain ⟨ew, hf1, hf2, hf3⟩ := xw_ok2_p (hv.2.1 qk) (xb_ne c_48)
                obtain ⟨ak, nk, ea, en, hn1, han, hxn, hxa⟩ := x_cov0 (hv.2.1 qk) (xb_ne c_48) (xb_ne c_61) c_16
                obtain ⟨rr, hrr, err, hxk⟩ := x_and4 hf3 c_21 c_27
                rw [en] at hl
                refine lv_aload_n hx hb dX4_narrow_67 rfl (lv_at hl 1 rfl) ?_
                refine va_get (D := D) (ci := 3) (v := .ref hh) (C := RX4) (T := TX4) (N := 3) hx hb hts hiX4 hown hK hP 0 rfl rfl 1 (by decide) (hts (.fieldLink RX4 19 "PointerSweep" "history" "LPointerSweep$History;") (by decide +kernel)) (fun _ h9 => h9) rfl dX4_narrow_68 ?_
                refine lv_aload_n hx hb dX4_narrow_71 rfl (lv_at hl 1 rfl) ?_
                refine va_get (D := D) (ci := 3) (v := .ref (ad 0)) (C := RX4) (T := TX4) (N := 3) hx hb hts hiX4 hown hK hP 0 rfl rfl 0 (by decide) (hts (.fieldLink RX4 12 "PointerSweep" "now" "LPointerSweep$State;") (by decide +kernel)) (fun _ h9 => h9) rfl dX4_narrow_72 ?_
                refine xk_callS (X := [(h0, .inr (3, [.ref (ad 0), .ref hh, .ref ca])), (ca, .inl (cJ, 64, .inr (.inl cr)))]) (va_runV (As := [.ref (ad 0)]) (rest := []) ⟨hx, hb, hml, hown, hts⟩ (k_keep l D cI cJ cS hh ka fk ad ads v vs nx sz hka hnx hsz N4 h4) (cwV 1 hts gX4_narrow_X1_keep rfl rfl rfl (by decide +kernel) ⟨Nat.le_of_ble_eq_true rfl, Nat.le_of_ble_eq_true rfl⟩) (xk_preVs (X := [(h0, .inr (3, [.ref (ad 0), .ref hh, .ref ca])), (ca, .inl (cJ, 64, .inr (.inl cr)))]) hK hN hP hD (ci := 1) rfl 0 rfl) rfl rfl hl.1 rfl (lv_room (Nat.le_of_ble_eq_true rfl)) dX4_narrow_75 ⟨Nat.zero_le _, Nat.zero_le _⟩) hP hD hS (xh_fst _ _ _ _ _ _ _ _ _ _ _ _ _ _ _ _ _) (fun H locs hP hD hS => ?_)
                replace hP : va_P D vwCl ([(h0, .inr (3, [.ref (ad 0), .ref hh, .ref ca])), (ca, .inl (cJ, 64, .inr (.inl cr))), (hh, .inr (1, [.ref ka, .int (nI (x_nx nx)), .int (nI (x_sz sz))])), (ka, .inl (cS, 24, .inr (.inr (.inr (.inr fk)))))] ++ (xst cI cJ ad v ++ xpl cI cJ ads (va_up vs nx v) N4)) H := hP
                replace hD : va_D _ ([(h0, .inr (3, [.ref (ad 0), .ref hh, .ref ca])), (ca, .inl (cJ, 64, .inr (.inl cr))), (hh, .inr (1, [.ref ka, .int (nI (x_nx nx)), .int (nI (x_sz sz))])), (ka, .inl (cS, 24, .inr (.inr (.inr (.inr fk)))))] ++ (xst cI cJ ad v ++ xpl cI cJ ads (va_up vs nx v) N4)) := hD
                refine lv_lload hx hb dX4_narrow_78 (lv_at hl 0 rfl) ?_
                refine xk_callR (va_runS (As := [.long (xw_enc (v.2.1 qk))]) (rest := []) ⟨hx, hb, hml, hown, hts⟩ (k_at l D cI cJ cS (v.2.1 qk) ((x_ok_r hv) qk) ) (va_cwS 1 hts gX4_narrow_X3_at rfl rfl rfl (by decide +kernel) ⟨Nat.le_of_ble_eq_true rfl, Nat.le_of_ble_eq_true rfl⟩) (xk_preSr hK hN hP [] rfl) rfl rfl hl.1 rfl (lv_room (Nat.le_of_ble_eq_true rfl)) dX4_narrow_80 ⟨Nat.zero_le _, Nat.zero_le _⟩) ?_
                refine lv_topi (fun y ey => ?_)
                obtain rfl : y = nI ak := ey.trans ea
                refine lv_istore (lv' := [(7, .int (nI ak)), (5, .long (xw_enc (v.2.1 qk))), (0, .ref h0), (1, .int r), (2, .int q), (3, .int (nI nk)), (4, .int k)]) hx hb dX4_narrow_83 hl (by decide) rfl (fun ls hl => ?_)
                refine lv_aload_n hx hb dX4_narrow_85 rfl (lv_at hl 2 rfl) ?_
                refine va_get (D := D) (ci := 3) (v := .ref (ad 0)) (C := RX4) (T := TX4) (N := 3) hx hb hts hiX4 hown hK hP 0 rfl rfl 0 (by decide) (hts (.fieldLink RX4 12 "PointerSweep" "now" "LPointerSweep$State;") (by decide +kernel)) (fun _ h9 => h9) rfl dX4_narrow_86 ?_
                refine va_get (D := D) (ci := 2) (v := .ref (ad 2)) (C := RX2) (T := TX2) (N := 10) hx hb hts hiX2 hown hK hP 4 rfl rfl 1 (by decide) (hts (.fieldLink RX4 43 "PointerSweep$State" "registers" "[J") (by decide +kernel)) (fun _ h9 => h9) rfl dX4_narrow_89 ?_
                refine lv_iload_n hx hb dX4_narrow_92 rfl (lv_at hl 3 rfl) ?_
                refine lv_iload hx hb dX4_narrow_93 (lv_at hl 0 rfl) ?_
                refine lv_iload hx hb dX4_narrow_95 (lv_at hl 0 rfl) ?_
                refine lv_iload_n hx hb dX4_narrow_97 rfl (lv_at hl 5 rfl) ?_
                refine lv_iadd hx hb dX4_narrow_98 ?_
                refine lv_topi (fun y ey => ?_)
                obtain rfl : y = nI (ak + nk) := ey.trans (nI_add _ _)
                refine lv_iload hx hb dX4_narrow_99 (lv_at hl 0 rfl) ?_
                refine lv_lload hx hb dX4_narrow_101 (lv_at hl 1 rfl) ?_
                refine xk_callR (va_runS (As := [.long (xw_enc (v.2.1 qk))]) (rest := [.int (nI ak), .int (nI (ak + nk)), .int (nI ak), .int r, .ref (ad 2)]) ⟨hx, hb, hml, hown, hts⟩ (k_rights l D cI cJ cS (v.2.1 qk) ((x_ok_r hv) qk) ) (va_cwS 1 hts gX4_narrow_X3_rights rfl rfl rfl (by decide +kernel) ⟨Nat.le_of_ble_eq_true rfl, Nat.le_of_ble_eq_true rfl⟩) (xk_preSr hK hN hP [] rfl) rfl rfl hl.1 rfl (lv_room (Nat.le_of_ble_eq_true rfl)) dX4_narrow_103 ⟨Nat.zero_le _, Nat.zero_le _⟩) ?_
                refine lv_iload hx hb dX4_narrow_106 (lv_at hl 6 rfl) ?_
                refine lv_iand hx hb dX4_narrow_108 ?_
                refine lv_topi (fun y ey => ?_)
                obtain rfl : y = nI rr := ey.trans err
                refine xk_callR (va_runS (As := [.int (nI ak), .int (nI (ak + nk)), .int (nI ak), .int (nI rr)]) (rest := [.int r, .ref (ad 2)]) ⟨hx, hb, hml, hown, hts⟩ (k_ofPointer l D cI cJ cS ak (ak + nk) (nI ak) rr (by omega) (by omega) hrr) (va_cwS 4 hts gX4_narrow_X3_ofPointer rfl rfl rfl (by decide +kernel) ⟨Nat.le_of_ble_eq_true rfl, Nat.le_of_ble_eq_true rfl⟩) (xk_preSr hK hN hP [] rfl) rfl rfl hl.1 rfl (lv_room (Nat.le_of_ble_eq_true rfl)) dX4_narrow_109 ⟨Nat.zero_le _, Nat.zero_le _⟩) ?_
                refine xa_lastW (w := ((nI ak), some (ak, (ak + nk), rr))) (ws' := [(h0, .inr (3, [.ref (ad 0), .ref hh, .ref ca])), (ca, .inl (cJ, 64, .inr (.inl cr))), (hh, .inr (1, [.ref ka, .int (nI (x_nx nx)), .int (nI (x_sz sz))])), (ka, .inl (cS, 24, .inr (.inr (.inr (.inr fk)))))] ++ (xst cI cJ ad (v.1, (va_up v.2.1 rk ((nI ak), some (ak, (ak + nk), rr))), v.2.2.1, v.2.2.2.1, v.2.2.2.2.1, v.2.2.2.2.2.1, v.2.2.2.2.2.2.1, v.2.2.2.2.2.2.2.1, v.2.2.2.2.2.2.2.2.1, v.2.2.2.2.2.2.2.2.2) ++ xpl cI cJ ads (va_up vs nx v) N4)) hx hb hK hP hD hS 6 1 rfl rfl rk er hrk (by decide) dX4_narrow_112 rfl (fun H locs hP hD hS => ?_)
                refine lv_iload hx hb dX4_narrow_113 (lv_at hl 0 rfl) ?_
                have e9 : sp_narrow v r q n k = (nI ak, some (x_reg v rk (nI ak, some (ak, ak + nk, rr)))) := (by unfold sp_narrow; rw [if_pos ⟨xb_ne c_4, xb_ne c_11, c_16, c_21, c_27⟩, hxq, if_pos (xb_ne c_48), if_pos (xb_ne c_61), hxk, hxn, hxr, hxa, ea])
                exact xk_iretW hx hb hr hlk hP hS (by rw [e9]) (by rw [← hW1, e9]; rfl) dX4_narrow_115
              · skip
                refine lv_bipush (v := (-13)) hx hb dX4_narrow_64 (by decide) ?_
                have e9 : sp_narrow v r q n k = (-13, none) := (by unfold sp_narrow; rw [if_pos ⟨xb_ne c_4, xb_ne c_11, c_16, c_21, c_27⟩, hxq, if_pos (xb_ne c_48), if_neg (x_bt c_61)])
                exact xk_iretW hx hb hr hlk hP hS (by rw [e9]) (by rw [← hW1, e9]; rfl) dX4_narrow_66
            · skip
              refine lv_bipush (v := (-11)) hx hb dX4_narrow_51 (by decide) ?_
              have e9 : sp_narrow v r q n k = (-11, none) := (by unfold sp_narrow; rw [if_pos ⟨xb_ne c_4, xb_ne c_11, c_16, c_21, c_27⟩, hxq, if_neg (x_bt c_48)])
              exact xk_iretW hx hb hr hlk hP hS (by rw [e9]) (by rw [← hW1, e9]; rfl) dX4_narrow_53
          · skip
            refine lv_iconst (v := (-1)) hx hb dX4_narrow_30 (by decide) ?_
            have e9 : sp_narrow v r q n k = (-1, none) := if_neg (fun z => c_27 z.2.2.2.2)
            exact xk_iretW hx hb hr hlk hP hS (by rw [e9]) (by rw [← hW1, e9]; rfl) dX4_narrow_31
end
section
set_option maxHeartbeats 4000000 in
set_option maxRecDepth 100000 in
theorem x_look (l : Launch) (D : va_G) (cI cJ cS : ClassId) (h0 ca hh ka : Nat) (fk : Nat → Option Nat) (ad : Nat → Nat) (ads : Nat → Nat → Nat) (N4 : Nat) (h4 : N4 = 24) (cr : Nat → Int64) (v : xV) (vs : Nat → xV) (nx sz : Nat) (hka : ∀ i, i < 24 → fk i = some (ads i 0)) (hnx : nx < 24) (hsz : sz ≤ 24) (hv : x_ok v) (r q d : Int32) : xk_Wr l yX4_look wsX4_look ({ frames := 4, cells := 0, slots := 0, locals := 123 }) D vwCl (xt cI cJ cS) (xx cI cJ cS h0 ca hh ka fk ad ads N4 cr v vs nx sz) [.ref h0, .int r, .int q, .int d] (xxo cI cJ cS h0 ca hh ka fk ad ads N4 cr v vs nx sz (sp_look v r q d).2) (some (.int (sp_look v r q d).1)) := by
  refine xk_wr2 (cc := cX4_look) (maxL := 9) (ret := (some .int)) (by decide) rfl (Nat.le_of_ble_eq_true rfl) (fun p e s m below meth c ls W0v W1v hW1 hx hb hr hlk hml hown hts hl hP hK hN hD hS => ?_)
  replace hl : lv_has ls 9 [(0, .ref h0), (1, .int r), (2, .int q), (3, .int d)] := hl
  have hiX2 : ∀ w ∈ u_ws RX2 TX2 10, w ∈ wsX4_look := by decide +kernel
  have hiX4 : ∀ w ∈ u_ws RX4 TX4 3, w ∈ wsX4_look := by decide +kernel
  replace hP : va_P D vwCl ([(h0, .inr (3, [.ref (ad 0), .ref hh, .ref ca])), (ca, .inl (cJ, 64, .inr (.inl cr))), (hh, .inr (1, [.ref ka, .int (nI nx), .int (nI sz)])), (ka, .inl (cS, 24, .inr (.inr (.inr (.inr fk)))))] ++ (xst cI cJ ad v ++ xpl cI cJ ads vs N4)) s.heap := hP
  replace hD : va_D _ ([(h0, .inr (3, [.ref (ad 0), .ref hh, .ref ca])), (ca, .inl (cJ, 64, .inr (.inl cr))), (hh, .inr (1, [.ref ka, .int (nI nx), .int (nI sz)])), (ka, .inl (cS, 24, .inr (.inr (.inr (.inr fk)))))] ++ (xst cI cJ ad v ++ xpl cI cJ ads vs N4)) := hD
  refine lv_iload_n hx hb dX4_look_0 rfl (lv_at hl 1 rfl) ?_
  refine xk_callR (va_runS (As := [.int r]) (rest := []) ⟨hx, hb, hml, hown, hts⟩ (k_isRegister l D cI cJ cS r) (va_cwS 1 hts gX4_look_X4_isRegister rfl rfl rfl (by decide +kernel) ⟨Nat.le_of_ble_eq_true rfl, Nat.le_of_ble_eq_true rfl⟩) (xk_preSr hK hN hP [] rfl) rfl rfl hl.1 rfl (lv_room (Nat.le_of_ble_eq_true rfl)) dX4_look_1 ⟨Nat.zero_le _, Nat.zero_le _⟩) ?_
  refine lv_if_eq (tgt := 14) hx hb dX4_look_4 (by decide) (fun c_4 => ?_) (fun c_4 => ?_)
  · skip
    refine lv_iconst (v := (-1)) hx hb dX4_look_14 (by decide) ?_
    have e9 : sp_look v r q d = (-1, none) := if_neg (fun z => x_bt c_4 z.1)
    exact xk_iretW hx hb hr hlk hP hS (by rw [e9]) (by rw [← hW1, e9]; rfl) dX4_look_15
  · skip
    refine lv_iload_n hx hb dX4_look_7 rfl (lv_at hl 2 rfl) ?_
    refine xk_callR (va_runS (As := [.int q]) (rest := []) ⟨hx, hb, hml, hown, hts⟩ (k_isRegister l D cI cJ cS q) (va_cwS 1 hts gX4_look_X4_isRegister rfl rfl rfl (by decide +kernel) ⟨Nat.le_of_ble_eq_true rfl, Nat.le_of_ble_eq_true rfl⟩) (xk_preSr hK hN hP [] rfl) rfl rfl hl.1 rfl (lv_room (Nat.le_of_ble_eq_true rfl)) dX4_look_8 ⟨Nat.zero_le _, Nat.zero_le _⟩) ?_
    refine lv_if_ne (tgt := 16) hx hb dX4_look_11 (by decide) (fun c_11 => ?_) (fun c_11 => ?_)
    · skip
      obtain ⟨rk, hrk, er⟩ := xi_of (xb_ne c_4)
      have hxr : xN r = rk := by rw [er]; exact xN_nI (by omega)
      obtain ⟨qk, hqk, eq⟩ := xi_of (xb_ne c_11)
      have hxq : xN q = qk := by rw [eq]; exact xN_nI (by omega)
      refine lv_aload_n hx hb dX4_look_16 rfl (lv_at hl 0 rfl) ?_
      refine va_get (D := D) (ci := 3) (v := .ref (ad 0)) (C := RX4) (T := TX4) (N := 3) hx hb hts hiX4 hown hK hP 0 rfl rfl 0 (by decide) (hts (.fieldLink RX4 12 "PointerSweep" "now" "LPointerSweep$State;") (by decide +kernel)) (fun _ h9 => h9) rfl dX4_look_17 ?_
      refine va_get (D := D) (ci := 2) (v := .ref (ad 2)) (C := RX2) (T := TX2) (N := 10) hx hb hts hiX2 hown hK hP 4 rfl rfl 1 (by decide) (hts (.fieldLink RX4 43 "PointerSweep$State" "registers" "[J") (by decide +kernel)) (fun _ h9 => h9) rfl dX4_look_20 ?_
      refine lv_iload_n hx hb dX4_look_23 rfl (lv_at hl 2 rfl) ?_
      refine xa_lald hx hb hK hP 6 1 rfl rfl qk eq hqk (by decide) dX4_look_24 ?_
      refine lv_lstore (lv' := [(4, .long (xw_enc (v.2.1 qk))), (0, .ref h0), (1, .int r), (2, .int q), (3, .int d)]) hx hb dX4_look_25 hl (by decide) rfl (fun ls hl => ?_)
      refine lv_lload hx hb dX4_look_27 (lv_at hl 0 rfl) ?_
      refine lv_iconst (v := 1) hx hb dX4_look_29 (by decide) ?_
      refine lv_iload_n hx hb dX4_look_30 rfl (lv_at hl 4 rfl) ?_
      refine lv_iconst (v := 1) hx hb dX4_look_31 (by decide) ?_
      refine xk_callR (va_runS (As := [.long (xw_enc (v.2.1 qk)), .int 1, .int d, .int 1]) (rest := []) ⟨hx, hb, hml, hown, hts⟩ (k_faultOf l D cI cJ cS (v.2.1 qk) ((x_ok_r hv) qk) 1 d 1) (va_cwS 4 hts gX4_look_X4_faultOf rfl rfl rfl (by decide +kernel) ⟨Nat.le_of_ble_eq_true rfl, Nat.le_of_ble_eq_true rfl⟩) (xk_preSr hK hN hP [] rfl) rfl rfl hl.1 rfl (lv_room (Nat.le_of_ble_eq_true rfl)) dX4_look_32 ⟨Nat.zero_le _, Nat.zero_le _⟩) ?_
      refine lv_istore (lv' := [(6, .int (x_fault (v.2.1 qk) 1 d 1)), (4, .long (xw_enc (v.2.1 qk))), (0, .ref h0), (1, .int r), (2, .int q), (3, .int d)]) hx hb dX4_look_35 hl (by decide) rfl (fun ls hl => ?_)
      refine lv_iload hx hb dX4_look_37 (lv_at hl 0 rfl) ?_
      refine lv_if_eq (tgt := 45) hx hb dX4_look_39 (by decide) (fun c_39 => ?_) (fun c_39 => ?_)
      · skip
        obtain ⟨ck, ec, hck1, hxc⟩ := x_fault0 (nk := 1) (hv.2.1 qk) c_39 rfl (by decide)
        have hck : ck < 256 := by omega
        refine lv_aload_n hx hb dX4_look_45 rfl (lv_at hl 2 rfl) ?_
        refine va_get (D := D) (ci := 3) (v := .ref hh) (C := RX4) (T := TX4) (N := 3) hx hb hts hiX4 hown hK hP 0 rfl rfl 1 (by decide) (hts (.fieldLink RX4 19 "PointerSweep" "history" "LPointerSweep$History;") (by decide +kernel)) (fun _ h9 => h9) rfl dX4_look_46 ?_
        refine lv_aload_n hx hb dX4_look_49 rfl (lv_at hl 2 rfl) ?_
        refine va_get (D := D) (ci := 3) (v := .ref (ad 0)) (C := RX4) (T := TX4) (N := 3) hx hb hts hiX4 hown hK hP 0 rfl rfl 0 (by decide) (hts (.fieldLink RX4 12 "PointerSweep" "now" "LPointerSweep$State;") (by decide +kernel)) (fun _ h9 => h9) rfl dX4_look_50 ?_
        refine xk_callS (X := [(h0, .inr (3, [.ref (ad 0), .ref hh, .ref ca])), (ca, .inl (cJ, 64, .inr (.inl cr)))]) (va_runV (As := [.ref (ad 0)]) (rest := []) ⟨hx, hb, hml, hown, hts⟩ (k_keep l D cI cJ cS hh ka fk ad ads v vs nx sz hka hnx hsz N4 h4) (cwV 1 hts gX4_look_X1_keep rfl rfl rfl (by decide +kernel) ⟨Nat.le_of_ble_eq_true rfl, Nat.le_of_ble_eq_true rfl⟩) (xk_preVs (X := [(h0, .inr (3, [.ref (ad 0), .ref hh, .ref ca])), (ca, .inl (cJ, 64, .inr (.inl cr)))]) hK hN hP hD (ci := 1) rfl 0 rfl) rfl rfl hl.1 rfl (lv_room (Nat.le_of_ble_eq_true rfl)) dX4_look_53 ⟨Nat.zero_le _, Nat.zero_le _⟩) hP hD hS (xh_fst _ _ _ _ _ _ _ _ _ _ _ _ _ _ _ _ _) (fun H locs hP hD hS => ?_)
        replace hP : va_P D vwCl ([(h0, .inr (3, [.ref (ad 0), .ref hh, .ref ca])), (ca, .inl (cJ, 64, .inr (.inl cr))), (hh, .inr (1, [.ref ka, .int (nI (x_nx nx)), .int (nI (x_sz sz))])), (ka, .inl (cS, 24, .inr (.inr (.inr (.inr fk)))))] ++ (xst cI cJ ad v ++ xpl cI cJ ads (va_up vs nx v) N4)) H := hP
        replace hD : va_D _ ([(h0, .inr (3, [.ref (ad 0), .ref hh, .ref ca])), (ca, .inl (cJ, 64, .inr (.inl cr))), (hh, .inr (1, [.ref ka, .int (nI (x_nx nx)), .int (nI (x_sz sz))])), (ka, .inl (cS, 24, .inr (.inr (.inr (.inr fk)))))] ++ (xst cI cJ ad v ++ xpl cI cJ ads (va_up vs nx v) N4)) := hD
        refine lv_aload_n hx hb dX4_look_56 rfl (lv_at hl 2 rfl) ?_
        refine va_get (D := D) (ci := 3) (v := .ref (ad 0)) (C := RX4) (T := TX4) (N := 3) hx hb hts hiX4 hown hK hP 0 rfl rfl 0 (by decide) (hts (.fieldLink RX4 12 "PointerSweep" "now" "LPointerSweep$State;") (by decide +kernel)) (fun _ h9 => h9) rfl dX4_look_57 ?_
        refine lv_lload hx hb dX4_look_60 (lv_at hl 1 rfl) ?_
        refine xk_callR (va_runS (As := [.long (xw_enc (v.2.1 qk))]) (rest := [.ref (ad 0)]) ⟨hx, hb, hml, hown, hts⟩ (k_at l D cI cJ cS (v.2.1 qk) ((x_ok_r hv) qk) ) (va_cwS 1 hts gX4_look_X3_at rfl rfl rfl (by decide +kernel) ⟨Nat.le_of_ble_eq_true rfl, Nat.le_of_ble_eq_true rfl⟩) (xk_preSr hK hN hP [] rfl) rfl rfl hl.1 rfl (lv_room (Nat.le_of_ble_eq_true rfl)) dX4_look_62 ⟨Nat.zero_le _, Nat.zero_le _⟩) ?_
        refine lv_iload_n hx hb dX4_look_65 rfl (lv_at hl 5 rfl) ?_
        refine lv_iadd hx hb dX4_look_66 ?_
        refine lv_topi (fun y ey => ?_)
        obtain rfl : y = nI ck := ey.trans ec
        refine xk_callM (va_runV (As := [.int (nI ck)]) (rest := []) ⟨hx, hb, hml, hown, hts⟩ (k_lookUpF l D cI cJ cS ad v (x_ok_m hv) ck hck) (cwV 1 hts gX4_look_X2_lookUp rfl rfl rfl (by decide +kernel) ⟨Nat.le_of_ble_eq_true rfl, Nat.le_of_ble_eq_true rfl⟩) (xk_preVm hK hN hP hD (ci := 2) rfl 0 rfl) rfl rfl hl.1 rfl (lv_room (Nat.le_of_ble_eq_true rfl)) dX4_look_67 ⟨Nat.zero_le _, Nat.zero_le _⟩) hP hD hS rfl (fun H locs hP hD hS => ?_)
        replace hP : va_P D vwCl ([(h0, .inr (3, [.ref (ad 0), .ref hh, .ref ca])), (ca, .inl (cJ, 64, .inr (.inl cr))), (hh, .inr (1, [.ref ka, .int (nI (x_nx nx)), .int (nI (x_sz sz))])), (ka, .inl (cS, 24, .inr (.inr (.inr (.inr fk)))))] ++ (xst cI cJ ad (v.1, v.2.1, (x_tk v.2.2.2.2.2.1 (v.1 ck) v.2.2.1), v.2.2.2.1, v.2.2.2.2.1, v.2.2.2.2.2.1, v.2.2.2.2.2.2.1, v.2.2.2.2.2.2.2.1, v.2.2.2.2.2.2.2.2.1, v.2.2.2.2.2.2.2.2.2) ++ xpl cI cJ ads (va_up vs nx v) N4)) H := hP
        replace hD : va_D _ ([(h0, .inr (3, [.ref (ad 0), .ref hh, .ref ca])), (ca, .inl (cJ, 64, .inr (.inl cr))), (hh, .inr (1, [.ref ka, .int (nI (x_nx nx)), .int (nI (x_sz sz))])), (ka, .inl (cS, 24, .inr (.inr (.inr (.inr fk)))))] ++ (xst cI cJ ad (v.1, v.2.1, (x_tk v.2.2.2.2.2.1 (v.1 ck) v.2.2.1), v.2.2.2.1, v.2.2.2.2.1, v.2.2.2.2.2.1, v.2.2.2.2.2.2.1, v.2.2.2.2.2.2.2.1, v.2.2.2.2.2.2.2.2.1, v.2.2.2.2.2.2.2.2.2) ++ xpl cI cJ ads (va_up vs nx v) N4)) := hD
        refine lv_lstore (lv' := [(7, .long (xw_enc (x_lk v.2.2.2.2.2.1 (v.1 ck)))), (6, .int (x_fault (v.2.1 qk) 1 d 1)), (4, .long (xw_enc (v.2.1 qk))), (0, .ref h0), (1, .int r), (2, .int q), (3, .int d)]) hx hb dX4_look_70 hl (by decide) rfl (fun ls hl => ?_)
        refine lv_aload_n hx hb dX4_look_72 rfl (lv_at hl 3 rfl) ?_
        refine va_get (D := D) (ci := 3) (v := .ref (ad 0)) (C := RX4) (T := TX4) (N := 3) hx hb hts hiX4 hown hK hP 0 rfl rfl 0 (by decide) (hts (.fieldLink RX4 12 "PointerSweep" "now" "LPointerSweep$State;") (by decide +kernel)) (fun _ h9 => h9) rfl dX4_look_73 ?_
        refine va_get (D := D) (ci := 2) (v := .ref (ad 2)) (C := RX2) (T := TX2) (N := 10) hx hb hts hiX2 hown hK hP 4 rfl rfl 1 (by decide) (hts (.fieldLink RX4 43 "PointerSweep$State" "registers" "[J") (by decide +kernel)) (fun _ h9 => h9) rfl dX4_look_76 ?_
        refine lv_iload_n hx hb dX4_look_79 rfl (lv_at hl 4 rfl) ?_
        refine lv_lload hx hb dX4_look_80 (lv_at hl 0 rfl) ?_
        refine xa_lastW (w := (x_lk v.2.2.2.2.2.1 (v.1 ck))) (ws' := [(h0, .inr (3, [.ref (ad 0), .ref hh, .ref ca])), (ca, .inl (cJ, 64, .inr (.inl cr))), (hh, .inr (1, [.ref ka, .int (nI (x_nx nx)), .int (nI (x_sz sz))])), (ka, .inl (cS, 24, .inr (.inr (.inr (.inr fk)))))] ++ (xst cI cJ ad (v.1, (va_up v.2.1 rk (x_lk v.2.2.2.2.2.1 (v.1 ck))), (x_tk v.2.2.2.2.2.1 (v.1 ck) v.2.2.1), v.2.2.2.1, v.2.2.2.2.1, v.2.2.2.2.2.1, v.2.2.2.2.2.2.1, v.2.2.2.2.2.2.2.1, v.2.2.2.2.2.2.2.2.1, v.2.2.2.2.2.2.2.2.2) ++ xpl cI cJ ads (va_up vs nx v) N4)) hx hb hK hP hD hS 6 1 rfl rfl rk er hrk (by decide) dX4_look_82 rfl (fun H locs hP hD hS => ?_)
        refine lv_lload hx hb dX4_look_83 (lv_at hl 0 rfl) ?_
        refine xk_callR (va_runS (As := [.long (xw_enc (x_lk v.2.2.2.2.2.1 (v.1 ck)))]) (rest := []) ⟨hx, hb, hml, hown, hts⟩ (k_isPointer l D cI cJ cS (x_lk v.2.2.2.2.2.1 (v.1 ck)) (x_lk_ok (x_ok_m hv ck)) ) (va_cwS 1 hts gX4_look_X3_isPointer rfl rfl rfl (by decide +kernel) ⟨Nat.le_of_ble_eq_true rfl, Nat.le_of_ble_eq_true rfl⟩) (xk_preSr hK hN hP [] rfl) rfl rfl hl.1 rfl (lv_room (Nat.le_of_ble_eq_true rfl)) dX4_look_85 ⟨Nat.zero_le _, Nat.zero_le _⟩) ?_
        refine xk_callR (va_runS (As := [.int (xb (xw_p (x_lk v.2.2.2.2.2.1 (v.1 ck))))]) (rest := []) ⟨hx, hb, hml, hown, hts⟩ (k_oneIf l D cI cJ cS (xw_p (x_lk v.2.2.2.2.2.1 (v.1 ck)))) (va_cwS 1 hts gX4_look_X4_oneIf rfl rfl rfl (by decide +kernel) ⟨Nat.le_of_ble_eq_true rfl, Nat.le_of_ble_eq_true rfl⟩) (xk_preSr hK hN hP [] rfl) rfl rfl hl.1 rfl (lv_room (Nat.le_of_ble_eq_true rfl)) dX4_look_88 ⟨Nat.zero_le _, Nat.zero_le _⟩) ?_
        have e9 : sp_look v r q d = (xb (xw_p (x_lk v.2.2.2.2.2.1 (v.1 ck))), some (x_lok v rk ck)) := (by unfold sp_look; rw [if_pos ⟨xb_ne c_4, xb_ne c_11⟩, hxq, if_pos c_39, hxr, hxc])
        exact xk_iretW hx hb hr hlk hP hS (by rw [e9]) (by rw [← hW1, e9]; rfl) dX4_look_91
      · skip
        refine lv_iload hx hb dX4_look_42 (lv_at hl 0 rfl) ?_
        have e9 : sp_look v r q d = (x_fault (v.2.1 qk) 1 d 1, none) := (by unfold sp_look; rw [if_pos ⟨xb_ne c_4, xb_ne c_11⟩, hxq, if_neg c_39])
        exact xk_iretW hx hb hr hlk hP hS (by rw [e9]) (by rw [← hW1, e9]; rfl) dX4_look_44
    · skip
      refine lv_iconst (v := (-1)) hx hb dX4_look_14 (by decide) ?_
      have e9 : sp_look v r q d = (-1, none) := if_neg (fun z => x_bt c_11 z.2)
      exact xk_iretW hx hb hr hlk hP hS (by rw [e9]) (by rw [← hW1, e9]; rfl) dX4_look_15
set_option maxHeartbeats 4000000 in
set_option maxRecDepth 100000 in
theorem x_layc (l : Launch) (D : va_G) (cI cJ cS : ClassId) (h0 ca hh ka : Nat) (fk : Nat → Option Nat) (ad : Nat → Nat) (ads : Nat → Nat → Nat) (N4 : Nat) (h4 : N4 = 24) (cr : Nat → Int64) (v : xV) (vs : Nat → xV) (nx sz : Nat) (hka : ∀ i, i < 24 → fk i = some (ads i 0)) (hnx : nx < 24) (hsz : sz ≤ 24) (hv : x_ok v) (q d r : Int32) : xk_Wr l yX4_lay wsX4_lay ({ frames := 4, cells := 0, slots := 0, locals := 123 }) D vwCl (xt cI cJ cS) (xx cI cJ cS h0 ca hh ka fk ad ads N4 cr v vs nx sz) [.ref h0, .int q, .int d, .int r] (xxo cI cJ cS h0 ca hh ka fk ad ads N4 cr v vs nx sz (sp_lay v q d r).2) (some (.int (sp_lay v q d r).1)) := by
  refine xk_wr2 (cc := cX4_lay) (maxL := 8) (ret := (some .int)) (by decide) rfl (Nat.le_of_ble_eq_true rfl) (fun p e s m below meth c ls W0v W1v hW1 hx hb hr hlk hml hown hts hl hP hK hN hD hS => ?_)
  replace hl : lv_has ls 8 [(0, .ref h0), (1, .int q), (2, .int d), (3, .int r)] := hl
  have hiX2 : ∀ w ∈ u_ws RX2 TX2 10, w ∈ wsX4_lay := by decide +kernel
  have hiX4 : ∀ w ∈ u_ws RX4 TX4 3, w ∈ wsX4_lay := by decide +kernel
  replace hP : va_P D vwCl ([(h0, .inr (3, [.ref (ad 0), .ref hh, .ref ca])), (ca, .inl (cJ, 64, .inr (.inl cr))), (hh, .inr (1, [.ref ka, .int (nI nx), .int (nI sz)])), (ka, .inl (cS, 24, .inr (.inr (.inr (.inr fk)))))] ++ (xst cI cJ ad v ++ xpl cI cJ ads vs N4)) s.heap := hP
  replace hD : va_D _ ([(h0, .inr (3, [.ref (ad 0), .ref hh, .ref ca])), (ca, .inl (cJ, 64, .inr (.inl cr))), (hh, .inr (1, [.ref ka, .int (nI nx), .int (nI sz)])), (ka, .inl (cS, 24, .inr (.inr (.inr (.inr fk)))))] ++ (xst cI cJ ad v ++ xpl cI cJ ads vs N4)) := hD
  refine lv_iload_n hx hb dX4_lay_0 rfl (lv_at hl 1 rfl) ?_
  refine xk_callR (va_runS (As := [.int q]) (rest := []) ⟨hx, hb, hml, hown, hts⟩ (k_isRegister l D cI cJ cS q) (va_cwS 1 hts gX4_lay_X4_isRegister rfl rfl rfl (by decide +kernel) ⟨Nat.le_of_ble_eq_true rfl, Nat.le_of_ble_eq_true rfl⟩) (xk_preSr hK hN hP [] rfl) rfl rfl hl.1 rfl (lv_room (Nat.le_of_ble_eq_true rfl)) dX4_lay_1 ⟨Nat.zero_le _, Nat.zero_le _⟩) ?_
  refine lv_if_eq (tgt := 14) hx hb dX4_lay_4 (by decide) (fun c_4 => ?_) (fun c_4 => ?_)
  · skip
    refine lv_iconst (v := (-1)) hx hb dX4_lay_14 (by decide) ?_
    have e9 : sp_lay v q d r = (-1, none) := if_neg (fun z => x_bt c_4 z.1)
    exact xk_iretW hx hb hr hlk hP hS (by rw [e9]) (by rw [← hW1, e9]; rfl) dX4_lay_15
  · skip
    refine lv_iload_n hx hb dX4_lay_7 rfl (lv_at hl 3 rfl) ?_
    refine xk_callR (va_runS (As := [.int r]) (rest := []) ⟨hx, hb, hml, hown, hts⟩ (k_isRegister l D cI cJ cS r) (va_cwS 1 hts gX4_lay_X4_isRegister rfl rfl rfl (by decide +kernel) ⟨Nat.le_of_ble_eq_true rfl, Nat.le_of_ble_eq_true rfl⟩) (xk_preSr hK hN hP [] rfl) rfl rfl hl.1 rfl (lv_room (Nat.le_of_ble_eq_true rfl)) dX4_lay_8 ⟨Nat.zero_le _, Nat.zero_le _⟩) ?_
    refine lv_if_ne (tgt := 16) hx hb dX4_lay_11 (by decide) (fun c_11 => ?_) (fun c_11 => ?_)
    · skip
      obtain ⟨qk, hqk, eq⟩ := xi_of (xb_ne c_4)
      have hxq : xN q = qk := by rw [eq]; exact xN_nI (by omega)
      obtain ⟨rk, hrk, er⟩ := xi_of (xb_ne c_11)
      have hxr : xN r = rk := by rw [er]; exact xN_nI (by omega)
      refine lv_aload_n hx hb dX4_lay_16 rfl (lv_at hl 0 rfl) ?_
      refine va_get (D := D) (ci := 3) (v := .ref (ad 0)) (C := RX4) (T := TX4) (N := 3) hx hb hts hiX4 hown hK hP 0 rfl rfl 0 (by decide) (hts (.fieldLink RX4 12 "PointerSweep" "now" "LPointerSweep$State;") (by decide +kernel)) (fun _ h9 => h9) rfl dX4_lay_17 ?_
      refine va_get (D := D) (ci := 2) (v := .ref (ad 2)) (C := RX2) (T := TX2) (N := 10) hx hb hts hiX2 hown hK hP 4 rfl rfl 1 (by decide) (hts (.fieldLink RX4 43 "PointerSweep$State" "registers" "[J") (by decide +kernel)) (fun _ h9 => h9) rfl dX4_lay_20 ?_
      refine lv_iload_n hx hb dX4_lay_23 rfl (lv_at hl 1 rfl) ?_
      refine xa_lald hx hb hK hP 6 1 rfl rfl qk eq hqk (by decide) dX4_lay_24 ?_
      refine lv_lstore (lv' := [(4, .long (xw_enc (v.2.1 qk))), (0, .ref h0), (1, .int q), (2, .int d), (3, .int r)]) hx hb dX4_lay_25 hl (by decide) rfl (fun ls hl => ?_)
      refine lv_lload hx hb dX4_lay_27 (lv_at hl 0 rfl) ?_
      refine lv_iconst (v := 2) hx hb dX4_lay_29 (by decide) ?_
      refine lv_iload_n hx hb dX4_lay_30 rfl (lv_at hl 3 rfl) ?_
      refine lv_iconst (v := 1) hx hb dX4_lay_31 (by decide) ?_
      refine xk_callR (va_runS (As := [.long (xw_enc (v.2.1 qk)), .int 2, .int d, .int 1]) (rest := []) ⟨hx, hb, hml, hown, hts⟩ (k_faultOf l D cI cJ cS (v.2.1 qk) ((x_ok_r hv) qk) 2 d 1) (va_cwS 4 hts gX4_lay_X4_faultOf rfl rfl rfl (by decide +kernel) ⟨Nat.le_of_ble_eq_true rfl, Nat.le_of_ble_eq_true rfl⟩) (xk_preSr hK hN hP [] rfl) rfl rfl hl.1 rfl (lv_room (Nat.le_of_ble_eq_true rfl)) dX4_lay_32 ⟨Nat.zero_le _, Nat.zero_le _⟩) ?_
      refine lv_istore (lv' := [(6, .int (x_fault (v.2.1 qk) 2 d 1)), (4, .long (xw_enc (v.2.1 qk))), (0, .ref h0), (1, .int q), (2, .int d), (3, .int r)]) hx hb dX4_lay_35 hl (by decide) rfl (fun ls hl => ?_)
      refine lv_iload hx hb dX4_lay_37 (lv_at hl 0 rfl) ?_
      refine lv_if_eq (tgt := 45) hx hb dX4_lay_39 (by decide) (fun c_39 => ?_) (fun c_39 => ?_)
      · skip
        obtain ⟨ck, ec, hck1, hxc⟩ := x_fault0 (nk := 1) (hv.2.1 qk) c_39 rfl (by decide)
        have hck : ck < 256 := by omega
        refine lv_aload_n hx hb dX4_lay_45 rfl (lv_at hl 2 rfl) ?_
        refine va_get (D := D) (ci := 3) (v := .ref hh) (C := RX4) (T := TX4) (N := 3) hx hb hts hiX4 hown hK hP 0 rfl rfl 1 (by decide) (hts (.fieldLink RX4 19 "PointerSweep" "history" "LPointerSweep$History;") (by decide +kernel)) (fun _ h9 => h9) rfl dX4_lay_46 ?_
        refine lv_aload_n hx hb dX4_lay_49 rfl (lv_at hl 2 rfl) ?_
        refine va_get (D := D) (ci := 3) (v := .ref (ad 0)) (C := RX4) (T := TX4) (N := 3) hx hb hts hiX4 hown hK hP 0 rfl rfl 0 (by decide) (hts (.fieldLink RX4 12 "PointerSweep" "now" "LPointerSweep$State;") (by decide +kernel)) (fun _ h9 => h9) rfl dX4_lay_50 ?_
        refine xk_callS (X := [(h0, .inr (3, [.ref (ad 0), .ref hh, .ref ca])), (ca, .inl (cJ, 64, .inr (.inl cr)))]) (va_runV (As := [.ref (ad 0)]) (rest := []) ⟨hx, hb, hml, hown, hts⟩ (k_keep l D cI cJ cS hh ka fk ad ads v vs nx sz hka hnx hsz N4 h4) (cwV 1 hts gX4_lay_X1_keep rfl rfl rfl (by decide +kernel) ⟨Nat.le_of_ble_eq_true rfl, Nat.le_of_ble_eq_true rfl⟩) (xk_preVs (X := [(h0, .inr (3, [.ref (ad 0), .ref hh, .ref ca])), (ca, .inl (cJ, 64, .inr (.inl cr)))]) hK hN hP hD (ci := 1) rfl 0 rfl) rfl rfl hl.1 rfl (lv_room (Nat.le_of_ble_eq_true rfl)) dX4_lay_53 ⟨Nat.zero_le _, Nat.zero_le _⟩) hP hD hS (xh_fst _ _ _ _ _ _ _ _ _ _ _ _ _ _ _ _ _) (fun H locs hP hD hS => ?_)
        replace hP : va_P D vwCl ([(h0, .inr (3, [.ref (ad 0), .ref hh, .ref ca])), (ca, .inl (cJ, 64, .inr (.inl cr))), (hh, .inr (1, [.ref ka, .int (nI (x_nx nx)), .int (nI (x_sz sz))])), (ka, .inl (cS, 24, .inr (.inr (.inr (.inr fk)))))] ++ (xst cI cJ ad v ++ xpl cI cJ ads (va_up vs nx v) N4)) H := hP
        replace hD : va_D _ ([(h0, .inr (3, [.ref (ad 0), .ref hh, .ref ca])), (ca, .inl (cJ, 64, .inr (.inl cr))), (hh, .inr (1, [.ref ka, .int (nI (x_nx nx)), .int (nI (x_sz sz))])), (ka, .inl (cS, 24, .inr (.inr (.inr (.inr fk)))))] ++ (xst cI cJ ad v ++ xpl cI cJ ads (va_up vs nx v) N4)) := hD
        refine lv_lload hx hb dX4_lay_56 (lv_at hl 1 rfl) ?_
        refine xk_callR (va_runS (As := [.long (xw_enc (v.2.1 qk))]) (rest := []) ⟨hx, hb, hml, hown, hts⟩ (k_at l D cI cJ cS (v.2.1 qk) ((x_ok_r hv) qk) ) (va_cwS 1 hts gX4_lay_X3_at rfl rfl rfl (by decide +kernel) ⟨Nat.le_of_ble_eq_true rfl, Nat.le_of_ble_eq_true rfl⟩) (xk_preSr hK hN hP [] rfl) rfl rfl hl.1 rfl (lv_room (Nat.le_of_ble_eq_true rfl)) dX4_lay_58 ⟨Nat.zero_le _, Nat.zero_le _⟩) ?_
        refine lv_iload_n hx hb dX4_lay_61 rfl (lv_at hl 4 rfl) ?_
        refine lv_iadd hx hb dX4_lay_62 ?_
        refine lv_topi (fun y ey => ?_)
        obtain rfl : y = nI ck := ey.trans ec
        refine lv_istore (lv' := [(7, .int (nI ck)), (6, .int (x_fault (v.2.1 qk) 2 d 1)), (4, .long (xw_enc (v.2.1 qk))), (0, .ref h0), (1, .int q), (2, .int d), (3, .int r)]) hx hb dX4_lay_63 hl (by decide) rfl (fun ls hl => ?_)
        refine lv_aload_n hx hb dX4_lay_65 rfl (lv_at hl 3 rfl) ?_
        refine va_get (D := D) (ci := 3) (v := .ref (ad 0)) (C := RX4) (T := TX4) (N := 3) hx hb hts hiX4 hown hK hP 0 rfl rfl 0 (by decide) (hts (.fieldLink RX4 12 "PointerSweep" "now" "LPointerSweep$State;") (by decide +kernel)) (fun _ h9 => h9) rfl dX4_lay_66 ?_
        refine lv_iload hx hb dX4_lay_69 (lv_at hl 0 rfl) ?_
        refine lv_aload_n hx hb dX4_lay_71 rfl (lv_at hl 3 rfl) ?_
        refine va_get (D := D) (ci := 3) (v := .ref (ad 0)) (C := RX4) (T := TX4) (N := 3) hx hb hts hiX4 hown hK hP 0 rfl rfl 0 (by decide) (hts (.fieldLink RX4 12 "PointerSweep" "now" "LPointerSweep$State;") (by decide +kernel)) (fun _ h9 => h9) rfl dX4_lay_72 ?_
        refine va_get (D := D) (ci := 2) (v := .ref (ad 2)) (C := RX2) (T := TX2) (N := 10) hx hb hts hiX2 hown hK hP 4 rfl rfl 1 (by decide) (hts (.fieldLink RX4 43 "PointerSweep$State" "registers" "[J") (by decide +kernel)) (fun _ h9 => h9) rfl dX4_lay_75 ?_
        refine lv_iload_n hx hb dX4_lay_78 rfl (lv_at hl 6 rfl) ?_
        refine xa_lald hx hb hK hP 6 1 rfl rfl rk er hrk (by decide) dX4_lay_79 ?_
        refine xk_callM (va_runV (As := [.int (nI ck), .long (xw_enc (v.2.1 rk))]) (rest := []) ⟨hx, hb, hml, hown, hts⟩ (k_layDownF l D cI cJ cS ad v hv.2.2 ck hck (v.2.1 rk) ((x_ok_r hv) rk)) (cwV 2 hts gX4_lay_X2_layDown rfl rfl rfl (by decide +kernel) ⟨Nat.le_of_ble_eq_true rfl, Nat.le_of_ble_eq_true rfl⟩) (xk_preVm hK hN hP hD (ci := 2) rfl 0 rfl) rfl rfl hl.1 rfl (lv_room (Nat.le_of_ble_eq_true rfl)) dX4_lay_80 ⟨Nat.zero_le _, Nat.zero_le _⟩) hP hD hS rfl (fun H locs hP hD hS => ?_)
        replace hP : va_P D vwCl ([(h0, .inr (3, [.ref (ad 0), .ref hh, .ref ca])), (ca, .inl (cJ, 64, .inr (.inl cr))), (hh, .inr (1, [.ref ka, .int (nI (x_nx nx)), .int (nI (x_sz sz))])), (ka, .inl (cS, 24, .inr (.inr (.inr (.inr fk)))))] ++ (xst cI cJ ad ((va_up v.1 ck (v.2.1 rk)), v.2.1, v.2.2.1, v.2.2.2.1, v.2.2.2.2.1, v.2.2.2.2.2.1, v.2.2.2.2.2.2.1, v.2.2.2.2.2.2.2.1, v.2.2.2.2.2.2.2.2.1, (x_dk v.2.2.2.2.2.2.2.2.1 (v.2.1 rk) ck v.2.2.2.2.2.2.2.2.2)) ++ xpl cI cJ ads (va_up vs nx v) N4)) H := hP
        replace hD : va_D _ ([(h0, .inr (3, [.ref (ad 0), .ref hh, .ref ca])), (ca, .inl (cJ, 64, .inr (.inl cr))), (hh, .inr (1, [.ref ka, .int (nI (x_nx nx)), .int (nI (x_sz sz))])), (ka, .inl (cS, 24, .inr (.inr (.inr (.inr fk)))))] ++ (xst cI cJ ad ((va_up v.1 ck (v.2.1 rk)), v.2.1, v.2.2.1, v.2.2.2.1, v.2.2.2.2.1, v.2.2.2.2.2.1, v.2.2.2.2.2.2.1, v.2.2.2.2.2.2.2.1, v.2.2.2.2.2.2.2.2.1, (x_dk v.2.2.2.2.2.2.2.2.1 (v.2.1 rk) ck v.2.2.2.2.2.2.2.2.2)) ++ xpl cI cJ ads (va_up vs nx v) N4)) := hD
        refine lv_iload hx hb dX4_lay_83 (lv_at hl 0 rfl) ?_
        have e9 : sp_lay v q d r = (nI ck, some (x_lay v ck (v.2.1 rk))) := (by unfold sp_lay; rw [if_pos ⟨xb_ne c_4, xb_ne c_11⟩, hxq, if_pos c_39, hxc, ec, hxr])
        exact xk_iretW hx hb hr hlk hP hS (by rw [e9]) (by rw [← hW1, e9]; rfl) dX4_lay_85
      · skip
        refine lv_iload hx hb dX4_lay_42 (lv_at hl 0 rfl) ?_
        have e9 : sp_lay v q d r = (x_fault (v.2.1 qk) 2 d 1, none) := (by unfold sp_lay; rw [if_pos ⟨xb_ne c_4, xb_ne c_11⟩, hxq, if_neg c_39])
        exact xk_iretW hx hb hr hlk hP hS (by rw [e9]) (by rw [← hW1, e9]; rfl) dX4_lay_44
    · skip
      refine lv_iconst (v := (-1)) hx hb dX4_lay_14 (by decide) ?_
      have e9 : sp_lay v q d r = (-1, none) := if_neg (fun z => x_bt c_11 z.2)
      exact xk_iretW hx hb hr hlk hP hS (by rw [e9]) (by rw [← hW1, e9]; rfl) dX4_lay_15
end
section
section XQ5
theorem xk_preVa {D : va_G} {cl : List vw_C} {tys : List (ClassId × FieldType)} {s : State} {H : Heap} {As : List Value} {b : Addr} {W0 : va_W} {ci : Nat} {q : vw_C} {fs : List Value} (hK : va_K D cl tys s) (hN : xn s) (hP : va_P D cl W0 H) (hc : cl[ci]? = some q) (q0 : Nat) (he : W0[q0]? = some (b, .inr (ci, fs))) : PreV s H q.1 b (va_Pc (.ref b :: As) (xk_Br D cl tys W0)) As := ⟨xk_blr, va_recv hK hP hc he, fun U hU hW => ⟨rfl, by rw [hU]; exact hP, va_K.moved hW.alike hK, hN.warm hW⟩⟩
theorem x_c5 {x : Int32} (h1 : ¬ x < 5) (h2 : ¬ 12 ≤ x) : ∃ k, k < 7 ∧ x - 5 = nI k ∧ xN (x - 5) = k := by
  rw [Int32.lt_iff_toInt_lt] at h1
  rw [Int32.le_iff_toInt_le] at h2
  have e5 : (5 : Int32).toInt = 5 := rfl
  have e12 : (12 : Int32).toInt = 12 := rfl
  have e : (x - 5).toInt = x.toInt - 5 := by
    rw [Int32.toInt_sub, e5, Int.bmod_eq_of_le (by omega) (by omega)]
  refine ⟨(x - 5).toInt.toNat, by omega, ?_, rfl⟩
  apply Int32.toInt_inj.mp
  rw [nI_toInt (by omega), e]
  omega
/-- block's own row, behind i words -/
def x_crr (X : Nat → Bool) (f : Nat → xw) (b : Nat) (cr : Nat → Int64) (i : Nat) : Nat → Int64 := fun j => if j < i then xw_enc (x_lk X (f (b + j))) else cr j
theorem x_crr_0 (X : Nat → Bool) (f : Nat → xw) (b : Nat) (cr : Nat → Int64) : x_crr X f b cr 0 = cr := by
  funext j
  simp [x_crr]
theorem x_crr_s (X : Nat → Bool) (f : Nat → xw) (b : Nat) (cr : Nat → Int64) (i : Nat) : vp_updL (x_crr X f b cr i) i (xw_enc (x_lk X (f (b + i)))) = x_crr X f b cr (i + 1) := by
  funext j
  by_cases h : j = i
  · subst h; simp [vp_updL, x_crr]
  · by_cases h2 : j < i
    · simp [vp_updL, x_crr, h, h2, show j < i + 1 by omega]
    · simp [vp_updL, x_crr, h, h2, show ¬ j < i + 1 by omega]
theorem x_crr_at {X : Nat → Bool} {f : Nat → xw} {b : Nat} {cr : Nat → Int64} {i n : Nat} (h : i < n) : x_crr X f b cr n i = xw_enc (x_lk X (f (b + i))) := by simp [x_crr, h]
theorem x_mov_0 (X : Nat → Bool) (f : Nat → xw) (a b : Nat) : x_mov X f a b 0 = f := by
  funext k
  simp only [x_mov]
  rw [if_neg (by omega)]
theorem x_mov_s (X : Nat → Bool) (f : Nat → xw) (a b i : Nat) : va_up (x_mov X f a b i) (a + i) (x_lk X (f (b + i))) = x_mov X f a b (i + 1) := by
  funext k
  by_cases h : k = a + i
  · subst h
    simp only [va_up, x_mov, if_true]
    rw [if_pos (by omega), show a + i - a = i by omega]
  · simp only [va_up, x_mov, h, if_false]
    by_cases h2 : a ≤ k ∧ k < a + i
    · rw [if_pos h2, if_pos (by omega)]
    · rw [if_neg h2, if_neg (by omega)]
theorem xx_fst (cI cJ cS : ClassId) (h0 ca hh ka : Nat) (fk : Nat → Option Nat) (ad : Nat → Nat) (ads : Nat → Nat → Nat) (N4 : Nat) (cr cr2 : Nat → Int64) (v v2 : xV) (vs vs2 : Nat → xV) (nx sz nx2 sz2 : Nat) : (xx cI cJ cS h0 ca hh ka fk ad ads N4 cr v vs nx sz).map (fun x => x.1) = (xx cI cJ cS h0 ca hh ka fk ad ads N4 cr2 v2 vs2 nx2 sz2).map (fun x => x.1) := by
  unfold xx
  rw [List.map_append, List.map_append, List.map_append, List.map_append, xpl_fst cI cJ ads vs vs2 N4, xst_fst cI cJ ad v v2]
  rfl
end XQ5
end
section
set_option maxHeartbeats 4000000 in
set_option maxRecDepth 100000 in
theorem k_toldOf (l : Launch) (D : va_G) (cI cJ cS : ClassId) (h0 ca hh ka : Nat) (fk : Nat → Option Nat) (ad : Nat → Nat) (ads : Nat → Nat → Nat) (N4 : Nat) (h4 : N4 = 24) (cr : Nat → Int64) (v : xV) (vs : Nat → xV) (nx sz : Nat) (hka : ∀ i, i < 24 → fk i = some (ads i 0)) (hnx : nx < 24) (hsz : sz ≤ 24) (hv : x_ok v) (w : xw) (hw : xw_ok w) (use what : Int32) : xk_Rd l yX4_toldOf wsX4_toldOf ({ frames := 3, cells := 0, slots := 0, locals := 68 }) D vwCl (xt cI cJ cS) (xx cI cJ cS h0 ca hh ka fk ad ads N4 cr v vs nx sz) [.ref h0, .long (xw_enc w), .int use, .int what] (some (.int (x_told v.2.2.2.2.2.1 w use what))) := by
  refine xk_rd (cc := cX4_toldOf) (maxL := 5) (ret := (some .int)) (by decide) rfl (Nat.le_of_ble_eq_true rfl) (fun p e s m below meth c ls hx hb hr hlk hml hown hts hl hP hK hN => ?_)
  replace hl : lv_has ls 5 [(0, .ref h0), (1, .long (xw_enc w)), (3, .int use), (4, .int what)] := hl
  have hiX4 : ∀ w ∈ u_ws RX4 TX4 3, w ∈ wsX4_toldOf := by decide +kernel
  replace hP : va_P D vwCl ([(h0, .inr (3, [.ref (ad 0), .ref hh, .ref ca])), (ca, .inl (cJ, 64, .inr (.inl cr))), (hh, .inr (1, [.ref ka, .int (nI nx), .int (nI sz)])), (ka, .inl (cS, 24, .inr (.inr (.inr (.inr fk)))))] ++ (xst cI cJ ad v ++ xpl cI cJ ads vs N4)) s.heap := hP
  refine lv_iload hx hb dX4_toldOf_0 (lv_at hl 3 rfl) ?_
  by_cases c_2_0 : what = 0
  · refine lv_tableIn (off := 42) (tgt := 44) hx hb dX4_toldOf_2 (by rw [c_2_0]; decide) (by rw [c_2_0]; decide) (by rw [c_2_0]; rfl) (by decide) ?_
    refine lv_lload_n hx hb dX4_toldOf_44 rfl (lv_at hl 1 rfl) ?_
    refine xk_callR (va_runS (As := [.long (xw_enc w)]) (rest := []) ⟨hx, hb, hml, hown, hts⟩ (k_isPointer l D cI cJ cS w hw ) (va_cwS 1 hts gX4_toldOf_X3_isPointer rfl rfl rfl (by decide +kernel) ⟨Nat.le_of_ble_eq_true rfl, Nat.le_of_ble_eq_true rfl⟩) (xk_preSr hK hN hP [] rfl) rfl rfl hl.1 rfl (lv_room (Nat.le_of_ble_eq_true rfl)) dX4_toldOf_45 ⟨Nat.zero_le _, Nat.zero_le _⟩) ?_
    refine xk_callR (va_runS (As := [.int (xb (xw_p w))]) (rest := []) ⟨hx, hb, hml, hown, hts⟩ (k_oneIf l D cI cJ cS (xw_p w)) (va_cwS 1 hts gX4_toldOf_X4_oneIf rfl rfl rfl (by decide +kernel) ⟨Nat.le_of_ble_eq_true rfl, Nat.le_of_ble_eq_true rfl⟩) (xk_preSr hK hN hP [] rfl) rfl rfl hl.1 rfl (lv_room (Nat.le_of_ble_eq_true rfl)) dX4_toldOf_48 ⟨Nat.zero_le _, Nat.zero_le _⟩) ?_
    exact xk_iretR hx hb hr hlk (by unfold x_told; rw [if_pos c_2_0]) dX4_toldOf_51
  by_cases c_2_1 : what = 1
  · refine lv_tableIn (off := 50) (tgt := 52) hx hb dX4_toldOf_2 (by rw [c_2_1]; decide) (by rw [c_2_1]; decide) (by rw [c_2_1]; rfl) (by decide) ?_
    refine lv_lload_n hx hb dX4_toldOf_52 rfl (lv_at hl 1 rfl) ?_
    refine xk_callR (va_runS (As := [.long (xw_enc w)]) (rest := []) ⟨hx, hb, hml, hown, hts⟩ (k_at l D cI cJ cS w hw ) (va_cwS 1 hts gX4_toldOf_X3_at rfl rfl rfl (by decide +kernel) ⟨Nat.le_of_ble_eq_true rfl, Nat.le_of_ble_eq_true rfl⟩) (xk_preSr hK hN hP [] rfl) rfl rfl hl.1 rfl (lv_room (Nat.le_of_ble_eq_true rfl)) dX4_toldOf_53 ⟨Nat.zero_le _, Nat.zero_le _⟩) ?_
    exact xk_iretR hx hb hr hlk (by unfold x_told; rw [if_neg c_2_0, if_pos c_2_1]) dX4_toldOf_56
  by_cases c_2_2 : what = 2
  · refine lv_tableIn (off := 55) (tgt := 57) hx hb dX4_toldOf_2 (by rw [c_2_2]; decide) (by rw [c_2_2]; decide) (by rw [c_2_2]; rfl) (by decide) ?_
    refine lv_lload_n hx hb dX4_toldOf_57 rfl (lv_at hl 1 rfl) ?_
    refine xk_callR (va_runS (As := [.long (xw_enc w)]) (rest := []) ⟨hx, hb, hml, hown, hts⟩ (k_from l D cI cJ cS w hw ) (va_cwS 1 hts gX4_toldOf_X3_from rfl rfl rfl (by decide +kernel) ⟨Nat.le_of_ble_eq_true rfl, Nat.le_of_ble_eq_true rfl⟩) (xk_preSr hK hN hP [] rfl) rfl rfl hl.1 rfl (lv_room (Nat.le_of_ble_eq_true rfl)) dX4_toldOf_58 ⟨Nat.zero_le _, Nat.zero_le _⟩) ?_
    exact xk_iretR hx hb hr hlk (by unfold x_told; rw [if_neg c_2_0, if_neg c_2_1, if_pos c_2_2]) dX4_toldOf_61
  by_cases c_2_3 : what = 3
  · refine lv_tableIn (off := 60) (tgt := 62) hx hb dX4_toldOf_2 (by rw [c_2_3]; decide) (by rw [c_2_3]; decide) (by rw [c_2_3]; rfl) (by decide) ?_
    refine lv_lload_n hx hb dX4_toldOf_62 rfl (lv_at hl 1 rfl) ?_
    refine xk_callR (va_runS (As := [.long (xw_enc w)]) (rest := []) ⟨hx, hb, hml, hown, hts⟩ (k_to l D cI cJ cS w hw ) (va_cwS 1 hts gX4_toldOf_X3_to rfl rfl rfl (by decide +kernel) ⟨Nat.le_of_ble_eq_true rfl, Nat.le_of_ble_eq_true rfl⟩) (xk_preSr hK hN hP [] rfl) rfl rfl hl.1 rfl (lv_room (Nat.le_of_ble_eq_true rfl)) dX4_toldOf_63 ⟨Nat.zero_le _, Nat.zero_le _⟩) ?_
    exact xk_iretR hx hb hr hlk (by unfold x_told; rw [if_neg c_2_0, if_neg c_2_1, if_neg c_2_2, if_pos c_2_3]) dX4_toldOf_66
  by_cases c_2_4 : what = 4
  · refine lv_tableIn (off := 65) (tgt := 67) hx hb dX4_toldOf_2 (by rw [c_2_4]; decide) (by rw [c_2_4]; decide) (by rw [c_2_4]; rfl) (by decide) ?_
    refine lv_lload_n hx hb dX4_toldOf_67 rfl (lv_at hl 1 rfl) ?_
    refine xk_callR (va_runS (As := [.long (xw_enc w)]) (rest := []) ⟨hx, hb, hml, hown, hts⟩ (k_rights l D cI cJ cS w hw ) (va_cwS 1 hts gX4_toldOf_X3_rights rfl rfl rfl (by decide +kernel) ⟨Nat.le_of_ble_eq_true rfl, Nat.le_of_ble_eq_true rfl⟩) (xk_preSr hK hN hP [] rfl) rfl rfl hl.1 rfl (lv_room (Nat.le_of_ble_eq_true rfl)) dX4_toldOf_68 ⟨Nat.zero_le _, Nat.zero_le _⟩) ?_
    exact xk_iretR hx hb hr hlk (by unfold x_told; rw [if_neg c_2_0, if_neg c_2_1, if_neg c_2_2, if_neg c_2_3, if_pos c_2_4]) dX4_toldOf_71
  by_cases c_2_5 : what = 5
  · refine lv_tableIn (off := 70) (tgt := 72) hx hb dX4_toldOf_2 (by rw [c_2_5]; decide) (by rw [c_2_5]; decide) (by rw [c_2_5]; rfl) (by decide) ?_
    refine lv_iload_n hx hb dX4_toldOf_72 rfl (lv_at hl 2 rfl) ?_
    exact xk_iretR hx hb hr hlk (by unfold x_told; rw [if_neg c_2_0, if_neg c_2_1, if_neg c_2_2, if_neg c_2_3, if_neg c_2_4, if_pos c_2_5]) dX4_toldOf_73
  by_cases c_2_6 : what = 6
  · refine lv_tableIn (off := 72) (tgt := 74) hx hb dX4_toldOf_2 (by rw [c_2_6]; decide) (by rw [c_2_6]; decide) (by rw [c_2_6]; rfl) (by decide) ?_
    refine lv_aload_n hx hb dX4_toldOf_74 rfl (lv_at hl 0 rfl) ?_
    refine va_get (D := D) (ci := 3) (v := .ref (ad 0)) (C := RX4) (T := TX4) (N := 3) hx hb hts hiX4 hown hK hP 0 rfl rfl 0 (by decide) (hts (.fieldLink RX4 12 "PointerSweep" "now" "LPointerSweep$State;") (by decide +kernel)) (fun _ h9 => h9) rfl dX4_toldOf_75 ?_
    refine lv_lload_n hx hb dX4_toldOf_78 rfl (lv_at hl 1 rfl) ?_
    refine xk_callR (va_runV (As := [.long (xw_enc w)]) (rest := []) ⟨hx, hb, hml, hown, hts⟩ (k_isStale l D cI cJ cS ad v.1 v.2.1 v.2.2.1 v.2.2.2.1 v.2.2.2.2.1 v.2.2.2.2.2.1 v.2.2.2.2.2.2.1 v.2.2.2.2.2.2.2.1 v.2.2.2.2.2.2.2.2.1 v.2.2.2.2.2.2.2.2.2 w hw) (cwV 1 hts gX4_toldOf_X2_isStale rfl rfl rfl (by decide +kernel) ⟨Nat.le_of_ble_eq_true rfl, Nat.le_of_ble_eq_true rfl⟩) (xk_preVr hK hN hP [4, 12, 13] rfl (ci := 2) rfl 0 rfl) rfl rfl hl.1 rfl (lv_room (Nat.le_of_ble_eq_true rfl)) dX4_toldOf_79 ⟨Nat.zero_le _, Nat.zero_le _⟩) ?_
    refine xk_callR (va_runS (As := [.int (xb (x_stale v.2.2.2.2.2.1 w))]) (rest := []) ⟨hx, hb, hml, hown, hts⟩ (k_oneIf l D cI cJ cS (x_stale v.2.2.2.2.2.1 w)) (va_cwS 1 hts gX4_toldOf_X4_oneIf rfl rfl rfl (by decide +kernel) ⟨Nat.le_of_ble_eq_true rfl, Nat.le_of_ble_eq_true rfl⟩) (xk_preSr hK hN hP [] rfl) rfl rfl hl.1 rfl (lv_room (Nat.le_of_ble_eq_true rfl)) dX4_toldOf_82 ⟨Nat.zero_le _, Nat.zero_le _⟩) ?_
    exact xk_iretR hx hb hr hlk (by unfold x_told; rw [if_neg c_2_0, if_neg c_2_1, if_neg c_2_2, if_neg c_2_3, if_neg c_2_4, if_neg c_2_5, if_pos c_2_6]) dX4_toldOf_85
  refine lv_tableOut (tgt := 86) hx hb dX4_toldOf_2 (by have h0 := lv_neT (a := 0) c_2_0 rfl; have h1 := lv_neT (a := 1) c_2_1 rfl; have h2 := lv_neT (a := 2) c_2_2 rfl; have h3 := lv_neT (a := 3) c_2_3 rfl; have h4 := lv_neT (a := 4) c_2_4 rfl; have h5 := lv_neT (a := 5) c_2_5 rfl; have h6 := lv_neT (a := 6) c_2_6 rfl;   omega) (by decide) ?_
  refine lv_ldc hx hb hown (hts (.constant RX4 74 (-1000000001)) (by decide +kernel)) dX4_toldOf_86 ?_
  exact xk_iretR hx hb hr hlk (by unfold x_told; rw [if_neg c_2_0, if_neg c_2_1, if_neg c_2_2, if_neg c_2_3, if_neg c_2_4, if_neg c_2_5, if_neg c_2_6]) dX4_toldOf_88
set_option maxHeartbeats 4000000 in
set_option maxRecDepth 100000 in
theorem x_toldc (l : Launch) (D : va_G) (cI cJ cS : ClassId) (h0 ca hh ka : Nat) (fk : Nat → Option Nat) (ad : Nat → Nat) (ads : Nat → Nat → Nat) (N4 : Nat) (h4 : N4 = 24) (cr : Nat → Int64) (v : xV) (vs : Nat → xV) (nx sz : Nat) (hka : ∀ i, i < 24 → fk i = some (ads i 0)) (hnx : nx < 24) (hsz : sz ≤ 24) (hv : x_ok v) (wh i what : Int32) : xk_Rd l yX4_told wsX4_told ({ frames := 4, cells := 0, slots := 0, locals := 92 }) D vwCl (xt cI cJ cS) (xx cI cJ cS h0 ca hh ka fk ad ads N4 cr v vs nx sz) [.ref h0, .int wh, .int i, .int what] (some (.int (sp_told v wh i what))) := by
  refine xk_rd (cc := cX4_told) (maxL := 4) (ret := (some .int)) (by decide) rfl (Nat.le_of_ble_eq_true rfl) (fun p e s m below meth c ls hx hb hr hlk hml hown hts hl hP hK hN => ?_)
  replace hl : lv_has ls 4 [(0, .ref h0), (1, .int wh), (2, .int i), (3, .int what)] := hl
  have hiX2 : ∀ w ∈ u_ws RX2 TX2 10, w ∈ wsX4_told := by decide +kernel
  have hiX4 : ∀ w ∈ u_ws RX4 TX4 3, w ∈ wsX4_told := by decide +kernel
  replace hP : va_P D vwCl ([(h0, .inr (3, [.ref (ad 0), .ref hh, .ref ca])), (ca, .inl (cJ, 64, .inr (.inl cr))), (hh, .inr (1, [.ref ka, .int (nI nx), .int (nI sz)])), (ka, .inl (cS, 24, .inr (.inr (.inr (.inr fk)))))] ++ (xst cI cJ ad v ++ xpl cI cJ ads vs N4)) s.heap := hP
  refine lv_iload_n hx hb dX4_told_0 rfl (lv_at hl 1 rfl) ?_
  refine lv_if_ne (tgt := 27) hx hb dX4_told_1 (by decide) (fun c_1 => ?_) (fun c_1 => ?_)
  · skip
    refine lv_iload_n hx hb dX4_told_27 rfl (lv_at hl 1 rfl) ?_
    refine lv_iconst (v := 1) hx hb dX4_told_28 (by decide) ?_
    refine lv_icmp_ne (tgt := 62) hx hb dX4_told_29 (by decide) (fun c_29 => ?_) (fun c_29 => ?_)
    · skip
      refine lv_ldc hx hb hown (hts (.constant RX4 74 (-1000000001)) (by decide +kernel)) dX4_told_62 ?_
      exact xk_iretR hx hb hr hlk (by unfold sp_told; rw [if_neg (fun z => c_1 z.1), if_neg (fun z => c_29 z.1)]) dX4_told_64
    · skip
      refine lv_iload_n hx hb dX4_told_32 rfl (lv_at hl 2 rfl) ?_
      refine xk_callR (va_runS (As := [.int i]) (rest := []) ⟨hx, hb, hml, hown, hts⟩ (k_isCell l D cI cJ cS i) (va_cwS 1 hts gX4_told_X4_isCell rfl rfl rfl (by decide +kernel) ⟨Nat.le_of_ble_eq_true rfl, Nat.le_of_ble_eq_true rfl⟩) (xk_preSr hK hN hP [] rfl) rfl rfl hl.1 rfl (lv_room (Nat.le_of_ble_eq_true rfl)) dX4_told_33 ⟨Nat.zero_le _, Nat.zero_le _⟩) ?_
      refine lv_if_eq (tgt := 62) hx hb dX4_told_36 (by decide) (fun c_36 => ?_) (fun c_36 => ?_)
      · skip
        refine lv_ldc hx hb hown (hts (.constant RX4 74 (-1000000001)) (by decide +kernel)) dX4_told_62 ?_
        exact xk_iretR hx hb hr hlk (by unfold sp_told; rw [if_neg (fun z => c_1 z.1), if_neg (fun z => x_bt c_36 z.2)]) dX4_told_64
      · skip
        obtain ⟨ik, hik, ei⟩ := xi_of (xb_ne c_36)
        have hxi : xN i = ik := by rw [ei]; exact xN_nI (by omega)
        rw [ei] at hl
        refine lv_aload_n hx hb dX4_told_39 rfl (lv_at hl 0 rfl) ?_
        refine lv_aload_n hx hb dX4_told_40 rfl (lv_at hl 0 rfl) ?_
        refine va_get (D := D) (ci := 3) (v := .ref (ad 0)) (C := RX4) (T := TX4) (N := 3) hx hb hts hiX4 hown hK hP 0 rfl rfl 0 (by decide) (hts (.fieldLink RX4 12 "PointerSweep" "now" "LPointerSweep$State;") (by decide +kernel)) (fun _ h9 => h9) rfl dX4_told_41 ?_
        refine va_get (D := D) (ci := 2) (v := .ref (ad 1)) (C := RX2) (T := TX2) (N := 10) hx hb hts hiX2 hown hK hP 4 rfl rfl 0 (by decide) (hts (.fieldLink RX4 130 "PointerSweep$State" "cells" "[J") (by decide +kernel)) (fun _ h9 => h9) rfl dX4_told_44 ?_
        refine lv_iload_n hx hb dX4_told_47 rfl (lv_at hl 2 rfl) ?_
        refine xa_lald hx hb hK hP 5 1 rfl rfl ik rfl hik (by decide) dX4_told_48 ?_
        refine lv_aload_n hx hb dX4_told_49 rfl (lv_at hl 0 rfl) ?_
        refine va_get (D := D) (ci := 3) (v := .ref (ad 0)) (C := RX4) (T := TX4) (N := 3) hx hb hts hiX4 hown hK hP 0 rfl rfl 0 (by decide) (hts (.fieldLink RX4 12 "PointerSweep" "now" "LPointerSweep$State;") (by decide +kernel)) (fun _ h9 => h9) rfl dX4_told_50 ?_
        refine lv_iload_n hx hb dX4_told_53 rfl (lv_at hl 2 rfl) ?_
        refine xk_callR (va_runV (As := [.int (nI ik)]) (rest := [.long (xw_enc (v.1 ik)), .ref h0]) ⟨hx, hb, hml, hown, hts⟩ (k_useOfF l D cI cJ cS ad v ik hik) (cwV 1 hts gX4_told_X2_useOf rfl rfl rfl (by decide +kernel) ⟨Nat.le_of_ble_eq_true rfl, Nat.le_of_ble_eq_true rfl⟩) (xk_preVmr hK hN hP (ci := 2) rfl 0 rfl) rfl rfl hl.1 rfl (lv_room (Nat.le_of_ble_eq_true rfl)) dX4_told_54 ⟨Nat.zero_le _, Nat.zero_le _⟩) ?_
        refine lv_iload_n hx hb dX4_told_57 rfl (lv_at hl 3 rfl) ?_
        refine xk_callR (va_runV (As := [.long (xw_enc (v.1 ik)), .int (xu v.2.2.2.1 v.2.2.2.2.1 ik), .int what]) (rest := []) ⟨hx, hb, hml, hown, hts⟩ (k_toldOf l D cI cJ cS h0 ca hh ka fk ad ads N4 h4 cr v vs nx sz hka hnx hsz hv (v.1 ik) ((x_ok_m hv) ik) (xu v.2.2.2.1 v.2.2.2.2.1 ik) what) (cwV 3 hts gX4_told_X4_toldOf rfl rfl rfl (by decide +kernel) ⟨Nat.le_of_ble_eq_true rfl, Nat.le_of_ble_eq_true rfl⟩) (xk_preVa hK hN hP (ci := 3) rfl 0 rfl) rfl rfl hl.1 rfl (lv_room (Nat.le_of_ble_eq_true rfl)) dX4_told_58 ⟨Nat.zero_le _, Nat.zero_le _⟩) ?_
        exact xk_iretR hx hb hr hlk (by unfold sp_told; rw [if_neg (fun z => c_1 z.1), if_pos ⟨c_29, xb_ne c_36⟩, hxi]) dX4_told_61
  · skip
    refine lv_iload_n hx hb dX4_told_4 rfl (lv_at hl 2 rfl) ?_
    refine xk_callR (va_runS (As := [.int i]) (rest := []) ⟨hx, hb, hml, hown, hts⟩ (k_isRegister l D cI cJ cS i) (va_cwS 1 hts gX4_told_X4_isRegister rfl rfl rfl (by decide +kernel) ⟨Nat.le_of_ble_eq_true rfl, Nat.le_of_ble_eq_true rfl⟩) (xk_preSr hK hN hP [] rfl) rfl rfl hl.1 rfl (lv_room (Nat.le_of_ble_eq_true rfl)) dX4_told_5 ⟨Nat.zero_le _, Nat.zero_le _⟩) ?_
    refine lv_if_eq (tgt := 27) hx hb dX4_told_8 (by decide) (fun c_8 => ?_) (fun c_8 => ?_)
    · skip
      refine lv_iload_n hx hb dX4_told_27 rfl (lv_at hl 1 rfl) ?_
      refine lv_iconst (v := 1) hx hb dX4_told_28 (by decide) ?_
      refine lv_icmp_ne (tgt := 62) hx hb dX4_told_29 (by decide) (fun c_29 => ?_) (fun c_29 => ?_)
      · skip
        refine lv_ldc hx hb hown (hts (.constant RX4 74 (-1000000001)) (by decide +kernel)) dX4_told_62 ?_
        exact xk_iretR hx hb hr hlk (by unfold sp_told; rw [if_neg (fun z => x_bt c_8 z.2), if_neg (fun z => c_29 z.1)]) dX4_told_64
      · skip
        refine lv_iload_n hx hb dX4_told_32 rfl (lv_at hl 2 rfl) ?_
        refine xk_callR (va_runS (As := [.int i]) (rest := []) ⟨hx, hb, hml, hown, hts⟩ (k_isCell l D cI cJ cS i) (va_cwS 1 hts gX4_told_X4_isCell rfl rfl rfl (by decide +kernel) ⟨Nat.le_of_ble_eq_true rfl, Nat.le_of_ble_eq_true rfl⟩) (xk_preSr hK hN hP [] rfl) rfl rfl hl.1 rfl (lv_room (Nat.le_of_ble_eq_true rfl)) dX4_told_33 ⟨Nat.zero_le _, Nat.zero_le _⟩) ?_
        refine lv_if_eq (tgt := 62) hx hb dX4_told_36 (by decide) (fun c_36 => ?_) (fun c_36 => ?_)
        · skip
          refine lv_ldc hx hb hown (hts (.constant RX4 74 (-1000000001)) (by decide +kernel)) dX4_told_62 ?_
          exact xk_iretR hx hb hr hlk (by unfold sp_told; rw [if_neg (fun z => x_bt c_8 z.2), if_neg (fun z => x_bt c_36 z.2)]) dX4_told_64
        · skip
          obtain ⟨ik, hik, ei⟩ := xi_of (xb_ne c_36)
          have hxi : xN i = ik := by rw [ei]; exact xN_nI (by omega)
          rw [ei] at hl
          refine lv_aload_n hx hb dX4_told_39 rfl (lv_at hl 0 rfl) ?_
          refine lv_aload_n hx hb dX4_told_40 rfl (lv_at hl 0 rfl) ?_
          refine va_get (D := D) (ci := 3) (v := .ref (ad 0)) (C := RX4) (T := TX4) (N := 3) hx hb hts hiX4 hown hK hP 0 rfl rfl 0 (by decide) (hts (.fieldLink RX4 12 "PointerSweep" "now" "LPointerSweep$State;") (by decide +kernel)) (fun _ h9 => h9) rfl dX4_told_41 ?_
          refine va_get (D := D) (ci := 2) (v := .ref (ad 1)) (C := RX2) (T := TX2) (N := 10) hx hb hts hiX2 hown hK hP 4 rfl rfl 0 (by decide) (hts (.fieldLink RX4 130 "PointerSweep$State" "cells" "[J") (by decide +kernel)) (fun _ h9 => h9) rfl dX4_told_44 ?_
          refine lv_iload_n hx hb dX4_told_47 rfl (lv_at hl 2 rfl) ?_
          refine xa_lald hx hb hK hP 5 1 rfl rfl ik rfl hik (by decide) dX4_told_48 ?_
          refine lv_aload_n hx hb dX4_told_49 rfl (lv_at hl 0 rfl) ?_
          refine va_get (D := D) (ci := 3) (v := .ref (ad 0)) (C := RX4) (T := TX4) (N := 3) hx hb hts hiX4 hown hK hP 0 rfl rfl 0 (by decide) (hts (.fieldLink RX4 12 "PointerSweep" "now" "LPointerSweep$State;") (by decide +kernel)) (fun _ h9 => h9) rfl dX4_told_50 ?_
          refine lv_iload_n hx hb dX4_told_53 rfl (lv_at hl 2 rfl) ?_
          refine xk_callR (va_runV (As := [.int (nI ik)]) (rest := [.long (xw_enc (v.1 ik)), .ref h0]) ⟨hx, hb, hml, hown, hts⟩ (k_useOfF l D cI cJ cS ad v ik hik) (cwV 1 hts gX4_told_X2_useOf rfl rfl rfl (by decide +kernel) ⟨Nat.le_of_ble_eq_true rfl, Nat.le_of_ble_eq_true rfl⟩) (xk_preVmr hK hN hP (ci := 2) rfl 0 rfl) rfl rfl hl.1 rfl (lv_room (Nat.le_of_ble_eq_true rfl)) dX4_told_54 ⟨Nat.zero_le _, Nat.zero_le _⟩) ?_
          refine lv_iload_n hx hb dX4_told_57 rfl (lv_at hl 3 rfl) ?_
          refine xk_callR (va_runV (As := [.long (xw_enc (v.1 ik)), .int (xu v.2.2.2.1 v.2.2.2.2.1 ik), .int what]) (rest := []) ⟨hx, hb, hml, hown, hts⟩ (k_toldOf l D cI cJ cS h0 ca hh ka fk ad ads N4 h4 cr v vs nx sz hka hnx hsz hv (v.1 ik) ((x_ok_m hv) ik) (xu v.2.2.2.1 v.2.2.2.2.1 ik) what) (cwV 3 hts gX4_told_X4_toldOf rfl rfl rfl (by decide +kernel) ⟨Nat.le_of_ble_eq_true rfl, Nat.le_of_ble_eq_true rfl⟩) (xk_preVa hK hN hP (ci := 3) rfl 0 rfl) rfl rfl hl.1 rfl (lv_room (Nat.le_of_ble_eq_true rfl)) dX4_told_58 ⟨Nat.zero_le _, Nat.zero_le _⟩) ?_
          exact xk_iretR hx hb hr hlk (by unfold sp_told; rw [if_neg (fun z => x_bt c_8 z.2), if_pos ⟨c_29, xb_ne c_36⟩, hxi]) dX4_told_61
    · skip
      obtain ⟨ik, hik, ei⟩ := xi_of (xb_ne c_8)
      have hxi : xN i = ik := by rw [ei]; exact xN_nI (by omega)
      refine lv_aload_n hx hb dX4_told_11 rfl (lv_at hl 0 rfl) ?_
      refine lv_aload_n hx hb dX4_told_12 rfl (lv_at hl 0 rfl) ?_
      refine va_get (D := D) (ci := 3) (v := .ref (ad 0)) (C := RX4) (T := TX4) (N := 3) hx hb hts hiX4 hown hK hP 0 rfl rfl 0 (by decide) (hts (.fieldLink RX4 12 "PointerSweep" "now" "LPointerSweep$State;") (by decide +kernel)) (fun _ h9 => h9) rfl dX4_told_13 ?_
      refine va_get (D := D) (ci := 2) (v := .ref (ad 2)) (C := RX2) (T := TX2) (N := 10) hx hb hts hiX2 hown hK hP 4 rfl rfl 1 (by decide) (hts (.fieldLink RX4 43 "PointerSweep$State" "registers" "[J") (by decide +kernel)) (fun _ h9 => h9) rfl dX4_told_16 ?_
      refine lv_iload_n hx hb dX4_told_19 rfl (lv_at hl 2 rfl) ?_
      refine xa_lald hx hb hK hP 6 1 rfl rfl ik ei hik (by decide) dX4_told_20 ?_
      refine lv_iconst (v := 0) hx hb dX4_told_21 (by decide) ?_
      refine lv_iload_n hx hb dX4_told_22 rfl (lv_at hl 3 rfl) ?_
      refine xk_callR (va_runV (As := [.long (xw_enc (v.2.1 ik)), .int 0, .int what]) (rest := []) ⟨hx, hb, hml, hown, hts⟩ (k_toldOf l D cI cJ cS h0 ca hh ka fk ad ads N4 h4 cr v vs nx sz hka hnx hsz hv (v.2.1 ik) ((x_ok_r hv) ik) 0 what) (cwV 3 hts gX4_told_X4_toldOf rfl rfl rfl (by decide +kernel) ⟨Nat.le_of_ble_eq_true rfl, Nat.le_of_ble_eq_true rfl⟩) (xk_preVa hK hN hP (ci := 3) rfl 0 rfl) rfl rfl hl.1 rfl (lv_room (Nat.le_of_ble_eq_true rfl)) dX4_told_23 ⟨Nat.zero_le _, Nat.zero_le _⟩) ?_
      exact xk_iretR hx hb hr hlk (by unfold sp_told; rw [if_pos ⟨c_1, xb_ne c_8⟩, hxi]) dX4_told_26
set_option maxHeartbeats 4000000 in
set_option maxRecDepth 100000 in
theorem x_pagec (l : Launch) (D : va_G) (cI cJ cS : ClassId) (h0 ca hh ka : Nat) (fk : Nat → Option Nat) (ad : Nat → Nat) (ads : Nat → Nat → Nat) (N4 : Nat) (h4 : N4 = 24) (cr : Nat → Int64) (v : xV) (vs : Nat → xV) (nx sz : Nat) (hka : ∀ i, i < 24 → fk i = some (ads i 0)) (hnx : nx < 24) (hsz : sz ≤ 24) (hv : x_ok v) (pg what : Int32) : xk_Rd l yX4_page wsX4_page ({ frames := 2, cells := 0, slots := 0, locals := 46 }) D vwCl (xt cI cJ cS) (xx cI cJ cS h0 ca hh ka fk ad ads N4 cr v vs nx sz) [.ref h0, .int pg, .int what] (some (.int (sp_page v pg what))) := by
  refine xk_rd (cc := cX4_page) (maxL := 5) (ret := (some .int)) (by decide) rfl (Nat.le_of_ble_eq_true rfl) (fun p e s m below meth c ls hx hb hr hlk hml hown hts hl hP hK hN => ?_)
  replace hl : lv_has ls 5 [(0, .ref h0), (1, .int pg), (2, .int what)] := hl
  have hiX2 : ∀ w ∈ u_ws RX2 TX2 10, w ∈ wsX4_page := by decide +kernel
  have hiX4 : ∀ w ∈ u_ws RX4 TX4 3, w ∈ wsX4_page := by decide +kernel
  replace hP : va_P D vwCl ([(h0, .inr (3, [.ref (ad 0), .ref hh, .ref ca])), (ca, .inl (cJ, 64, .inr (.inl cr))), (hh, .inr (1, [.ref ka, .int (nI nx), .int (nI sz)])), (ka, .inl (cS, 24, .inr (.inr (.inr (.inr fk)))))] ++ (xst cI cJ ad v ++ xpl cI cJ ads vs N4)) s.heap := hP
  refine lv_iload_n hx hb dX4_page_0 rfl (lv_at hl 1 rfl) ?_
  refine lv_if_lt (tgt := 10) hx hb dX4_page_1 (by decide) (fun c_1 => ?_) (fun c_1 => ?_)
  · skip
    refine lv_iconst (v := (-1)) hx hb dX4_page_10 (by decide) ?_
    exact xk_iretR hx hb hr hlk (by unfold sp_page; rw [if_neg (by rw [xi_lt c_1]; decide)]) dX4_page_11
  · skip
    refine lv_iload_n hx hb dX4_page_4 rfl (lv_at hl 1 rfl) ?_
    refine lv_bipush (v := 16) hx hb dX4_page_5 (by decide) ?_
    refine lv_icmp_lt (tgt := 12) hx hb dX4_page_7 (by decide) (fun c_7 => ?_) (fun c_7 => ?_)
    · skip
      have hx16 : xi pg 16 = true := xi_in (N := 16) rfl c_1 (Int32.not_le.mpr c_7)
      obtain ⟨pk, hpk, ep⟩ := xi_of hx16
      have hxp : xN pg = pk := by rw [ep]; exact xN_nI (by omega)
      rw [ep] at hl
      refine lv_iload_n hx hb dX4_page_12 rfl (lv_at hl 1 rfl) ?_
      refine lv_bipush (v := 16) hx hb dX4_page_13 (by decide) ?_
      refine lv_imul hx hb dX4_page_15 ?_
      refine lv_topi (fun y ey => ?_)
      obtain rfl : y = nI (16 * pk) := ey.trans (by rw [show (16 : Int32) = nI 16 from rfl, pk_mul, Nat.mul_comm])
      refine lv_istore_n (lv' := [(3, .int (nI (16 * pk))), (0, .ref h0), (1, .int (nI pk)), (2, .int what)]) hx hb dX4_page_16 rfl hl (by decide) rfl (fun ls hl => ?_)
      refine lv_iload_n hx hb dX4_page_17 rfl (lv_at hl 0 rfl) ?_
      refine lv_bipush (v := 16) hx hb dX4_page_18 (by decide) ?_
      refine lv_iadd hx hb dX4_page_20 ?_
      refine lv_topi (fun y ey => ?_)
      obtain rfl : y = nI (16 * pk + 16) := ey.trans (nI_add (16 * pk) 16)
      refine lv_istore (lv' := [(4, .int (nI (16 * pk + 16))), (3, .int (nI (16 * pk))), (0, .ref h0), (1, .int (nI pk)), (2, .int what)]) hx hb dX4_page_21 hl (by decide) rfl (fun ls hl => ?_)
      refine lv_iload_n hx hb dX4_page_23 rfl (lv_at hl 4 rfl) ?_
      by_cases c_24_0 : what = 0
      · refine lv_tableIn (off := 36) (tgt := 60) hx hb dX4_page_24 (by rw [c_24_0]; decide) (by rw [c_24_0]; decide) (by rw [c_24_0]; rfl) (by decide) ?_
        refine lv_aload_n hx hb dX4_page_60 rfl (lv_at hl 2 rfl) ?_
        refine va_get (D := D) (ci := 3) (v := .ref (ad 0)) (C := RX4) (T := TX4) (N := 3) hx hb hts hiX4 hown hK hP 0 rfl rfl 0 (by decide) (hts (.fieldLink RX4 12 "PointerSweep" "now" "LPointerSweep$State;") (by decide +kernel)) (fun _ h9 => h9) rfl dX4_page_61 ?_
        refine lv_iload_n hx hb dX4_page_64 rfl (lv_at hl 3 rfl) ?_
        refine xk_callR (va_runV (As := [.int (nI pk)]) (rest := []) ⟨hx, hb, hml, hown, hts⟩ (k_isSeenF l D cI cJ cS ad v hv.2.2 pk hpk) (cwV 1 hts gX4_page_X2_isSeen rfl rfl rfl (by decide +kernel) ⟨Nat.le_of_ble_eq_true rfl, Nat.le_of_ble_eq_true rfl⟩) (xk_preVmr hK hN hP (ci := 2) rfl 0 rfl) rfl rfl hl.1 rfl (lv_room (Nat.le_of_ble_eq_true rfl)) dX4_page_65 ⟨Nat.zero_le _, Nat.zero_le _⟩) ?_
        refine xk_callR (va_runS (As := [.int (xb (decide (pk < v.2.2.2.2.2.2.2.2.1)))]) (rest := []) ⟨hx, hb, hml, hown, hts⟩ (k_oneIf l D cI cJ cS (decide (pk < v.2.2.2.2.2.2.2.2.1))) (va_cwS 1 hts gX4_page_X4_oneIf rfl rfl rfl (by decide +kernel) ⟨Nat.le_of_ble_eq_true rfl, Nat.le_of_ble_eq_true rfl⟩) (xk_preSr hK hN hP [] rfl) rfl rfl hl.1 rfl (lv_room (Nat.le_of_ble_eq_true rfl)) dX4_page_68 ⟨Nat.zero_le _, Nat.zero_le _⟩) ?_
        exact xk_iretR hx hb hr hlk (by unfold sp_page; rw [if_pos hx16, if_pos c_24_0, hxp]) dX4_page_71
      by_cases c_24_1 : what = 1
      · refine lv_tableIn (off := 48) (tgt := 72) hx hb dX4_page_24 (by rw [c_24_1]; decide) (by rw [c_24_1]; decide) (by rw [c_24_1]; rfl) (by decide) ?_
        refine lv_aload_n hx hb dX4_page_72 rfl (lv_at hl 2 rfl) ?_
        refine va_get (D := D) (ci := 3) (v := .ref (ad 0)) (C := RX4) (T := TX4) (N := 3) hx hb hts hiX4 hown hK hP 0 rfl rfl 0 (by decide) (hts (.fieldLink RX4 12 "PointerSweep" "now" "LPointerSweep$State;") (by decide +kernel)) (fun _ h9 => h9) rfl dX4_page_73 ?_
        refine lv_iload_n hx hb dX4_page_76 rfl (lv_at hl 3 rfl) ?_
        refine xk_callR (va_runV (As := [.int (nI pk)]) (rest := []) ⟨hx, hb, hml, hown, hts⟩ (k_isDirtyF l D cI cJ cS ad v pk hpk) (cwV 1 hts gX4_page_X2_isDirty rfl rfl rfl (by decide +kernel) ⟨Nat.le_of_ble_eq_true rfl, Nat.le_of_ble_eq_true rfl⟩) (xk_preVmr hK hN hP (ci := 2) rfl 0 rfl) rfl rfl hl.1 rfl (lv_room (Nat.le_of_ble_eq_true rfl)) dX4_page_77 ⟨Nat.zero_le _, Nat.zero_le _⟩) ?_
        refine xk_callR (va_runS (As := [.int (xb (v.2.2.2.2.2.2.2.2.2 pk))]) (rest := []) ⟨hx, hb, hml, hown, hts⟩ (k_oneIf l D cI cJ cS (v.2.2.2.2.2.2.2.2.2 pk)) (va_cwS 1 hts gX4_page_X4_oneIf rfl rfl rfl (by decide +kernel) ⟨Nat.le_of_ble_eq_true rfl, Nat.le_of_ble_eq_true rfl⟩) (xk_preSr hK hN hP [] rfl) rfl rfl hl.1 rfl (lv_room (Nat.le_of_ble_eq_true rfl)) dX4_page_80 ⟨Nat.zero_le _, Nat.zero_le _⟩) ?_
        exact xk_iretR hx hb hr hlk (by unfold sp_page; rw [if_pos hx16, if_neg c_24_0, if_pos c_24_1, hxp]) dX4_page_83
      by_cases c_24_2 : what = 2
      · refine lv_tableIn (off := 60) (tgt := 84) hx hb dX4_page_24 (by rw [c_24_2]; decide) (by rw [c_24_2]; decide) (by rw [c_24_2]; rfl) (by decide) ?_
        refine lv_aload_n hx hb dX4_page_84 rfl (lv_at hl 2 rfl) ?_
        refine va_get (D := D) (ci := 3) (v := .ref (ad 0)) (C := RX4) (T := TX4) (N := 3) hx hb hts hiX4 hown hK hP 0 rfl rfl 0 (by decide) (hts (.fieldLink RX4 12 "PointerSweep" "now" "LPointerSweep$State;") (by decide +kernel)) (fun _ h9 => h9) rfl dX4_page_85 ?_
        refine lv_iload_n hx hb dX4_page_88 rfl (lv_at hl 1 rfl) ?_
        refine lv_iload hx hb dX4_page_89 (lv_at hl 0 rfl) ?_
        refine xk_callR (va_runV (As := [.int (nI (16 * pk)), .int (nI (16 * pk + 16))]) (rest := []) ⟨hx, hb, hml, hown, hts⟩ (k_pointersInF l D cI cJ cS ad v (x_ok_m hv) (16 * pk) (16 * pk + 16) (by omega) (by omega)) (cwV 2 hts gX4_page_X2_pointersIn rfl rfl rfl (by decide +kernel) ⟨Nat.le_of_ble_eq_true rfl, Nat.le_of_ble_eq_true rfl⟩) (xk_preVmr hK hN hP (ci := 2) rfl 0 rfl) rfl rfl hl.1 rfl (lv_room (Nat.le_of_ble_eq_true rfl)) dX4_page_91 ⟨Nat.zero_le _, Nat.zero_le _⟩) ?_
        exact xk_iretR hx hb hr hlk (by unfold sp_page; rw [if_pos hx16, if_neg c_24_0, if_neg c_24_1, if_pos c_24_2, hxp]) dX4_page_94
      by_cases c_24_3 : what = 3
      · refine lv_tableIn (off := 71) (tgt := 95) hx hb dX4_page_24 (by rw [c_24_3]; decide) (by rw [c_24_3]; decide) (by rw [c_24_3]; rfl) (by decide) ?_
        refine lv_aload_n hx hb dX4_page_95 rfl (lv_at hl 2 rfl) ?_
        refine va_get (D := D) (ci := 3) (v := .ref (ad 0)) (C := RX4) (T := TX4) (N := 3) hx hb hts hiX4 hown hK hP 0 rfl rfl 0 (by decide) (hts (.fieldLink RX4 12 "PointerSweep" "now" "LPointerSweep$State;") (by decide +kernel)) (fun _ h9 => h9) rfl dX4_page_96 ?_
        refine va_get (D := D) (ci := 2) (v := .ref (ad 4)) (C := RX2) (T := TX2) (N := 10) hx hb hts hiX2 hown hK hP 4 rfl rfl 3 (by decide) (hts (.fieldLink RX4 146 "PointerSweep$State" "given" "LPointerSweep$CellMap;") (by decide +kernel)) (fun _ h9 => h9) rfl dX4_page_99 ?_
        refine lv_iload_n hx hb dX4_page_102 rfl (lv_at hl 1 rfl) ?_
        refine lv_iload hx hb dX4_page_103 (lv_at hl 0 rfl) ?_
        refine xk_callR (va_runV (As := [.int (nI (16 * pk)), .int (nI (16 * pk + 16))]) (rest := []) ⟨hx, hb, hml, hown, hts⟩ (k_sizeWithin l D cI cJ cS (ad 4) (ad 5) v.2.2.2.1 (16 * pk) (16 * pk + 16) (by omega) (by omega)) (cwV 2 hts gX4_page_X0_sizeWithin rfl rfl rfl (by decide +kernel) ⟨Nat.le_of_ble_eq_true rfl, Nat.le_of_ble_eq_true rfl⟩) (xk_preVr hK hN hP [8, 9] rfl (ci := 0) rfl 0 rfl) rfl rfl hl.1 rfl (lv_room (Nat.le_of_ble_eq_true rfl)) dX4_page_105 ⟨Nat.zero_le _, Nat.zero_le _⟩) ?_
        exact xk_iretR hx hb hr hlk (by unfold sp_page; rw [if_pos hx16, if_neg c_24_0, if_neg c_24_1, if_neg c_24_2, if_pos c_24_3, hxp]) dX4_page_108
      by_cases c_24_4 : what = 4
      · refine lv_tableIn (off := 85) (tgt := 109) hx hb dX4_page_24 (by rw [c_24_4]; decide) (by rw [c_24_4]; decide) (by rw [c_24_4]; rfl) (by decide) ?_
        refine lv_aload_n hx hb dX4_page_109 rfl (lv_at hl 2 rfl) ?_
        refine va_get (D := D) (ci := 3) (v := .ref (ad 0)) (C := RX4) (T := TX4) (N := 3) hx hb hts hiX4 hown hK hP 0 rfl rfl 0 (by decide) (hts (.fieldLink RX4 12 "PointerSweep" "now" "LPointerSweep$State;") (by decide +kernel)) (fun _ h9 => h9) rfl dX4_page_110 ?_
        refine va_get (D := D) (ci := 2) (v := .ref (ad 6)) (C := RX2) (T := TX2) (N := 10) hx hb hts hiX2 hown hK hP 4 rfl rfl 4 (by decide) (hts (.fieldLink RX4 155 "PointerSweep$State" "quarantined" "LPointerSweep$CellMap;") (by decide +kernel)) (fun _ h9 => h9) rfl dX4_page_113 ?_
        refine lv_iload_n hx hb dX4_page_116 rfl (lv_at hl 1 rfl) ?_
        refine lv_iload hx hb dX4_page_117 (lv_at hl 0 rfl) ?_
        refine xk_callR (va_runV (As := [.int (nI (16 * pk)), .int (nI (16 * pk + 16))]) (rest := []) ⟨hx, hb, hml, hown, hts⟩ (k_sizeWithin l D cI cJ cS (ad 6) (ad 7) v.2.2.2.2.1 (16 * pk) (16 * pk + 16) (by omega) (by omega)) (cwV 2 hts gX4_page_X0_sizeWithin rfl rfl rfl (by decide +kernel) ⟨Nat.le_of_ble_eq_true rfl, Nat.le_of_ble_eq_true rfl⟩) (xk_preVr hK hN hP [10, 11] rfl (ci := 0) rfl 0 rfl) rfl rfl hl.1 rfl (lv_room (Nat.le_of_ble_eq_true rfl)) dX4_page_119 ⟨Nat.zero_le _, Nat.zero_le _⟩) ?_
        exact xk_iretR hx hb hr hlk (by unfold sp_page; rw [if_pos hx16, if_neg c_24_0, if_neg c_24_1, if_neg c_24_2, if_neg c_24_3, if_pos c_24_4, hxp]) dX4_page_122
      refine lv_tableOut (tgt := 123) hx hb dX4_page_24 (by have h0 := lv_neT (a := 0) c_24_0 rfl; have h1 := lv_neT (a := 1) c_24_1 rfl; have h2 := lv_neT (a := 2) c_24_2 rfl; have h3 := lv_neT (a := 3) c_24_3 rfl; have h4 := lv_neT (a := 4) c_24_4 rfl;   omega) (by decide) ?_
      refine lv_iconst (v := (-1)) hx hb dX4_page_123 (by decide) ?_
      exact xk_iretR hx hb hr hlk (by unfold sp_page; rw [if_pos hx16, if_neg c_24_0, if_neg c_24_1, if_neg c_24_2, if_neg c_24_3, if_neg c_24_4]) dX4_page_124
    · skip
      refine lv_iconst (v := (-1)) hx hb dX4_page_10 (by decide) ?_
      exact xk_iretR hx hb hr hlk (by unfold sp_page; rw [if_neg (by rw [xi_ge (n := 16) (N := 16) rfl (Int32.not_lt.mp c_7)]; decide)]) dX4_page_11
set_option maxHeartbeats 4000000 in
set_option maxRecDepth 100000 in
theorem x_rangec (l : Launch) (D : va_G) (cI cJ cS : ClassId) (h0 ca hh ka : Nat) (fk : Nat → Option Nat) (ad : Nat → Nat) (ads : Nat → Nat → Nat) (N4 : Nat) (h4 : N4 = 24) (cr : Nat → Int64) (v : xV) (vs : Nat → xV) (nx sz : Nat) (hka : ∀ i, i < 24 → fk i = some (ads i 0)) (hnx : nx < 24) (hsz : sz ≤ 24) (hv : x_ok v) (i what : Int32) : xk_Rd l yX4_range wsX4_range ({ frames := 3, cells := 0, slots := 0, locals := 63 }) D vwCl (xt cI cJ cS) (xx cI cJ cS h0 ca hh ka fk ad ads N4 cr v vs nx sz) [.ref h0, .int i, .int what] (some (.int (sp_range v i what))) := by
  refine xk_rd (cc := cX4_range) (maxL := 4) (ret := (some .int)) (by decide) rfl (Nat.le_of_ble_eq_true rfl) (fun p e s m below meth c ls hx hb hr hlk hml hown hts hl hP hK hN => ?_)
  replace hl : lv_has ls 4 [(0, .ref h0), (1, .int i), (2, .int what)] := hl
  have hiX2 : ∀ w ∈ u_ws RX2 TX2 10, w ∈ wsX4_range := by decide +kernel
  have hiX4 : ∀ w ∈ u_ws RX4 TX4 3, w ∈ wsX4_range := by decide +kernel
  replace hP : va_P D vwCl ([(h0, .inr (3, [.ref (ad 0), .ref hh, .ref ca])), (ca, .inl (cJ, 64, .inr (.inl cr))), (hh, .inr (1, [.ref ka, .int (nI nx), .int (nI sz)])), (ka, .inl (cS, 24, .inr (.inr (.inr (.inr fk)))))] ++ (xst cI cJ ad v ++ xpl cI cJ ads vs N4)) s.heap := hP
  refine lv_iload_n hx hb dX4_range_0 rfl (lv_at hl 1 rfl) ?_
  refine xk_callR (va_runS (As := [.int i]) (rest := []) ⟨hx, hb, hml, hown, hts⟩ (k_isCell l D cI cJ cS i) (va_cwS 1 hts gX4_range_X4_isCell rfl rfl rfl (by decide +kernel) ⟨Nat.le_of_ble_eq_true rfl, Nat.le_of_ble_eq_true rfl⟩) (xk_preSr hK hN hP [] rfl) rfl rfl hl.1 rfl (lv_room (Nat.le_of_ble_eq_true rfl)) dX4_range_1 ⟨Nat.zero_le _, Nat.zero_le _⟩) ?_
  refine lv_if_eq (tgt := 16) hx hb dX4_range_4 (by decide) (fun c_4 => ?_) (fun c_4 => ?_)
  · skip
    refine lv_iconst (v := (-1)) hx hb dX4_range_16 (by decide) ?_
    exact xk_iretR hx hb hr hlk (by unfold sp_range; rw [if_neg (fun z => x_bt c_4 z.1)]) dX4_range_17
  · skip
    refine lv_iload_n hx hb dX4_range_7 rfl (lv_at hl 2 rfl) ?_
    refine lv_if_lt (tgt := 16) hx hb dX4_range_8 (by decide) (fun c_8 => ?_) (fun c_8 => ?_)
    · skip
      refine lv_iconst (v := (-1)) hx hb dX4_range_16 (by decide) ?_
      exact xk_iretR hx hb hr hlk (by unfold sp_range; rw [if_neg (fun z => z.2.1 c_8)]) dX4_range_17
    · skip
      refine lv_iload_n hx hb dX4_range_11 rfl (lv_at hl 2 rfl) ?_
      refine lv_iconst (v := 1) hx hb dX4_range_12 (by decide) ?_
      refine lv_icmp_le (tgt := 18) hx hb dX4_range_13 (by decide) (fun c_13 => ?_) (fun c_13 => ?_)
      · skip
        obtain ⟨ik, hik, ei⟩ := xi_of (xb_ne c_4)
        have hxi : xN i = ik := by rw [ei]; exact xN_nI (by omega)
        rw [ei] at hl
        refine lv_aload_n hx hb dX4_range_18 rfl (lv_at hl 0 rfl) ?_
        refine va_get (D := D) (ci := 3) (v := .ref (ad 0)) (C := RX4) (T := TX4) (N := 3) hx hb hts hiX4 hown hK hP 0 rfl rfl 0 (by decide) (hts (.fieldLink RX4 12 "PointerSweep" "now" "LPointerSweep$State;") (by decide +kernel)) (fun _ h9 => h9) rfl dX4_range_19 ?_
        refine va_get (D := D) (ci := 2) (v := .ref (ad 4)) (C := RX2) (T := TX2) (N := 10) hx hb hts hiX2 hown hK hP 4 rfl rfl 3 (by decide) (hts (.fieldLink RX4 146 "PointerSweep$State" "given" "LPointerSweep$CellMap;") (by decide +kernel)) (fun _ h9 => h9) rfl dX4_range_22 ?_
        refine lv_iload_n hx hb dX4_range_25 rfl (lv_at hl 1 rfl) ?_
        refine xk_callR (va_runV (As := [.int (nI ik)]) (rest := []) ⟨hx, hb, hml, hown, hts⟩ (k_has l D cI cJ cS (ad 4) (ad 5) v.2.2.2.1 ik hik) (cwV 1 hts gX4_range_X0_has rfl rfl rfl (by decide +kernel) ⟨Nat.le_of_ble_eq_true rfl, Nat.le_of_ble_eq_true rfl⟩) (xk_preVr hK hN hP [8, 9] rfl (ci := 0) rfl 0 rfl) rfl rfl hl.1 rfl (lv_room (Nat.le_of_ble_eq_true rfl)) dX4_range_26 ⟨Nat.zero_le _, Nat.zero_le _⟩) ?_
        refine lv_if_ne (tgt := 35) hx hb dX4_range_29 (by decide) (fun c_29 => ?_) (fun c_29 => ?_)
        · skip
          refine lv_aload_n hx hb dX4_range_35 rfl (lv_at hl 0 rfl) ?_
          refine va_get (D := D) (ci := 3) (v := .ref (ad 0)) (C := RX4) (T := TX4) (N := 3) hx hb hts hiX4 hown hK hP 0 rfl rfl 0 (by decide) (hts (.fieldLink RX4 12 "PointerSweep" "now" "LPointerSweep$State;") (by decide +kernel)) (fun _ h9 => h9) rfl dX4_range_36 ?_
          refine lv_iload_n hx hb dX4_range_39 rfl (lv_at hl 1 rfl) ?_
          refine xk_callR (va_runV (As := [.int (nI ik)]) (rest := []) ⟨hx, hb, hml, hown, hts⟩ (k_rangeFromF l D cI cJ cS ad v ik hik) (cwV 1 hts gX4_range_X2_rangeFrom rfl rfl rfl (by decide +kernel) ⟨Nat.le_of_ble_eq_true rfl, Nat.le_of_ble_eq_true rfl⟩) (xk_preVmr hK hN hP (ci := 2) rfl 0 rfl) rfl rfl hl.1 rfl (lv_room (Nat.le_of_ble_eq_true rfl)) dX4_range_40 ⟨Nat.zero_le _, Nat.zero_le _⟩) ?_
          refine lv_istore_n (lv' := [(3, .int (nI (x_rf v.2.2.2.2.2.2.1 ik))), (0, .ref h0), (1, .int (nI ik)), (2, .int what)]) hx hb dX4_range_43 rfl hl (by decide) rfl (fun ls hl => ?_)
          refine lv_iload_n hx hb dX4_range_44 rfl (lv_at hl 3 rfl) ?_
          refine lv_if_ne (tgt := 52) hx hb dX4_range_45 (by decide) (fun c_45 => ?_) (fun c_45 => ?_)
          · skip
            refine lv_aload_n hx hb dX4_range_52 rfl (lv_at hl 1 rfl) ?_
            refine va_get (D := D) (ci := 3) (v := .ref (ad 0)) (C := RX4) (T := TX4) (N := 3) hx hb hts hiX4 hown hK hP 0 rfl rfl 0 (by decide) (hts (.fieldLink RX4 12 "PointerSweep" "now" "LPointerSweep$State;") (by decide +kernel)) (fun _ h9 => h9) rfl dX4_range_53 ?_
            refine lv_iload_n hx hb dX4_range_56 rfl (lv_at hl 2 rfl) ?_
            refine xk_callR (va_runV (As := [.int (nI ik)]) (rest := []) ⟨hx, hb, hml, hown, hts⟩ (k_rangeToF l D cI cJ cS ad v ik hik) (cwV 1 hts gX4_range_X2_rangeTo rfl rfl rfl (by decide +kernel) ⟨Nat.le_of_ble_eq_true rfl, Nat.le_of_ble_eq_true rfl⟩) (xk_preVmr hK hN hP (ci := 2) rfl 0 rfl) rfl rfl hl.1 rfl (lv_room (Nat.le_of_ble_eq_true rfl)) dX4_range_57 ⟨Nat.zero_le _, Nat.zero_le _⟩) ?_
            refine lv_iload_n hx hb dX4_range_60 rfl (lv_at hl 0 rfl) ?_
            refine lv_isub hx hb dX4_range_61 ?_
            exact xk_iretR hx hb hr hlk (by unfold sp_range; rw [if_pos ⟨xb_ne c_4, c_8, c_13⟩, hxi, if_pos (xb_ne c_29), if_neg c_45]) dX4_range_62
          · skip
            refine lv_iload_n hx hb dX4_range_48 rfl (lv_at hl 0 rfl) ?_
            refine lv_goto (tgt := 62) hx hb dX4_range_49 (by decide) ?_
            exact xk_iretR hx hb hr hlk (by unfold sp_range; rw [if_pos ⟨xb_ne c_4, c_8, c_13⟩, hxi, if_pos (xb_ne c_29), if_pos c_45]) dX4_range_62
        · skip
          refine lv_bipush (v := (-4)) hx hb dX4_range_32 (by decide) ?_
          exact xk_iretR hx hb hr hlk (by unfold sp_range; rw [if_pos ⟨xb_ne c_4, c_8, c_13⟩, hxi, if_neg (x_bt c_29)]) dX4_range_34
      · skip
        refine lv_iconst (v := (-1)) hx hb dX4_range_16 (by decide) ?_
        exact xk_iretR hx hb hr hlk (by unfold sp_range; rw [if_neg (fun z => c_13 z.2.2)]) dX4_range_17
set_option maxHeartbeats 4000000 in
set_option maxRecDepth 100000 in
theorem x_countc (l : Launch) (D : va_G) (cI cJ cS : ClassId) (h0 ca hh ka : Nat) (fk : Nat → Option Nat) (ad : Nat → Nat) (ads : Nat → Nat → Nat) (N4 : Nat) (h4 : N4 = 24) (cr : Nat → Int64) (v : xV) (vs : Nat → xV) (nx sz : Nat) (hka : ∀ i, i < 24 → fk i = some (ads i 0)) (hnx : nx < 24) (hsz : sz ≤ 24) (hv : x_ok v) (what : Int32) : xk_Rd l yX4_count wsX4_count ({ frames := 3, cells := 0, slots := 0, locals := 66 }) D vwCl (xt cI cJ cS) (xx cI cJ cS h0 ca hh ka fk ad ads N4 cr v vs nx sz) [.ref h0, .int what] (some (.int (sp_count v sz what))) := by
  refine xk_rd (cc := cX4_count) (maxL := 4) (ret := (some .int)) (by decide) rfl (Nat.le_of_ble_eq_true rfl) (fun p e s m below meth c ls hx hb hr hlk hml hown hts hl hP hK hN => ?_)
  replace hl : lv_has ls 4 [(0, .ref h0), (1, .int what)] := hl
  have hiX1 : ∀ w ∈ u_ws RX1 TX1 3, w ∈ wsX4_count := by decide +kernel
  have hiX2 : ∀ w ∈ u_ws RX2 TX2 10, w ∈ wsX4_count := by decide +kernel
  have hiX4 : ∀ w ∈ u_ws RX4 TX4 3, w ∈ wsX4_count := by decide +kernel
  replace hP : va_P D vwCl ([(h0, .inr (3, [.ref (ad 0), .ref hh, .ref ca])), (ca, .inl (cJ, 64, .inr (.inl cr))), (hh, .inr (1, [.ref ka, .int (nI nx), .int (nI sz)])), (ka, .inl (cS, 24, .inr (.inr (.inr (.inr fk)))))] ++ (xst cI cJ ad v ++ xpl cI cJ ads vs N4)) s.heap := hP
  refine lv_iload_n hx hb dX4_count_0 rfl (lv_at hl 1 rfl) ?_
  refine lv_iconst (v := 5) hx hb dX4_count_1 (by decide) ?_
  refine lv_icmp_lt (tgt := 23) hx hb dX4_count_2 (by decide) (fun c_2 => ?_) (fun c_2 => ?_)
  · skip
    refine lv_aload_n hx hb dX4_count_23 rfl (lv_at hl 0 rfl) ?_
    refine va_get (D := D) (ci := 3) (v := .ref (ad 0)) (C := RX4) (T := TX4) (N := 3) hx hb hts hiX4 hown hK hP 0 rfl rfl 0 (by decide) (hts (.fieldLink RX4 12 "PointerSweep" "now" "LPointerSweep$State;") (by decide +kernel)) (fun _ h9 => h9) rfl dX4_count_24 ?_
    refine va_get (D := D) (ci := 2) (v := .ref (ad 4)) (C := RX2) (T := TX2) (N := 10) hx hb hts hiX2 hown hK hP 4 rfl rfl 3 (by decide) (hts (.fieldLink RX4 146 "PointerSweep$State" "given" "LPointerSweep$CellMap;") (by decide +kernel)) (fun _ h9 => h9) rfl dX4_count_27 ?_
    refine xk_callR (va_runV (As := []) (rest := []) ⟨hx, hb, hml, hown, hts⟩ (k_size l D cI cJ cS (ad 4) (ad 5) v.2.2.2.1) (cwV 0 hts gX4_count_X0_size rfl rfl rfl (by decide +kernel) ⟨Nat.le_of_ble_eq_true rfl, Nat.le_of_ble_eq_true rfl⟩) (xk_preVr hK hN hP [8, 9] rfl (ci := 0) rfl 0 rfl) rfl rfl hl.1 rfl (lv_room (Nat.le_of_ble_eq_true rfl)) dX4_count_30 ⟨Nat.zero_le _, Nat.zero_le _⟩) ?_
    refine lv_istore_n (lv' := [(2, .int (nI (xs_w v.2.2.2.1 0 256))), (0, .ref h0), (1, .int what)]) hx hb dX4_count_33 rfl hl (by decide) rfl (fun ls hl => ?_)
    refine lv_aload_n hx hb dX4_count_34 rfl (lv_at hl 1 rfl) ?_
    refine va_get (D := D) (ci := 3) (v := .ref (ad 0)) (C := RX4) (T := TX4) (N := 3) hx hb hts hiX4 hown hK hP 0 rfl rfl 0 (by decide) (hts (.fieldLink RX4 12 "PointerSweep" "now" "LPointerSweep$State;") (by decide +kernel)) (fun _ h9 => h9) rfl dX4_count_35 ?_
    refine va_get (D := D) (ci := 2) (v := .ref (ad 6)) (C := RX2) (T := TX2) (N := 10) hx hb hts hiX2 hown hK hP 4 rfl rfl 4 (by decide) (hts (.fieldLink RX4 155 "PointerSweep$State" "quarantined" "LPointerSweep$CellMap;") (by decide +kernel)) (fun _ h9 => h9) rfl dX4_count_38 ?_
    refine xk_callR (va_runV (As := []) (rest := []) ⟨hx, hb, hml, hown, hts⟩ (k_size l D cI cJ cS (ad 6) (ad 7) v.2.2.2.2.1) (cwV 0 hts gX4_count_X0_size rfl rfl rfl (by decide +kernel) ⟨Nat.le_of_ble_eq_true rfl, Nat.le_of_ble_eq_true rfl⟩) (xk_preVr hK hN hP [10, 11] rfl (ci := 0) rfl 0 rfl) rfl rfl hl.1 rfl (lv_room (Nat.le_of_ble_eq_true rfl)) dX4_count_41 ⟨Nat.zero_le _, Nat.zero_le _⟩) ?_
    refine lv_istore_n (lv' := [(3, .int (nI (xs_w v.2.2.2.2.1 0 256))), (2, .int (nI (xs_w v.2.2.2.1 0 256))), (0, .ref h0), (1, .int what)]) hx hb dX4_count_44 rfl hl (by decide) rfl (fun ls hl => ?_)
    refine lv_iload_n hx hb dX4_count_45 rfl (lv_at hl 3 rfl) ?_
    by_cases c_46_0 : what = 0
    · refine lv_tableIn (off := 70) (tgt := 116) hx hb dX4_count_46 (by rw [c_46_0]; decide) (by rw [c_46_0]; decide) (by rw [c_46_0]; rfl) (by decide) ?_
      refine lv_sipush (v := 256) hx hb dX4_count_116 (by decide) ?_
      refine lv_iload_n hx hb dX4_count_119 rfl (lv_at hl 1 rfl) ?_
      refine lv_isub hx hb dX4_count_120 ?_
      refine lv_iload_n hx hb dX4_count_121 rfl (lv_at hl 0 rfl) ?_
      refine lv_isub hx hb dX4_count_122 ?_
      exact xk_iretR hx hb hr hlk (by unfold sp_count; rw [if_neg (fun z => z.1 c_2), if_pos c_46_0]) dX4_count_123
    by_cases c_46_1 : what = 1
    · refine lv_tableIn (off := 78) (tgt := 124) hx hb dX4_count_46 (by rw [c_46_1]; decide) (by rw [c_46_1]; decide) (by rw [c_46_1]; rfl) (by decide) ?_
      refine lv_iload_n hx hb dX4_count_124 rfl (lv_at hl 1 rfl) ?_
      exact xk_iretR hx hb hr hlk (by unfold sp_count; rw [if_neg (fun z => z.1 c_2), if_neg c_46_0, if_pos c_46_1]) dX4_count_125
    by_cases c_46_2 : what = 2
    · refine lv_tableIn (off := 80) (tgt := 126) hx hb dX4_count_46 (by rw [c_46_2]; decide) (by rw [c_46_2]; decide) (by rw [c_46_2]; rfl) (by decide) ?_
      refine lv_iload_n hx hb dX4_count_126 rfl (lv_at hl 0 rfl) ?_
      exact xk_iretR hx hb hr hlk (by unfold sp_count; rw [if_neg (fun z => z.1 c_2), if_neg c_46_0, if_neg c_46_1, if_pos c_46_2]) dX4_count_127
    by_cases c_46_3 : what = 3
    · refine lv_tableIn (off := 82) (tgt := 128) hx hb dX4_count_46 (by rw [c_46_3]; decide) (by rw [c_46_3]; decide) (by rw [c_46_3]; rfl) (by decide) ?_
      refine lv_aload_n hx hb dX4_count_128 rfl (lv_at hl 2 rfl) ?_
      refine va_get (D := D) (ci := 3) (v := .ref (ad 0)) (C := RX4) (T := TX4) (N := 3) hx hb hts hiX4 hown hK hP 0 rfl rfl 0 (by decide) (hts (.fieldLink RX4 12 "PointerSweep" "now" "LPointerSweep$State;") (by decide +kernel)) (fun _ h9 => h9) rfl dX4_count_129 ?_
      refine va_get (D := D) (ci := 2) (v := .ref (ad 8)) (C := RX2) (T := TX2) (N := 10) hx hb hts hiX2 hown hK hP 4 rfl rfl 5 (by decide) (hts (.fieldLink RX4 179 "PointerSweep$State" "doomed" "LPointerSweep$CellMap;") (by decide +kernel)) (fun _ h9 => h9) rfl dX4_count_132 ?_
      refine xk_callR (va_runV (As := []) (rest := []) ⟨hx, hb, hml, hown, hts⟩ (k_size l D cI cJ cS (ad 8) (ad 9) v.2.2.2.2.2.1) (cwV 0 hts gX4_count_X0_size rfl rfl rfl (by decide +kernel) ⟨Nat.le_of_ble_eq_true rfl, Nat.le_of_ble_eq_true rfl⟩) (xk_preVr hK hN hP [12, 13] rfl (ci := 0) rfl 0 rfl) rfl rfl hl.1 rfl (lv_room (Nat.le_of_ble_eq_true rfl)) dX4_count_135 ⟨Nat.zero_le _, Nat.zero_le _⟩) ?_
      exact xk_iretR hx hb hr hlk (by unfold sp_count; rw [if_neg (fun z => z.1 c_2), if_neg c_46_0, if_neg c_46_1, if_neg c_46_2, if_pos c_46_3]) dX4_count_138
    by_cases c_46_4 : what = 4
    · refine lv_tableIn (off := 93) (tgt := 139) hx hb dX4_count_46 (by rw [c_46_4]; decide) (by rw [c_46_4]; decide) (by rw [c_46_4]; rfl) (by decide) ?_
      refine lv_aload_n hx hb dX4_count_139 rfl (lv_at hl 2 rfl) ?_
      refine va_get (D := D) (ci := 3) (v := .ref (ad 0)) (C := RX4) (T := TX4) (N := 3) hx hb hts hiX4 hown hK hP 0 rfl rfl 0 (by decide) (hts (.fieldLink RX4 12 "PointerSweep" "now" "LPointerSweep$State;") (by decide +kernel)) (fun _ h9 => h9) rfl dX4_count_140 ?_
      refine va_get (D := D) (ci := 2) (v := .ref (ad 10)) (C := RX2) (T := TX2) (N := 10) hx hb hts hiX2 hown hK hP 4 rfl rfl 6 (by decide) (hts (.fieldLink RX4 182 "PointerSweep$State" "firsts" "LPointerSweep$CellMap;") (by decide +kernel)) (fun _ h9 => h9) rfl dX4_count_143 ?_
      refine xk_callR (va_runV (As := []) (rest := []) ⟨hx, hb, hml, hown, hts⟩ (k_size l D cI cJ cS (ad 10) (ad 11) v.2.2.2.2.2.2.1) (cwV 0 hts gX4_count_X0_size rfl rfl rfl (by decide +kernel) ⟨Nat.le_of_ble_eq_true rfl, Nat.le_of_ble_eq_true rfl⟩) (xk_preVr hK hN hP [14, 15] rfl (ci := 0) rfl 0 rfl) rfl rfl hl.1 rfl (lv_room (Nat.le_of_ble_eq_true rfl)) dX4_count_146 ⟨Nat.zero_le _, Nat.zero_le _⟩) ?_
      exact xk_iretR hx hb hr hlk (by unfold sp_count; rw [if_neg (fun z => z.1 c_2), if_neg c_46_0, if_neg c_46_1, if_neg c_46_2, if_neg c_46_3, if_pos c_46_4]) dX4_count_149
    by_cases c_46_12 : what = 12
    · refine lv_tableIn (off := 104) (tgt := 150) hx hb dX4_count_46 (by rw [c_46_12]; decide) (by rw [c_46_12]; decide) (by rw [c_46_12]; rfl) (by decide) ?_
      refine lv_aload_n hx hb dX4_count_150 rfl (lv_at hl 2 rfl) ?_
      refine va_get (D := D) (ci := 3) (v := .ref (ad 0)) (C := RX4) (T := TX4) (N := 3) hx hb hts hiX4 hown hK hP 0 rfl rfl 0 (by decide) (hts (.fieldLink RX4 12 "PointerSweep" "now" "LPointerSweep$State;") (by decide +kernel)) (fun _ h9 => h9) rfl dX4_count_151 ?_
      refine va_get (D := D) (ci := 2) (v := .int (xb v.2.2.2.2.2.2.2.1)) (C := RX2) (T := TX2) (N := 10) hx hb hts hiX2 hown hK hP 4 rfl rfl 7 (by decide) (hts (.fieldLink RX4 105 "PointerSweep$State" "sweeping" "Z") (by decide +kernel)) (fun _ h9 => h9) rfl dX4_count_154 ?_
      refine xk_callR (va_runS (As := [.int (xb v.2.2.2.2.2.2.2.1)]) (rest := []) ⟨hx, hb, hml, hown, hts⟩ (k_oneIf l D cI cJ cS v.2.2.2.2.2.2.2.1) (va_cwS 1 hts gX4_count_X4_oneIf rfl rfl rfl (by decide +kernel) ⟨Nat.le_of_ble_eq_true rfl, Nat.le_of_ble_eq_true rfl⟩) (xk_preSr hK hN hP [] rfl) rfl rfl hl.1 rfl (lv_room (Nat.le_of_ble_eq_true rfl)) dX4_count_157 ⟨Nat.zero_le _, Nat.zero_le _⟩) ?_
      exact xk_iretR hx hb hr hlk (by unfold sp_count; rw [if_neg (fun z => z.1 c_2), if_neg c_46_0, if_neg c_46_1, if_neg c_46_2, if_neg c_46_3, if_neg c_46_4, if_pos c_46_12]) dX4_count_160
    by_cases c_46_13 : what = 13
    · refine lv_tableIn (off := 115) (tgt := 161) hx hb dX4_count_46 (by rw [c_46_13]; decide) (by rw [c_46_13]; decide) (by rw [c_46_13]; rfl) (by decide) ?_
      refine lv_aload_n hx hb dX4_count_161 rfl (lv_at hl 2 rfl) ?_
      refine va_get (D := D) (ci := 3) (v := .ref hh) (C := RX4) (T := TX4) (N := 3) hx hb hts hiX4 hown hK hP 0 rfl rfl 1 (by decide) (hts (.fieldLink RX4 19 "PointerSweep" "history" "LPointerSweep$History;") (by decide +kernel)) (fun _ h9 => h9) rfl dX4_count_162 ?_
      refine va_get (D := D) (ci := 1) (v := .int (nI sz)) (C := RX1) (T := TX1) (N := 3) hx hb hts hiX1 hown hK hP 2 rfl rfl 2 (by decide) (hts (.fieldLink RX4 167 "PointerSweep$History" "size" "I") (by decide +kernel)) (fun _ h9 => h9) rfl dX4_count_165 ?_
      exact xk_iretR hx hb hr hlk (by unfold sp_count; rw [if_neg (fun z => z.1 c_2), if_neg c_46_0, if_neg c_46_1, if_neg c_46_2, if_neg c_46_3, if_neg c_46_4, if_neg c_46_12, if_pos c_46_13]) dX4_count_168
    refine lv_tableOut (tgt := 169) hx hb dX4_count_46 (by have h0 := lv_neT (a := 0) c_46_0 rfl; have h1 := lv_neT (a := 1) c_46_1 rfl; have h2 := lv_neT (a := 2) c_46_2 rfl; have h3 := lv_neT (a := 3) c_46_3 rfl; have h4 := lv_neT (a := 4) c_46_4 rfl; have h12 := lv_neT (a := 12) c_46_12 rfl; have h13 := lv_neT (a := 13) c_46_13 rfl; have hc := Int32.lt_iff_toInt_lt.mp c_2; have e5 : (5 : Int32).toInt = 5 := rfl; omega) (by decide) ?_
    refine lv_iconst (v := (-1)) hx hb dX4_count_169 (by decide) ?_
    exact xk_iretR hx hb hr hlk (by unfold sp_count; rw [if_neg (fun z => z.1 c_2), if_neg c_46_0, if_neg c_46_1, if_neg c_46_2, if_neg c_46_3, if_neg c_46_4, if_neg c_46_12, if_neg c_46_13]) dX4_count_170
  · skip
    refine lv_iload_n hx hb dX4_count_5 rfl (lv_at hl 1 rfl) ?_
    refine lv_bipush (v := 12) hx hb dX4_count_6 (by decide) ?_
    refine lv_icmp_ge (tgt := 23) hx hb dX4_count_8 (by decide) (fun c_8 => ?_) (fun c_8 => ?_)
    · skip
      refine lv_aload_n hx hb dX4_count_23 rfl (lv_at hl 0 rfl) ?_
      refine va_get (D := D) (ci := 3) (v := .ref (ad 0)) (C := RX4) (T := TX4) (N := 3) hx hb hts hiX4 hown hK hP 0 rfl rfl 0 (by decide) (hts (.fieldLink RX4 12 "PointerSweep" "now" "LPointerSweep$State;") (by decide +kernel)) (fun _ h9 => h9) rfl dX4_count_24 ?_
      refine va_get (D := D) (ci := 2) (v := .ref (ad 4)) (C := RX2) (T := TX2) (N := 10) hx hb hts hiX2 hown hK hP 4 rfl rfl 3 (by decide) (hts (.fieldLink RX4 146 "PointerSweep$State" "given" "LPointerSweep$CellMap;") (by decide +kernel)) (fun _ h9 => h9) rfl dX4_count_27 ?_
      refine xk_callR (va_runV (As := []) (rest := []) ⟨hx, hb, hml, hown, hts⟩ (k_size l D cI cJ cS (ad 4) (ad 5) v.2.2.2.1) (cwV 0 hts gX4_count_X0_size rfl rfl rfl (by decide +kernel) ⟨Nat.le_of_ble_eq_true rfl, Nat.le_of_ble_eq_true rfl⟩) (xk_preVr hK hN hP [8, 9] rfl (ci := 0) rfl 0 rfl) rfl rfl hl.1 rfl (lv_room (Nat.le_of_ble_eq_true rfl)) dX4_count_30 ⟨Nat.zero_le _, Nat.zero_le _⟩) ?_
      refine lv_istore_n (lv' := [(2, .int (nI (xs_w v.2.2.2.1 0 256))), (0, .ref h0), (1, .int what)]) hx hb dX4_count_33 rfl hl (by decide) rfl (fun ls hl => ?_)
      refine lv_aload_n hx hb dX4_count_34 rfl (lv_at hl 1 rfl) ?_
      refine va_get (D := D) (ci := 3) (v := .ref (ad 0)) (C := RX4) (T := TX4) (N := 3) hx hb hts hiX4 hown hK hP 0 rfl rfl 0 (by decide) (hts (.fieldLink RX4 12 "PointerSweep" "now" "LPointerSweep$State;") (by decide +kernel)) (fun _ h9 => h9) rfl dX4_count_35 ?_
      refine va_get (D := D) (ci := 2) (v := .ref (ad 6)) (C := RX2) (T := TX2) (N := 10) hx hb hts hiX2 hown hK hP 4 rfl rfl 4 (by decide) (hts (.fieldLink RX4 155 "PointerSweep$State" "quarantined" "LPointerSweep$CellMap;") (by decide +kernel)) (fun _ h9 => h9) rfl dX4_count_38 ?_
      refine xk_callR (va_runV (As := []) (rest := []) ⟨hx, hb, hml, hown, hts⟩ (k_size l D cI cJ cS (ad 6) (ad 7) v.2.2.2.2.1) (cwV 0 hts gX4_count_X0_size rfl rfl rfl (by decide +kernel) ⟨Nat.le_of_ble_eq_true rfl, Nat.le_of_ble_eq_true rfl⟩) (xk_preVr hK hN hP [10, 11] rfl (ci := 0) rfl 0 rfl) rfl rfl hl.1 rfl (lv_room (Nat.le_of_ble_eq_true rfl)) dX4_count_41 ⟨Nat.zero_le _, Nat.zero_le _⟩) ?_
      refine lv_istore_n (lv' := [(3, .int (nI (xs_w v.2.2.2.2.1 0 256))), (2, .int (nI (xs_w v.2.2.2.1 0 256))), (0, .ref h0), (1, .int what)]) hx hb dX4_count_44 rfl hl (by decide) rfl (fun ls hl => ?_)
      refine lv_iload_n hx hb dX4_count_45 rfl (lv_at hl 3 rfl) ?_
      by_cases c_46_0 : what = 0
      · refine lv_tableIn (off := 70) (tgt := 116) hx hb dX4_count_46 (by rw [c_46_0]; decide) (by rw [c_46_0]; decide) (by rw [c_46_0]; rfl) (by decide) ?_
        refine lv_sipush (v := 256) hx hb dX4_count_116 (by decide) ?_
        refine lv_iload_n hx hb dX4_count_119 rfl (lv_at hl 1 rfl) ?_
        refine lv_isub hx hb dX4_count_120 ?_
        refine lv_iload_n hx hb dX4_count_121 rfl (lv_at hl 0 rfl) ?_
        refine lv_isub hx hb dX4_count_122 ?_
        exact xk_iretR hx hb hr hlk (by unfold sp_count; rw [if_neg (fun z => z.2 c_8), if_pos c_46_0]) dX4_count_123
      by_cases c_46_1 : what = 1
      · refine lv_tableIn (off := 78) (tgt := 124) hx hb dX4_count_46 (by rw [c_46_1]; decide) (by rw [c_46_1]; decide) (by rw [c_46_1]; rfl) (by decide) ?_
        refine lv_iload_n hx hb dX4_count_124 rfl (lv_at hl 1 rfl) ?_
        exact xk_iretR hx hb hr hlk (by unfold sp_count; rw [if_neg (fun z => z.2 c_8), if_neg c_46_0, if_pos c_46_1]) dX4_count_125
      by_cases c_46_2 : what = 2
      · refine lv_tableIn (off := 80) (tgt := 126) hx hb dX4_count_46 (by rw [c_46_2]; decide) (by rw [c_46_2]; decide) (by rw [c_46_2]; rfl) (by decide) ?_
        refine lv_iload_n hx hb dX4_count_126 rfl (lv_at hl 0 rfl) ?_
        exact xk_iretR hx hb hr hlk (by unfold sp_count; rw [if_neg (fun z => z.2 c_8), if_neg c_46_0, if_neg c_46_1, if_pos c_46_2]) dX4_count_127
      by_cases c_46_3 : what = 3
      · refine lv_tableIn (off := 82) (tgt := 128) hx hb dX4_count_46 (by rw [c_46_3]; decide) (by rw [c_46_3]; decide) (by rw [c_46_3]; rfl) (by decide) ?_
        refine lv_aload_n hx hb dX4_count_128 rfl (lv_at hl 2 rfl) ?_
        refine va_get (D := D) (ci := 3) (v := .ref (ad 0)) (C := RX4) (T := TX4) (N := 3) hx hb hts hiX4 hown hK hP 0 rfl rfl 0 (by decide) (hts (.fieldLink RX4 12 "PointerSweep" "now" "LPointerSweep$State;") (by decide +kernel)) (fun _ h9 => h9) rfl dX4_count_129 ?_
        refine va_get (D := D) (ci := 2) (v := .ref (ad 8)) (C := RX2) (T := TX2) (N := 10) hx hb hts hiX2 hown hK hP 4 rfl rfl 5 (by decide) (hts (.fieldLink RX4 179 "PointerSweep$State" "doomed" "LPointerSweep$CellMap;") (by decide +kernel)) (fun _ h9 => h9) rfl dX4_count_132 ?_
        refine xk_callR (va_runV (As := []) (rest := []) ⟨hx, hb, hml, hown, hts⟩ (k_size l D cI cJ cS (ad 8) (ad 9) v.2.2.2.2.2.1) (cwV 0 hts gX4_count_X0_size rfl rfl rfl (by decide +kernel) ⟨Nat.le_of_ble_eq_true rfl, Nat.le_of_ble_eq_true rfl⟩) (xk_preVr hK hN hP [12, 13] rfl (ci := 0) rfl 0 rfl) rfl rfl hl.1 rfl (lv_room (Nat.le_of_ble_eq_true rfl)) dX4_count_135 ⟨Nat.zero_le _, Nat.zero_le _⟩) ?_
        exact xk_iretR hx hb hr hlk (by unfold sp_count; rw [if_neg (fun z => z.2 c_8), if_neg c_46_0, if_neg c_46_1, if_neg c_46_2, if_pos c_46_3]) dX4_count_138
      by_cases c_46_4 : what = 4
      · refine lv_tableIn (off := 93) (tgt := 139) hx hb dX4_count_46 (by rw [c_46_4]; decide) (by rw [c_46_4]; decide) (by rw [c_46_4]; rfl) (by decide) ?_
        refine lv_aload_n hx hb dX4_count_139 rfl (lv_at hl 2 rfl) ?_
        refine va_get (D := D) (ci := 3) (v := .ref (ad 0)) (C := RX4) (T := TX4) (N := 3) hx hb hts hiX4 hown hK hP 0 rfl rfl 0 (by decide) (hts (.fieldLink RX4 12 "PointerSweep" "now" "LPointerSweep$State;") (by decide +kernel)) (fun _ h9 => h9) rfl dX4_count_140 ?_
        refine va_get (D := D) (ci := 2) (v := .ref (ad 10)) (C := RX2) (T := TX2) (N := 10) hx hb hts hiX2 hown hK hP 4 rfl rfl 6 (by decide) (hts (.fieldLink RX4 182 "PointerSweep$State" "firsts" "LPointerSweep$CellMap;") (by decide +kernel)) (fun _ h9 => h9) rfl dX4_count_143 ?_
        refine xk_callR (va_runV (As := []) (rest := []) ⟨hx, hb, hml, hown, hts⟩ (k_size l D cI cJ cS (ad 10) (ad 11) v.2.2.2.2.2.2.1) (cwV 0 hts gX4_count_X0_size rfl rfl rfl (by decide +kernel) ⟨Nat.le_of_ble_eq_true rfl, Nat.le_of_ble_eq_true rfl⟩) (xk_preVr hK hN hP [14, 15] rfl (ci := 0) rfl 0 rfl) rfl rfl hl.1 rfl (lv_room (Nat.le_of_ble_eq_true rfl)) dX4_count_146 ⟨Nat.zero_le _, Nat.zero_le _⟩) ?_
        exact xk_iretR hx hb hr hlk (by unfold sp_count; rw [if_neg (fun z => z.2 c_8), if_neg c_46_0, if_neg c_46_1, if_neg c_46_2, if_neg c_46_3, if_pos c_46_4]) dX4_count_149
      by_cases c_46_12 : what = 12
      · refine lv_tableIn (off := 104) (tgt := 150) hx hb dX4_count_46 (by rw [c_46_12]; decide) (by rw [c_46_12]; decide) (by rw [c_46_12]; rfl) (by decide) ?_
        refine lv_aload_n hx hb dX4_count_150 rfl (lv_at hl 2 rfl) ?_
        refine va_get (D := D) (ci := 3) (v := .ref (ad 0)) (C := RX4) (T := TX4) (N := 3) hx hb hts hiX4 hown hK hP 0 rfl rfl 0 (by decide) (hts (.fieldLink RX4 12 "PointerSweep" "now" "LPointerSweep$State;") (by decide +kernel)) (fun _ h9 => h9) rfl dX4_count_151 ?_
        refine va_get (D := D) (ci := 2) (v := .int (xb v.2.2.2.2.2.2.2.1)) (C := RX2) (T := TX2) (N := 10) hx hb hts hiX2 hown hK hP 4 rfl rfl 7 (by decide) (hts (.fieldLink RX4 105 "PointerSweep$State" "sweeping" "Z") (by decide +kernel)) (fun _ h9 => h9) rfl dX4_count_154 ?_
        refine xk_callR (va_runS (As := [.int (xb v.2.2.2.2.2.2.2.1)]) (rest := []) ⟨hx, hb, hml, hown, hts⟩ (k_oneIf l D cI cJ cS v.2.2.2.2.2.2.2.1) (va_cwS 1 hts gX4_count_X4_oneIf rfl rfl rfl (by decide +kernel) ⟨Nat.le_of_ble_eq_true rfl, Nat.le_of_ble_eq_true rfl⟩) (xk_preSr hK hN hP [] rfl) rfl rfl hl.1 rfl (lv_room (Nat.le_of_ble_eq_true rfl)) dX4_count_157 ⟨Nat.zero_le _, Nat.zero_le _⟩) ?_
        exact xk_iretR hx hb hr hlk (by unfold sp_count; rw [if_neg (fun z => z.2 c_8), if_neg c_46_0, if_neg c_46_1, if_neg c_46_2, if_neg c_46_3, if_neg c_46_4, if_pos c_46_12]) dX4_count_160
      by_cases c_46_13 : what = 13
      · refine lv_tableIn (off := 115) (tgt := 161) hx hb dX4_count_46 (by rw [c_46_13]; decide) (by rw [c_46_13]; decide) (by rw [c_46_13]; rfl) (by decide) ?_
        refine lv_aload_n hx hb dX4_count_161 rfl (lv_at hl 2 rfl) ?_
        refine va_get (D := D) (ci := 3) (v := .ref hh) (C := RX4) (T := TX4) (N := 3) hx hb hts hiX4 hown hK hP 0 rfl rfl 1 (by decide) (hts (.fieldLink RX4 19 "PointerSweep" "history" "LPointerSweep$History;") (by decide +kernel)) (fun _ h9 => h9) rfl dX4_count_162 ?_
        refine va_get (D := D) (ci := 1) (v := .int (nI sz)) (C := RX1) (T := TX1) (N := 3) hx hb hts hiX1 hown hK hP 2 rfl rfl 2 (by decide) (hts (.fieldLink RX4 167 "PointerSweep$History" "size" "I") (by decide +kernel)) (fun _ h9 => h9) rfl dX4_count_165 ?_
        exact xk_iretR hx hb hr hlk (by unfold sp_count; rw [if_neg (fun z => z.2 c_8), if_neg c_46_0, if_neg c_46_1, if_neg c_46_2, if_neg c_46_3, if_neg c_46_4, if_neg c_46_12, if_pos c_46_13]) dX4_count_168
      refine lv_tableOut (tgt := 169) hx hb dX4_count_46 (by have h0 := lv_neT (a := 0) c_46_0 rfl; have h1 := lv_neT (a := 1) c_46_1 rfl; have h2 := lv_neT (a := 2) c_46_2 rfl; have h3 := lv_neT (a := 3) c_46_3 rfl; have h4 := lv_neT (a := 4) c_46_4 rfl; have h12 := lv_neT (a := 12) c_46_12 rfl; have h13 := lv_neT (a := 13) c_46_13 rfl; have hc := Int32.le_iff_toInt_le.mp c_8; have e12 : (12 : Int32).toInt = 12 := rfl; omega) (by decide) ?_
      refine lv_iconst (v := (-1)) hx hb dX4_count_169 (by decide) ?_
      exact xk_iretR hx hb hr hlk (by unfold sp_count; rw [if_neg (fun z => z.2 c_8), if_neg c_46_0, if_neg c_46_1, if_neg c_46_2, if_neg c_46_3, if_neg c_46_4, if_neg c_46_12, if_neg c_46_13]) dX4_count_170
    · skip
      obtain ⟨tk, htk, et, hxk⟩ := x_c5 c_2 c_8
      refine lv_aload_n hx hb dX4_count_11 rfl (lv_at hl 0 rfl) ?_
      refine va_get (D := D) (ci := 3) (v := .ref (ad 0)) (C := RX4) (T := TX4) (N := 3) hx hb hts hiX4 hown hK hP 0 rfl rfl 0 (by decide) (hts (.fieldLink RX4 12 "PointerSweep" "now" "LPointerSweep$State;") (by decide +kernel)) (fun _ h9 => h9) rfl dX4_count_12 ?_
      refine va_get (D := D) (ci := 2) (v := .ref (ad 3)) (C := RX2) (T := TX2) (N := 10) hx hb hts hiX2 hown hK hP 4 rfl rfl 2 (by decide) (hts (.fieldLink RX4 173 "PointerSweep$State" "tallies" "[I") (by decide +kernel)) (fun _ h9 => h9) rfl dX4_count_15 ?_
      refine lv_iload_n hx hb dX4_count_18 rfl (lv_at hl 1 rfl) ?_
      refine lv_iconst (v := 5) hx hb dX4_count_19 (by decide) ?_
      refine lv_isub hx hb dX4_count_20 ?_
      refine xa_iald hx hb hK hP 7 0 rfl rfl tk et htk (by decide) dX4_count_21 ?_
      exact xk_iretR hx hb hr hlk (by unfold sp_count; rw [if_pos ⟨c_2, c_8⟩, hxk]) dX4_count_22
end
section
set_option maxHeartbeats 4000000 in
set_option maxRecDepth 100000 in
theorem k_carry (l : Launch) (D : va_G) (cI cJ cS : ClassId) (h0 ca hh ka : Nat) (fk : Nat → Option Nat) (ad : Nat → Nat) (ads : Nat → Nat → Nat) (N4 : Nat) (h4 : N4 = 24) (cr : Nat → Int64) (v : xV) (vs : Nat → xV) (nx sz : Nat) (hka : ∀ i, i < 24 → fk i = some (ads i 0)) (hnx : nx < 24) (hsz : sz ≤ 24) (hv : x_ok v) (a1 b1 nk : Nat) (ha1 : a1 + nk ≤ 256) (hb1 : b1 + nk ≤ 256) (hnk : nk ≤ 64) : xk_Wr l yX4_carry wsX4_carry ({ frames := 4, cells := 0, slots := 0, locals := 91 }) D vwCl (xt cI cJ cS) (xx cI cJ cS h0 ca hh ka fk ad ads N4 cr v vs nx sz) [.ref h0, .int (nI a1), .int (nI b1), .int (nI nk)] (xx cI cJ cS h0 ca hh ka fk ad ads N4 (x_crr v.2.2.2.2.2.1 v.1 b1 cr nk) (x_blk v a1 b1 nk) vs nx sz) none := by
  refine xk_wr2 (cc := cX4_carry) (maxL := 5) (ret := none) (by decide) rfl (Nat.le_of_ble_eq_true rfl) (fun p e s m below meth c ls W0v W1v hW1 hx hb hr hlk hml hown hts hl hP hK hN hD hS => ?_)
  replace hl : lv_has ls 5 [(0, .ref h0), (1, .int (nI a1)), (2, .int (nI b1)), (3, .int (nI nk))] := hl
  have hiX4 : ∀ w ∈ u_ws RX4 TX4 3, w ∈ wsX4_carry := by decide +kernel
  replace hP : va_P D vwCl ([(h0, .inr (3, [.ref (ad 0), .ref hh, .ref ca])), (ca, .inl (cJ, 64, .inr (.inl cr))), (hh, .inr (1, [.ref ka, .int (nI nx), .int (nI sz)])), (ka, .inl (cS, 24, .inr (.inr (.inr (.inr fk)))))] ++ (xst cI cJ ad v ++ xpl cI cJ ads vs N4)) s.heap := hP
  replace hD : va_D _ ([(h0, .inr (3, [.ref (ad 0), .ref hh, .ref ca])), (ca, .inl (cJ, 64, .inr (.inl cr))), (hh, .inr (1, [.ref ka, .int (nI nx), .int (nI sz)])), (ka, .inl (cS, 24, .inr (.inr (.inr (.inr fk)))))] ++ (xst cI cJ ad v ++ xpl cI cJ ads vs N4)) := hD
  have loop2 : ∀ (n i : Nat) (H : Heap) (locs : List Loc) (ls : Array Slot), i + n = nk → va_P D vwCl ([(h0, .inr (3, [.ref (ad 0), .ref hh, .ref ca])), (ca, .inl (cJ, 64, .inr (.inl (x_crr v.2.2.2.2.2.1 v.1 b1 cr nk)))), (hh, .inr (1, [.ref ka, .int (nI nx), .int (nI sz)])), (ka, .inl (cS, 24, .inr (.inr (.inr (.inr fk)))))] ++ (xst cI cJ ad ((x_mov v.2.2.2.2.2.1 v.1 a1 b1 i), v.2.1, (x_tks v.2.2.2.2.2.1 v.1 b1 v.2.2.1 nk), v.2.2.2.1, v.2.2.2.2.1, v.2.2.2.2.2.1, v.2.2.2.2.2.2.1, v.2.2.2.2.2.2.2.1, v.2.2.2.2.2.2.2.2.1, (x_dks v.2.2.2.2.2.2.2.2.1 v.2.2.2.2.2.1 v.1 a1 b1 v.2.2.2.2.2.2.2.2.2 i)) ++ xpl cI cJ ads vs N4)) H → va_D (xk_in W0v) ([(h0, .inr (3, [.ref (ad 0), .ref hh, .ref ca])), (ca, .inl (cJ, 64, .inr (.inl (x_crr v.2.2.2.2.2.1 v.1 b1 cr nk)))), (hh, .inr (1, [.ref ka, .int (nI nx), .int (nI sz)])), (ka, .inl (cS, 24, .inr (.inr (.inr (.inr fk)))))] ++ (xst cI cJ ad ((x_mov v.2.2.2.2.2.1 v.1 a1 b1 i), v.2.1, (x_tks v.2.2.2.2.2.1 v.1 b1 v.2.2.1 nk), v.2.2.2.1, v.2.2.2.2.1, v.2.2.2.2.2.1, v.2.2.2.2.2.2.1, v.2.2.2.2.2.2.2.1, v.2.2.2.2.2.2.2.2.1, (x_dks v.2.2.2.2.2.2.2.2.1 v.2.2.2.2.2.1 v.1 a1 b1 v.2.2.2.2.2.2.2.2.2 i)) ++ xpl cI cJ ads vs N4)) → va_S (xk_in W0v) s.heap H locs → lv_has ls 5 [(4, .int (nI i)), (0, .ref h0), (1, .int (nI a1)), (2, .int (nI b1)), (3, .int (nI nk))] → W p l e ({ frames := 4, cells := 0, slots := 0, locals := 91 }) s m ([.ref h0, .int (nI a1), .int (nI b1), .int (nI nk)]).toArray below meth c H locs 0 0 (MQ below (xk_W D vwCl W0v W1v none) ([.ref h0, .int (nI a1), .int (nI b1), .int (nI nk)]).toArray s 0 0 (xk_in W0v)) (F0 m 36 ls []) := by
    intro n
    induction n with
    | zero =>
      intro i H locs ls hn hP hD hS hl
      have hin : i = nk := hn
      refine lv_iload hx hb dX4_carry_36 (lv_at hl 0 rfl) ?_
      refine lv_iload_n hx hb dX4_carry_38 rfl (lv_at hl 4 rfl) ?_
      refine lv_icmp_ge (tgt := 66) hx hb dX4_carry_39 (by decide) (fun c_39 => ?_) (fun c_39 => ?_)
      · skip
        exact xk_vretW hx hb hr hlk hP hS (by rw [← hW1, hin]; rfl) dX4_carry_66
      · skip
        exact absurd (nI_le (a := nk) (b := i) (by omega) (by omega)) c_39
    | succ n ih =>
      intro i H locs ls hn hP hD hS hl
      refine lv_iload hx hb dX4_carry_36 (lv_at hl 0 rfl) ?_
      refine lv_iload_n hx hb dX4_carry_38 rfl (lv_at hl 4 rfl) ?_
      refine lv_icmp_ge (tgt := 66) hx hb dX4_carry_39 (by decide) (fun c_39 => ?_) (fun c_39 => ?_)
      · skip
        exact absurd (xn_le_of (by omega) (by omega) c_39) (by omega)
      · skip
        refine lv_aload_n hx hb dX4_carry_42 rfl (lv_at hl 1 rfl) ?_
        refine va_get (D := D) (ci := 3) (v := .ref (ad 0)) (C := RX4) (T := TX4) (N := 3) hx hb hts hiX4 hown hK hP 0 rfl rfl 0 (by decide) (hts (.fieldLink RX4 12 "PointerSweep" "now" "LPointerSweep$State;") (by decide +kernel)) (fun _ h9 => h9) rfl dX4_carry_43 ?_
        refine lv_iload_n hx hb dX4_carry_46 rfl (lv_at hl 2 rfl) ?_
        refine lv_iload hx hb dX4_carry_47 (lv_at hl 0 rfl) ?_
        refine lv_iadd hx hb dX4_carry_49 ?_
        refine lv_topi (fun y ey => ?_)
        obtain rfl : y = nI (a1 + i) := ey.trans (nI_add _ _)
        refine lv_aload_n hx hb dX4_carry_50 rfl (lv_at hl 1 rfl) ?_
        refine va_get (D := D) (ci := 3) (v := .ref ca) (C := RX4) (T := TX4) (N := 3) hx hb hts hiX4 hown hK hP 0 rfl rfl 2 (by decide) (hts (.fieldLink RX4 23 "PointerSweep" "carried" "[J") (by decide +kernel)) (fun _ h9 => h9) rfl dX4_carry_51 ?_
        refine lv_iload hx hb dX4_carry_54 (lv_at hl 0 rfl) ?_
        refine xa_lald hx hb hK hP 1 1 rfl rfl i rfl (by omega) (by decide) dX4_carry_56 ?_
        refine lv_topl (fun y ey => ?_)
        obtain rfl : y = xw_enc (x_lk v.2.2.2.2.2.1 (v.1 (b1 + i))) := ey.trans (x_crr_at (by omega))
        refine xk_callM (va_runV (As := [.int (nI (a1 + i)), .long (xw_enc (x_lk v.2.2.2.2.2.1 (v.1 (b1 + i))))]) (rest := []) ⟨hx, hb, hml, hown, hts⟩ (k_layDownF l D cI cJ cS ad ((x_mov v.2.2.2.2.2.1 v.1 a1 b1 i), v.2.1, (x_tks v.2.2.2.2.2.1 v.1 b1 v.2.2.1 nk), v.2.2.2.1, v.2.2.2.2.1, v.2.2.2.2.2.1, v.2.2.2.2.2.2.1, v.2.2.2.2.2.2.2.1, v.2.2.2.2.2.2.2.2.1, (x_dks v.2.2.2.2.2.2.2.2.1 v.2.2.2.2.2.1 v.1 a1 b1 v.2.2.2.2.2.2.2.2.2 i)) hv.2.2 (a1 + i) (by omega) (x_lk v.2.2.2.2.2.1 (v.1 (b1 + i))) (x_lk_ok (x_ok_m hv _))) (cwV 2 hts gX4_carry_X2_layDown rfl rfl rfl (by decide +kernel) ⟨Nat.le_of_ble_eq_true rfl, Nat.le_of_ble_eq_true rfl⟩) (xk_preVm hK hN hP hD (ci := 2) rfl 0 rfl) rfl rfl hl.1 rfl (lv_room (Nat.le_of_ble_eq_true rfl)) dX4_carry_57 ⟨Nat.zero_le _, Nat.zero_le _⟩) hP hD hS rfl (fun H locs hP hD hS => ?_)
        replace hP : va_P D vwCl ([(h0, .inr (3, [.ref (ad 0), .ref hh, .ref ca])), (ca, .inl (cJ, 64, .inr (.inl (x_crr v.2.2.2.2.2.1 v.1 b1 cr nk)))), (hh, .inr (1, [.ref ka, .int (nI nx), .int (nI sz)])), (ka, .inl (cS, 24, .inr (.inr (.inr (.inr fk)))))] ++ (xst cI cJ ad ((va_up (x_mov v.2.2.2.2.2.1 v.1 a1 b1 i) (a1 + i) (x_lk v.2.2.2.2.2.1 (v.1 (b1 + i)))), v.2.1, (x_tks v.2.2.2.2.2.1 v.1 b1 v.2.2.1 nk), v.2.2.2.1, v.2.2.2.2.1, v.2.2.2.2.2.1, v.2.2.2.2.2.2.1, v.2.2.2.2.2.2.2.1, v.2.2.2.2.2.2.2.2.1, (x_dk v.2.2.2.2.2.2.2.2.1 (x_lk v.2.2.2.2.2.1 (v.1 (b1 + i))) (a1 + i) (x_dks v.2.2.2.2.2.2.2.2.1 v.2.2.2.2.2.1 v.1 a1 b1 v.2.2.2.2.2.2.2.2.2 i))) ++ xpl cI cJ ads vs N4)) H := hP
        replace hD : va_D _ ([(h0, .inr (3, [.ref (ad 0), .ref hh, .ref ca])), (ca, .inl (cJ, 64, .inr (.inl (x_crr v.2.2.2.2.2.1 v.1 b1 cr nk)))), (hh, .inr (1, [.ref ka, .int (nI nx), .int (nI sz)])), (ka, .inl (cS, 24, .inr (.inr (.inr (.inr fk)))))] ++ (xst cI cJ ad ((va_up (x_mov v.2.2.2.2.2.1 v.1 a1 b1 i) (a1 + i) (x_lk v.2.2.2.2.2.1 (v.1 (b1 + i)))), v.2.1, (x_tks v.2.2.2.2.2.1 v.1 b1 v.2.2.1 nk), v.2.2.2.1, v.2.2.2.2.1, v.2.2.2.2.2.1, v.2.2.2.2.2.2.1, v.2.2.2.2.2.2.2.1, v.2.2.2.2.2.2.2.2.1, (x_dk v.2.2.2.2.2.2.2.2.1 (x_lk v.2.2.2.2.2.1 (v.1 (b1 + i))) (a1 + i) (x_dks v.2.2.2.2.2.2.2.2.1 v.2.2.2.2.2.1 v.1 a1 b1 v.2.2.2.2.2.2.2.2.2 i))) ++ xpl cI cJ ads vs N4)) := hD
        refine lv_iinc (v := (nI (i + 1))) (lv' := [(4, .int (nI (i + 1))), (0, .ref h0), (1, .int (nI a1)), (2, .int (nI b1)), (3, .int (nI nk))]) hx hb dX4_carry_60 hl (k := 0) rfl (nI_1 i) (by decide) rfl (fun ls hl => ?_)
        refine lv_goto (tgt := 36) hx hb dX4_carry_63 (by decide) ?_
        rw [x_mov_s] at hP hD
        exact ih (i + 1) H locs ls (by omega) hP hD hS (lv_sub hl [0, 1, 2, 3, 4] rfl)
  have loop1 : ∀ (n i : Nat) (H : Heap) (locs : List Loc) (ls : Array Slot), i + n = nk → va_P D vwCl ([(h0, .inr (3, [.ref (ad 0), .ref hh, .ref ca])), (ca, .inl (cJ, 64, .inr (.inl (x_crr v.2.2.2.2.2.1 v.1 b1 cr i)))), (hh, .inr (1, [.ref ka, .int (nI nx), .int (nI sz)])), (ka, .inl (cS, 24, .inr (.inr (.inr (.inr fk)))))] ++ (xst cI cJ ad (v.1, v.2.1, (x_tks v.2.2.2.2.2.1 v.1 b1 v.2.2.1 i), v.2.2.2.1, v.2.2.2.2.1, v.2.2.2.2.2.1, v.2.2.2.2.2.2.1, v.2.2.2.2.2.2.2.1, v.2.2.2.2.2.2.2.2.1, v.2.2.2.2.2.2.2.2.2) ++ xpl cI cJ ads vs N4)) H → va_D (xk_in W0v) ([(h0, .inr (3, [.ref (ad 0), .ref hh, .ref ca])), (ca, .inl (cJ, 64, .inr (.inl (x_crr v.2.2.2.2.2.1 v.1 b1 cr i)))), (hh, .inr (1, [.ref ka, .int (nI nx), .int (nI sz)])), (ka, .inl (cS, 24, .inr (.inr (.inr (.inr fk)))))] ++ (xst cI cJ ad (v.1, v.2.1, (x_tks v.2.2.2.2.2.1 v.1 b1 v.2.2.1 i), v.2.2.2.1, v.2.2.2.2.1, v.2.2.2.2.2.1, v.2.2.2.2.2.2.1, v.2.2.2.2.2.2.2.1, v.2.2.2.2.2.2.2.2.1, v.2.2.2.2.2.2.2.2.2) ++ xpl cI cJ ads vs N4)) → va_S (xk_in W0v) s.heap H locs → lv_has ls 5 [(4, .int (nI i)), (0, .ref h0), (1, .int (nI a1)), (2, .int (nI b1)), (3, .int (nI nk))] → W p l e ({ frames := 4, cells := 0, slots := 0, locals := 91 }) s m ([.ref h0, .int (nI a1), .int (nI b1), .int (nI nk)]).toArray below meth c H locs 0 0 (MQ below (xk_W D vwCl W0v W1v none) ([.ref h0, .int (nI a1), .int (nI b1), .int (nI nk)]).toArray s 0 0 (xk_in W0v)) (F0 m 3 ls []) := by
    intro n
    induction n with
    | zero =>
      intro i H locs ls hn hP hD hS hl
      have hin : i = nk := hn
      refine lv_iload hx hb dX4_carry_3 (lv_at hl 0 rfl) ?_
      refine lv_iload_n hx hb dX4_carry_5 rfl (lv_at hl 4 rfl) ?_
      refine lv_icmp_ge (tgt := 33) hx hb dX4_carry_6 (by decide) (fun c_6 => ?_) (fun c_6 => ?_)
      · skip
        refine lv_iconst (v := 0) hx hb dX4_carry_33 (by decide) ?_
        refine lv_istore (lv' := [(4, .int 0), (0, .ref h0), (1, .int (nI a1)), (2, .int (nI b1)), (3, .int (nI nk))]) hx hb dX4_carry_34 hl (by decide) rfl (fun ls hl => ?_)
        refine loop2 nk 0 H locs ls (by omega) ?_ ?_ hS (lv_sub hl [0, 1, 2, 3, 4] rfl)
        · rw [x_mov_0]; rw [hin] at hP; exact hP
        · rw [x_mov_0]; rw [hin] at hD; exact hD
      · skip
        exact absurd (nI_le (a := nk) (b := i) (by omega) (by omega)) c_6
    | succ n ih =>
      intro i H locs ls hn hP hD hS hl
      refine lv_iload hx hb dX4_carry_3 (lv_at hl 0 rfl) ?_
      refine lv_iload_n hx hb dX4_carry_5 rfl (lv_at hl 4 rfl) ?_
      refine lv_icmp_ge (tgt := 33) hx hb dX4_carry_6 (by decide) (fun c_6 => ?_) (fun c_6 => ?_)
      · skip
        exact absurd (xn_le_of (by omega) (by omega) c_6) (by omega)
      · skip
        refine lv_aload_n hx hb dX4_carry_9 rfl (lv_at hl 1 rfl) ?_
        refine va_get (D := D) (ci := 3) (v := .ref ca) (C := RX4) (T := TX4) (N := 3) hx hb hts hiX4 hown hK hP 0 rfl rfl 2 (by decide) (hts (.fieldLink RX4 23 "PointerSweep" "carried" "[J") (by decide +kernel)) (fun _ h9 => h9) rfl dX4_carry_10 ?_
        refine lv_iload hx hb dX4_carry_13 (lv_at hl 0 rfl) ?_
        refine lv_aload_n hx hb dX4_carry_15 rfl (lv_at hl 1 rfl) ?_
        refine va_get (D := D) (ci := 3) (v := .ref (ad 0)) (C := RX4) (T := TX4) (N := 3) hx hb hts hiX4 hown hK hP 0 rfl rfl 0 (by decide) (hts (.fieldLink RX4 12 "PointerSweep" "now" "LPointerSweep$State;") (by decide +kernel)) (fun _ h9 => h9) rfl dX4_carry_16 ?_
        refine lv_iload_n hx hb dX4_carry_19 rfl (lv_at hl 3 rfl) ?_
        refine lv_iload hx hb dX4_carry_20 (lv_at hl 0 rfl) ?_
        refine lv_iadd hx hb dX4_carry_22 ?_
        refine lv_topi (fun y ey => ?_)
        obtain rfl : y = nI (b1 + i) := ey.trans (nI_add _ _)
        refine xk_callM (va_runV (As := [.int (nI (b1 + i))]) (rest := [.int (nI i), .ref ca]) ⟨hx, hb, hml, hown, hts⟩ (k_lookUpF l D cI cJ cS ad (v.1, v.2.1, (x_tks v.2.2.2.2.2.1 v.1 b1 v.2.2.1 i), v.2.2.2.1, v.2.2.2.2.1, v.2.2.2.2.2.1, v.2.2.2.2.2.2.1, v.2.2.2.2.2.2.2.1, v.2.2.2.2.2.2.2.2.1, v.2.2.2.2.2.2.2.2.2) (x_ok_m hv) (b1 + i) (by omega)) (cwV 1 hts gX4_carry_X2_lookUp rfl rfl rfl (by decide +kernel) ⟨Nat.le_of_ble_eq_true rfl, Nat.le_of_ble_eq_true rfl⟩) (xk_preVm hK hN hP hD (ci := 2) rfl 0 rfl) rfl rfl hl.1 rfl (lv_room (Nat.le_of_ble_eq_true rfl)) dX4_carry_23 ⟨Nat.zero_le _, Nat.zero_le _⟩) hP hD hS rfl (fun H locs hP hD hS => ?_)
        replace hP : va_P D vwCl ([(h0, .inr (3, [.ref (ad 0), .ref hh, .ref ca])), (ca, .inl (cJ, 64, .inr (.inl (x_crr v.2.2.2.2.2.1 v.1 b1 cr i)))), (hh, .inr (1, [.ref ka, .int (nI nx), .int (nI sz)])), (ka, .inl (cS, 24, .inr (.inr (.inr (.inr fk)))))] ++ (xst cI cJ ad (v.1, v.2.1, (x_tk v.2.2.2.2.2.1 (v.1 (b1 + i)) (x_tks v.2.2.2.2.2.1 v.1 b1 v.2.2.1 i)), v.2.2.2.1, v.2.2.2.2.1, v.2.2.2.2.2.1, v.2.2.2.2.2.2.1, v.2.2.2.2.2.2.2.1, v.2.2.2.2.2.2.2.2.1, v.2.2.2.2.2.2.2.2.2) ++ xpl cI cJ ads vs N4)) H := hP
        replace hD : va_D _ ([(h0, .inr (3, [.ref (ad 0), .ref hh, .ref ca])), (ca, .inl (cJ, 64, .inr (.inl (x_crr v.2.2.2.2.2.1 v.1 b1 cr i)))), (hh, .inr (1, [.ref ka, .int (nI nx), .int (nI sz)])), (ka, .inl (cS, 24, .inr (.inr (.inr (.inr fk)))))] ++ (xst cI cJ ad (v.1, v.2.1, (x_tk v.2.2.2.2.2.1 (v.1 (b1 + i)) (x_tks v.2.2.2.2.2.1 v.1 b1 v.2.2.1 i)), v.2.2.2.1, v.2.2.2.2.1, v.2.2.2.2.2.1, v.2.2.2.2.2.2.1, v.2.2.2.2.2.2.2.1, v.2.2.2.2.2.2.2.2.1, v.2.2.2.2.2.2.2.2.2) ++ xpl cI cJ ads vs N4)) := hD
        refine xa_last (ws' := [(h0, .inr (3, [.ref (ad 0), .ref hh, .ref ca])), (ca, .inl (cJ, 64, .inr (.inl (vp_updL (x_crr v.2.2.2.2.2.1 v.1 b1 cr i) i (xw_enc (x_lk v.2.2.2.2.2.1 (v.1 (b1 + i)))))))), (hh, .inr (1, [.ref ka, .int (nI nx), .int (nI sz)])), (ka, .inl (cS, 24, .inr (.inr (.inr (.inr fk)))))] ++ (xst cI cJ ad (v.1, v.2.1, (x_tk v.2.2.2.2.2.1 (v.1 (b1 + i)) (x_tks v.2.2.2.2.2.1 v.1 b1 v.2.2.1 i)), v.2.2.2.1, v.2.2.2.2.1, v.2.2.2.2.2.1, v.2.2.2.2.2.2.1, v.2.2.2.2.2.2.2.1, v.2.2.2.2.2.2.2.2.1, v.2.2.2.2.2.2.2.2.2) ++ xpl cI cJ ads vs N4)) hx hb hK hP hD hS 1 1 rfl rfl i rfl (by omega) (by decide) dX4_carry_26 rfl (fun H locs hP hD hS => ?_)
        rw [x_crr_s] at hP hD
        refine lv_iinc (v := (nI (i + 1))) (lv' := [(4, .int (nI (i + 1))), (0, .ref h0), (1, .int (nI a1)), (2, .int (nI b1)), (3, .int (nI nk))]) hx hb dX4_carry_27 hl (k := 0) rfl (nI_1 i) (by decide) rfl (fun ls hl => ?_)
        refine lv_goto (tgt := 3) hx hb dX4_carry_30 (by decide) ?_
        exact ih (i + 1) H locs ls (by omega) hP hD hS (lv_sub hl [0, 1, 2, 3, 4] rfl)
  refine lv_iconst (v := 0) hx hb dX4_carry_0 (by decide) ?_
  refine lv_istore (lv' := [(4, .int 0), (0, .ref h0), (1, .int (nI a1)), (2, .int (nI b1)), (3, .int (nI nk))]) hx hb dX4_carry_1 hl (by decide) rfl (fun ls hl => ?_)
  refine loop1 nk 0 s.heap [] ls (by omega) ?_ ?_ hS (lv_sub hl [0, 1, 2, 3, 4] rfl)
  · rw [x_crr_0]; exact hP
  · rw [x_crr_0]; exact hD
end
