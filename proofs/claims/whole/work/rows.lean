section
-- ===== PART A: goes FIRST, ahead of the names: the tables' words, and 'selects' of the private methods out of them =====
/-- a private method of a class that the tables say can be made, by its rows of tables_1 -/
def lw_okq (q : MethodName × Nat) : Prop := (q.1.cls ≠ "java/lang/invoke/MethodHandle" ∧ q.1.cls ≠ "java/lang/invoke/VarHandle") ∧ Cond.instantiable q.1.cls q.2 ∈ tables_1 ∧ Cond.privateMethod q.1 ∈ tables_1 ∧ Cond.instanceMethod q.1 ∈ tables_1
theorem lw_p0 : lw_okq (⟨"PropStore", "find", "(I)LPropStore$Prop;"⟩, 10) := ⟨⟨by decide +kernel, by decide +kernel⟩, List.mem_of_getElem? (i := 9) (by decide +kernel), List.mem_of_getElem? (i := 131) (by decide +kernel), List.mem_of_getElem? (i := 132) (by decide +kernel)⟩
theorem lw_p1 : lw_okq (⟨"PropStore$Numbers", "cut", "(I)J"⟩, 3) := ⟨⟨by decide +kernel, by decide +kernel⟩, List.mem_of_getElem? (i := 114) (by decide +kernel), List.mem_of_getElem? (i := 139) (by decide +kernel), List.mem_of_getElem? (i := 140) (by decide +kernel)⟩
theorem lw_p2 : lw_okq (⟨"PropStore", "perform", "(LPropStore$Cue;)I"⟩, 10) := ⟨⟨by decide +kernel, by decide +kernel⟩, List.mem_of_getElem? (i := 9) (by decide +kernel), List.mem_of_getElem? (i := 203) (by decide +kernel), List.mem_of_getElem? (i := 204) (by decide +kernel)⟩
theorem lw_p3 : lw_okq (⟨"PropStore", "showProp", "(LPropStore$Prop;I)I"⟩, 10) := ⟨⟨by decide +kernel, by decide +kernel⟩, List.mem_of_getElem? (i := 9) (by decide +kernel), List.mem_of_getElem? (i := 212) (by decide +kernel), List.mem_of_getElem? (i := 213) (by decide +kernel)⟩
theorem lw_p4 : lw_okq (⟨"PropStore", "takePart", "(LPropStore$Prop;I)I"⟩, 10) := ⟨⟨by decide +kernel, by decide +kernel⟩, List.mem_of_getElem? (i := 9) (by decide +kernel), List.mem_of_getElem? (i := 254) (by decide +kernel), List.mem_of_getElem? (i := 255) (by decide +kernel)⟩
theorem lw_p5 : lw_okq (⟨"PropStore", "layPart", "(LPropStore$Prop;II)I"⟩, 10) := ⟨⟨by decide +kernel, by decide +kernel⟩, List.mem_of_getElem? (i := 9) (by decide +kernel), List.mem_of_getElem? (i := 262) (by decide +kernel), List.mem_of_getElem? (i := 263) (by decide +kernel)⟩
theorem lw_p6 : lw_okq (⟨"PropStoreModel", "isProp", "(I)Z"⟩, 17) := ⟨⟨by decide +kernel, by decide +kernel⟩, List.mem_of_getElem? (i := 295) (by decide +kernel), List.mem_of_getElem? (i := 368) (by decide +kernel), List.mem_of_getElem? (i := 369) (by decide +kernel)⟩
theorem lw_p7 : lw_okq (⟨"PropStoreModel", "many", "(I)I"⟩, 17) := ⟨⟨by decide +kernel, by decide +kernel⟩, List.mem_of_getElem? (i := 295) (by decide +kernel), List.mem_of_getElem? (i := 372) (by decide +kernel), List.mem_of_getElem? (i := 373) (by decide +kernel)⟩
theorem lw_p8 : lw_okq (⟨"PropStoreModel", "done", "(I)I"⟩, 17) := ⟨⟨by decide +kernel, by decide +kernel⟩, List.mem_of_getElem? (i := 295) (by decide +kernel), List.mem_of_getElem? (i := 413) (by decide +kernel), List.mem_of_getElem? (i := 414) (by decide +kernel)⟩
theorem lw_p9 : lw_okq (⟨"PropStoreModel", "goes", "(II)Z"⟩, 17) := ⟨⟨by decide +kernel, by decide +kernel⟩, List.mem_of_getElem? (i := 295) (by decide +kernel), List.mem_of_getElem? (i := 417) (by decide +kernel), List.mem_of_getElem? (i := 418) (by decide +kernel)⟩
theorem lw_p10 : lw_okq (⟨"PropStoreModel", "worthOf", "(II)J"⟩, 17) := ⟨⟨by decide +kernel, by decide +kernel⟩, List.mem_of_getElem? (i := 295) (by decide +kernel), List.mem_of_getElem? (i := 424) (by decide +kernel), List.mem_of_getElem? (i := 425) (by decide +kernel)⟩
theorem lw_p11 : lw_okq (⟨"PropStoreModel", "worthOfNumbers", "(I)J"⟩, 17) := ⟨⟨by decide +kernel, by decide +kernel⟩, List.mem_of_getElem? (i := 295) (by decide +kernel), List.mem_of_getElem? (i := 428) (by decide +kernel), List.mem_of_getElem? (i := 429) (by decide +kernel)⟩
theorem lw_p12 : lw_okq (⟨"PropStoreModel", "worthOfOne", "(II)J"⟩, 17) := ⟨⟨by decide +kernel, by decide +kernel⟩, List.mem_of_getElem? (i := 295) (by decide +kernel), List.mem_of_getElem? (i := 432) (by decide +kernel), List.mem_of_getElem? (i := 433) (by decide +kernel)⟩
theorem lw_p13 : lw_okq (⟨"PropStoreModel", "worthOfRow", "(II)J"⟩, 17) := ⟨⟨by decide +kernel, by decide +kernel⟩, List.mem_of_getElem? (i := 295) (by decide +kernel), List.mem_of_getElem? (i := 439) (by decide +kernel), List.mem_of_getElem? (i := 440) (by decide +kernel)⟩
theorem lw_p14 : lw_okq (⟨"PropStoreModel", "wearAll", "(I)V"⟩, 17) := ⟨⟨by decide +kernel, by decide +kernel⟩, List.mem_of_getElem? (i := 295) (by decide +kernel), List.mem_of_getElem? (i := 446) (by decide +kernel), List.mem_of_getElem? (i := 447) (by decide +kernel)⟩
theorem lw_p15 : lw_okq (⟨"PropStoreModel", "wearRow", "(I)V"⟩, 17) := ⟨⟨by decide +kernel, by decide +kernel⟩, List.mem_of_getElem? (i := 295) (by decide +kernel), List.mem_of_getElem? (i := 450) (by decide +kernel), List.mem_of_getElem? (i := 451) (by decide +kernel)⟩
def lw_privs_1 : List (MethodName × Nat) := [(⟨"PropStore", "find", "(I)LPropStore$Prop;"⟩, 10), (⟨"PropStore$Numbers", "cut", "(I)J"⟩, 3), (⟨"PropStore", "perform", "(LPropStore$Cue;)I"⟩, 10), (⟨"PropStore", "showProp", "(LPropStore$Prop;I)I"⟩, 10), (⟨"PropStore", "takePart", "(LPropStore$Prop;I)I"⟩, 10), (⟨"PropStore", "layPart", "(LPropStore$Prop;II)I"⟩, 10), (⟨"PropStoreModel", "isProp", "(I)Z"⟩, 17), (⟨"PropStoreModel", "many", "(I)I"⟩, 17), (⟨"PropStoreModel", "done", "(I)I"⟩, 17), (⟨"PropStoreModel", "goes", "(II)Z"⟩, 17), (⟨"PropStoreModel", "worthOf", "(II)J"⟩, 17), (⟨"PropStoreModel", "worthOfNumbers", "(I)J"⟩, 17), (⟨"PropStoreModel", "worthOfOne", "(II)J"⟩, 17), (⟨"PropStoreModel", "worthOfRow", "(II)J"⟩, 17), (⟨"PropStoreModel", "wearAll", "(I)V"⟩, 17), (⟨"PropStoreModel", "wearRow", "(I)V"⟩, 17)]
theorem lw_r1 : ∀ q ∈ lw_privs_1, lw_okq q := List.forall_mem_cons.mpr ⟨lw_p0, List.forall_mem_cons.mpr ⟨lw_p1, List.forall_mem_cons.mpr ⟨lw_p2, List.forall_mem_cons.mpr ⟨lw_p3, List.forall_mem_cons.mpr ⟨lw_p4, List.forall_mem_cons.mpr ⟨lw_p5, List.forall_mem_cons.mpr ⟨lw_p6, List.forall_mem_cons.mpr ⟨lw_p7, List.forall_mem_cons.mpr ⟨lw_p8, List.forall_mem_cons.mpr ⟨lw_p9, List.forall_mem_cons.mpr ⟨lw_p10, List.forall_mem_cons.mpr ⟨lw_p11, List.forall_mem_cons.mpr ⟨lw_p12, List.forall_mem_cons.mpr ⟨lw_p13, List.forall_mem_cons.mpr ⟨lw_p14, List.forall_mem_cons.mpr ⟨lw_p15, fun _ h => absurd h List.not_mem_nil⟩⟩⟩⟩⟩⟩⟩⟩⟩⟩⟩⟩⟩⟩⟩⟩
theorem lw_p16 : lw_okq (⟨"PropStoreModel", "take", "(II)I"⟩, 17) := ⟨⟨by decide +kernel, by decide +kernel⟩, List.mem_of_getElem? (i := 295) (by decide +kernel), List.mem_of_getElem? (i := 454) (by decide +kernel), List.mem_of_getElem? (i := 455) (by decide +kernel)⟩
theorem lw_p17 : lw_okq (⟨"PropStoreModel", "lay", "(III)I"⟩, 17) := ⟨⟨by decide +kernel, by decide +kernel⟩, List.mem_of_getElem? (i := 295) (by decide +kernel), List.mem_of_getElem? (i := 458) (by decide +kernel), List.mem_of_getElem? (i := 459) (by decide +kernel)⟩
def lw_privs_2 : List (MethodName × Nat) := [(⟨"PropStoreModel", "take", "(II)I"⟩, 17), (⟨"PropStoreModel", "lay", "(III)I"⟩, 17)]
theorem lw_r2 : ∀ q ∈ lw_privs_2, lw_okq q := List.forall_mem_cons.mpr ⟨lw_p16, List.forall_mem_cons.mpr ⟨lw_p17, fun _ h => absurd h List.not_mem_nil⟩⟩
def lw_privs : List (MethodName × Nat) := lw_privs_1 ++ (lw_privs_2)
def lw_tbl : List Cond := k2_sels lw_privs ++ tables_1
theorem lw_privs_ok : ∀ q ∈ lw_privs, lw_okq q := by
  show ∀ q ∈ lw_privs_1 ++ (lw_privs_2), lw_okq q
  exact List.forall_mem_append.mpr ⟨lw_r1, lw_r2⟩
-- ===== end of PART A; then your names; then what follows =====
/-! ===== BEGIN words of one list among another's, by their places ===== -/
theorem goodIn_r {big : List Cond} (ws : List Cond) (ps : List Nat) (hp : ws = ps.filterMap (fun i => big[i]?)) (h : ws.all goodWord = true) : GoodIn big ws := by
  intro w hw
  have h1 := List.all_eq_true.mp h w hw
  rw [hp] at hw
  obtain ⟨i, -, hi⟩ := List.mem_filterMap.mp hw
  have hm : w ∈ big := by first | exact List.mem_of_getElem? hi | exact List.getElem?_mem hi
  exact ⟨hm, good_of_word h1⟩
theorem goodIn_app {big a b : List Cond} (ha : GoodIn big a) (hb : GoodIn big b) : GoodIn big (a ++ b) := fun w h => (List.mem_append.mp h).elim (ha w) (hb w)
theorem goodIn_ca {big a b : List Cond} {c : Cond} (ha : GoodIn big (c :: a)) (hb : GoodIn big b) : GoodIn big (c :: (a ++ b)) := fun w h => (List.mem_cons.mp h).elim (fun e => ha w (List.mem_cons.mpr (Or.inl e))) (fun h => (List.mem_append.mp h).elim (fun h => ha w (List.mem_cons.mpr (Or.inr h))) (hb w))
theorem goodIn_sub {big ws : List Cond} (hm : ∀ w ∈ ws, w ∈ big) (h : ws.all goodWord = true) : GoodIn big ws := fun w hw => ⟨hm w hw, good_of_word (List.all_eq_true.mp h w hw)⟩
/-! ===== END ===== -/

/-! ===== BEGIN printed: names, fields, word lists, decode rows ===== -/
def RX0 : String := "PropStore$Cue"
def TX0 : u_T := fun k => match k with
  | 0 => ("PropStore$Cue", "act", "I", true)
  | 1 => ("PropStore$Cue", "slot", "I", true)
  | 2 => ("PropStore$Cue", "view", "I", true)
  | _ => ("PropStore$Cue", "i", "I", true)
def tyX0 : Nat → FieldType := fun k => match k with
  | 0 => .int
  | 1 => .int
  | 2 => .int
  | _ => .int
abbrev wsX00 : List Cond := u_ws RX0 TX0 4
theorem nmX0 : ∀ a, a < 4 → ∀ b, b < 4 → a ≠ b → (TX0 a).2.1 ≠ (TX0 b).2.1 := by decide +kernel
theorem tyX0_ok : ∀ k, k < 4 → parseFieldDescriptor (TX0 k).2.2.1 = some (tyX0 k) := by decide +kernel
abbrev cX0_init : ByteArray := prog_2_method_1_code
def yX0_init : MethodName := ⟨RX0, "<init>", "(IIII)V"⟩
def RX1 : String := "PropStore$Numbers"
def TX1 : u_T := fun k => match k with
  | 0 => ("PropStore$Prop", "number", "I", true)
  | 1 => ("PropStore$Prop", "kind", "I", true)
  | _ => ("PropStore$Numbers", "numbers", "[J", true)
def tyX1 : Nat → FieldType := fun k => match k with
  | 0 => .int
  | 1 => .int
  | _ => .array .long
abbrev wsX10 : List Cond := u_ws RX1 TX1 3
theorem nmX1 : ∀ a, a < 3 → ∀ b, b < 3 → a ≠ b → (TX1 a).2.1 ≠ (TX1 b).2.1 := by decide +kernel
theorem tyX1_ok : ∀ k, k < 3 → parseFieldDescriptor (TX1 k).2.2.1 = some (tyX1 k) := by decide +kernel
abbrev cX1_init : ByteArray := prog_3_method_1_code
def yX1_init : MethodName := ⟨RX1, "<init>", "(III)V"⟩
abbrev cX1_put : ByteArray := prog_3_method_2_code
def yX1_put : MethodName := ⟨RX1, "put", "(II)Z"⟩
abbrev cX1_cut : ByteArray := prog_3_method_3_code
def yX1_cut : MethodName := ⟨RX1, "cut", "(I)J"⟩
abbrev cX1_worthBy : ByteArray := prog_3_method_4_code
def yX1_worthBy : MethodName := ⟨RX1, "worthBy", "(I)J"⟩
abbrev cX1_putOn : ByteArray := prog_3_method_5_code
def yX1_putOn : MethodName := ⟨RX1, "putOn", "(I)V"⟩
def RX2 : String := "PropStore$Piece"
def TX2 : u_T := fun k => match k with
  | 0 => ("PropStore$Prop", "number", "I", true)
  | 1 => ("PropStore$Prop", "kind", "I", true)
  | 2 => ("PropStore$Piece", "size", "I", true)
  | _ => ("PropStore$Piece", "timesWorn", "I", false)
def tyX2 : Nat → FieldType := fun k => match k with
  | 0 => .int
  | 1 => .int
  | 2 => .int
  | _ => .int
abbrev wsX20 : List Cond := u_ws RX2 TX2 4
theorem nmX2 : ∀ a, a < 4 → ∀ b, b < 4 → a ≠ b → (TX2 a).2.1 ≠ (TX2 b).2.1 := by decide +kernel
theorem tyX2_ok : ∀ k, k < 4 → parseFieldDescriptor (TX2 k).2.2.1 = some (tyX2 k) := by decide +kernel
abbrev cX2_init : ByteArray := prog_4_method_1_code
def yX2_init : MethodName := ⟨RX2, "<init>", "(III)V"⟩
abbrev cX2_worthBy : ByteArray := prog_4_method_2_code
def yX2_worthBy : MethodName := ⟨RX2, "worthBy", "(I)J"⟩
abbrev cX2_putOn : ByteArray := prog_4_method_3_code
def yX2_putOn : MethodName := ⟨RX2, "putOn", "(I)V"⟩
def RX3 : String := "PropStore$Prop"
def TX3 : u_T := fun k => match k with
  | _ => ("", "", "", false)
def tyX3 : Nat → FieldType := fun k => match k with
  | _ => .int
abbrev wsX30 : List Cond := u_ws RX3 TX3 0
theorem nmX3 : ∀ a, a < 0 → ∀ b, b < 0 → a ≠ b → (TX3 a).2.1 ≠ (TX3 b).2.1 := by decide +kernel
theorem tyX3_ok : ∀ k, k < 0 → parseFieldDescriptor (TX3 k).2.2.1 = some (tyX3 k) := by decide +kernel
abbrev cX3_init : ByteArray := prog_5_method_1_code
def yX3_init : MethodName := ⟨RX3, "<init>", "(II)V"⟩
def RX4 : String := "PropStore$Row"
def TX4 : u_T := fun k => match k with
  | 0 => ("PropStore$Prop", "number", "I", true)
  | 1 => ("PropStore$Prop", "kind", "I", true)
  | _ => ("PropStore$Row", "places", "[LPropStore$Prop;", true)
def tyX4 : Nat → FieldType := fun k => match k with
  | 0 => .int
  | 1 => .int
  | _ => .array (.object "PropStore$Prop")
abbrev wsX40 : List Cond := u_ws RX4 TX4 3
theorem nmX4 : ∀ a, a < 3 → ∀ b, b < 3 → a ≠ b → (TX4 a).2.1 ≠ (TX4 b).2.1 := by decide +kernel
theorem tyX4_ok : ∀ k, k < 3 → parseFieldDescriptor (TX4 k).2.2.1 = some (tyX4 k) := by decide +kernel
abbrev cX4_init : ByteArray := prog_6_method_1_code
def yX4_init : MethodName := ⟨RX4, "<init>", "(III)V"⟩
abbrev cX4_hasPlace : ByteArray := prog_6_method_2_code
def yX4_hasPlace : MethodName := ⟨RX4, "hasPlace", "(I)Z"⟩
abbrev cX4_worthBy : ByteArray := prog_6_method_3_code
def yX4_worthBy : MethodName := ⟨RX4, "worthBy", "(I)J"⟩
abbrev cX4_putOn : ByteArray := prog_6_method_4_code
def yX4_putOn : MethodName := ⟨RX4, "putOn", "(I)V"⟩
def RX5 : String := "PropStore"
def TX5 : u_T := fun k => match k with
  | 0 => ("PropStore", "props", "[LPropStore$Prop;", true)
  | 1 => ("PropStore", "propCount", "I", false)
  | 2 => ("PropStore", "slots", "[LPropStore$Prop;", true)
  | 3 => ("PropStore", "inHand", "LPropStore$Prop;", false)
  | 4 => ("PropStore", "cues", "[LPropStore$Cue;", true)
  | 5 => ("PropStore", "cueCount", "I", false)
  | 6 => ("PropStore", "score", "J", false)
  | 7 => ("PropStore", "missReason", "I", false)
  | 8 => ("PropStore", "missedCue", "I", false)
  | _ => ("PropStore", "missCount", "I", false)
def tyX5 : Nat → FieldType := fun k => match k with
  | 0 => .array (.object "PropStore$Prop")
  | 1 => .int
  | 2 => .array (.object "PropStore$Prop")
  | 3 => .object "PropStore$Prop"
  | 4 => .array (.object "PropStore$Cue")
  | 5 => .int
  | 6 => .long
  | 7 => .int
  | 8 => .int
  | _ => .int
abbrev wsX50 : List Cond := u_ws RX5 TX5 10
theorem nmX5 : ∀ a, a < 10 → ∀ b, b < 10 → a ≠ b → (TX5 a).2.1 ≠ (TX5 b).2.1 := by decide +kernel
theorem tyX5_ok : ∀ k, k < 10 → parseFieldDescriptor (TX5 k).2.2.1 = some (tyX5 k) := by decide +kernel
abbrev cX5_init : ByteArray := prog_1_method_1_code
def yX5_init : MethodName := ⟨RX5, "<init>", "()V"⟩
abbrev cX5_prop : ByteArray := prog_1_method_2_code
def yX5_prop : MethodName := ⟨RX5, "prop", "(II)I"⟩
abbrev cX5_set : ByteArray := prog_1_method_3_code
def yX5_set : MethodName := ⟨RX5, "set", "(III)I"⟩
abbrev cX5_slot : ByteArray := prog_1_method_4_code
def yX5_slot : MethodName := ⟨RX5, "slot", "(II)I"⟩
abbrev cX5_held : ByteArray := prog_1_method_5_code
def yX5_held : MethodName := ⟨RX5, "held", "(I)I"⟩
abbrev cX5_hand : ByteArray := prog_1_method_6_code
def yX5_hand : MethodName := ⟨RX5, "hand", "()I"⟩
abbrev cX5_cue : ByteArray := prog_1_method_7_code
def yX5_cue : MethodName := ⟨RX5, "cue", "(IIII)I"⟩
abbrev cX5_strike : ByteArray := prog_1_method_8_code
def yX5_strike : MethodName := ⟨RX5, "strike", "()I"⟩
abbrev cX5_play : ByteArray := prog_1_method_9_code
def yX5_play : MethodName := ⟨RX5, "play", "(II)I"⟩
abbrev cX5_miscue : ByteArray := prog_1_method_10_code
def yX5_miscue : MethodName := ⟨RX5, "miscue", "(I)I"⟩
abbrev cX5_points : ByteArray := prog_1_method_11_code
def yX5_points : MethodName := ⟨RX5, "points", "()J"⟩
abbrev cX5_is : ByteArray := prog_1_method_12_code
def yX5_is : MethodName := ⟨RX5, "is", "(II)I"⟩
abbrev cX5_worth : ByteArray := prog_1_method_13_code
def yX5_worth : MethodName := ⟨RX5, "worth", "(II)J"⟩
abbrev cX5_wear : ByteArray := prog_1_method_14_code
def yX5_wear : MethodName := ⟨RX5, "wear", "(I)I"⟩
abbrev cX5_at : ByteArray := prog_1_method_15_code
def yX5_at : MethodName := ⟨RX5, "at", "(II)I"⟩
abbrev cX5_count : ByteArray := prog_1_method_16_code
def yX5_count : MethodName := ⟨RX5, "count", "(I)I"⟩
abbrev cX5_perform : ByteArray := prog_1_method_17_code
def yX5_perform : MethodName := ⟨RX5, "perform", "(LPropStore$Cue;)I"⟩
abbrev cX5_showProp : ByteArray := prog_1_method_18_code
def yX5_showProp : MethodName := ⟨RX5, "showProp", "(LPropStore$Prop;I)I"⟩
abbrev cX5_wearProp : ByteArray := prog_1_method_19_code
def yX5_wearProp : MethodName := ⟨RX5, "wearProp", "(LPropStore$Prop;I)I"⟩
abbrev cX5_takePart : ByteArray := prog_1_method_20_code
def yX5_takePart : MethodName := ⟨RX5, "takePart", "(LPropStore$Prop;I)I"⟩
abbrev cX5_layPart : ByteArray := prog_1_method_21_code
def yX5_layPart : MethodName := ⟨RX5, "layPart", "(LPropStore$Prop;II)I"⟩
abbrev cX5_find : ByteArray := prog_1_method_22_code
def yX5_find : MethodName := ⟨RX5, "find", "(I)LPropStore$Prop;"⟩
abbrev cX5_mostOf : ByteArray := prog_1_method_23_code
def yX5_mostOf : MethodName := ⟨RX5, "mostOf", "(I)I"⟩
abbrev cX5_newProp : ByteArray := prog_1_method_24_code
def yX5_newProp : MethodName := ⟨RX5, "newProp", "(III)LPropStore$Prop;"⟩
abbrev cX5_numberOf : ByteArray := prog_1_method_25_code
def yX5_numberOf : MethodName := ⟨RX5, "numberOf", "(LPropStore$Prop;)I"⟩
abbrev cX5_goesAs : ByteArray := prog_1_method_26_code
def yX5_goesAs : MethodName := ⟨RX5, "goesAs", "(LPropStore$Prop;I)Z"⟩
abbrev cX5_isAmong : ByteArray := prog_1_method_27_code
def yX5_isAmong : MethodName := ⟨RX5, "isAmong", "(II)Z"⟩
abbrev cX5_isSlot : ByteArray := prog_1_method_28_code
def yX5_isSlot : MethodName := ⟨RX5, "isSlot", "(I)Z"⟩
abbrev cX5_isView : ByteArray := prog_1_method_29_code
def yX5_isView : MethodName := ⟨RX5, "isView", "(I)Z"⟩
abbrev cX5_isPiece : ByteArray := prog_1_method_30_code
def yX5_isPiece : MethodName := ⟨RX5, "isPiece", "(I)Z"⟩
abbrev cX5_isRow : ByteArray := prog_1_method_31_code
def yX5_isRow : MethodName := ⟨RX5, "isRow", "(I)Z"⟩
abbrev cX5_partView : ByteArray := prog_1_method_32_code
def yX5_partView : MethodName := ⟨RX5, "partView", "(I)I"⟩
def RX6 : String := "PropStoreModel"
def TX6 : u_T := fun k => match k with
  | 0 => ("PropStoreModel", "props", "I", false)
  | 1 => ("PropStoreModel", "kinds", "[I", true)
  | 2 => ("PropStoreModel", "sizes", "[I", true)
  | 3 => ("PropStoreModel", "wears", "[I", true)
  | 4 => ("PropStoreModel", "numbers", "[J", true)
  | 5 => ("PropStoreModel", "things", "[I", true)
  | 6 => ("PropStoreModel", "slots", "[I", true)
  | 7 => ("PropStoreModel", "hand", "I", false)
  | 8 => ("PropStoreModel", "cues", "I", false)
  | 9 => ("PropStoreModel", "acts", "[I", true)
  | 10 => ("PropStoreModel", "places", "[I", true)
  | 11 => ("PropStoreModel", "views", "[I", true)
  | 12 => ("PropStoreModel", "more", "[I", true)
  | 13 => ("PropStoreModel", "points", "J", false)
  | 14 => ("PropStoreModel", "why", "I", false)
  | 15 => ("PropStoreModel", "at", "I", false)
  | _ => ("PropStoreModel", "often", "I", false)
def tyX6 : Nat → FieldType := fun k => match k with
  | 0 => .int
  | 1 => .array .int
  | 2 => .array .int
  | 3 => .array .int
  | 4 => .array .long
  | 5 => .array .int
  | 6 => .array .int
  | 7 => .int
  | 8 => .int
  | 9 => .array .int
  | 10 => .array .int
  | 11 => .array .int
  | 12 => .array .int
  | 13 => .long
  | 14 => .int
  | 15 => .int
  | _ => .int
abbrev wsX60 : List Cond := u_ws RX6 TX6 17
theorem nmX6 : ∀ a, a < 17 → ∀ b, b < 17 → a ≠ b → (TX6 a).2.1 ≠ (TX6 b).2.1 := by decide +kernel
theorem tyX6_ok : ∀ k, k < 17 → parseFieldDescriptor (TX6 k).2.2.1 = some (tyX6 k) := by decide +kernel
abbrev cX6_init : ByteArray := prog_8_method_1_code
def yX6_init : MethodName := ⟨RX6, "<init>", "()V"⟩
abbrev cX6_isIn : ByteArray := prog_8_method_2_code
def yX6_isIn : MethodName := ⟨RX6, "isIn", "(III)Z"⟩
abbrev cX6_isProp : ByteArray := prog_8_method_3_code
def yX6_isProp : MethodName := ⟨RX6, "isProp", "(I)Z"⟩
abbrev cX6_isView : ByteArray := prog_8_method_4_code
def yX6_isView : MethodName := ⟨RX6, "isView", "(I)Z"⟩
abbrev cX6_isSlot : ByteArray := prog_8_method_5_code
def yX6_isSlot : MethodName := ⟨RX6, "isSlot", "(I)Z"⟩
abbrev cX6_isSingle : ByteArray := prog_8_method_6_code
def yX6_isSingle : MethodName := ⟨RX6, "isSingle", "(I)Z"⟩
abbrev cX6_isRow : ByteArray := prog_8_method_7_code
def yX6_isRow : MethodName := ⟨RX6, "isRow", "(I)Z"⟩
abbrev cX6_goesAs : ByteArray := prog_8_method_8_code
def yX6_goesAs : MethodName := ⟨RX6, "goesAs", "(II)Z"⟩
abbrev cX6_goes : ByteArray := prog_8_method_9_code
def yX6_goes : MethodName := ⟨RX6, "goes", "(II)Z"⟩
abbrev cX6_prop : ByteArray := prog_8_method_10_code
def yX6_prop : MethodName := ⟨RX6, "prop", "(II)I"⟩
abbrev cX6_many : ByteArray := prog_8_method_11_code
def yX6_many : MethodName := ⟨RX6, "many", "(I)I"⟩
abbrev cX6_set : ByteArray := prog_8_method_12_code
def yX6_set : MethodName := ⟨RX6, "set", "(III)I"⟩
abbrev cX6_slot : ByteArray := prog_8_method_13_code
def yX6_slot : MethodName := ⟨RX6, "slot", "(II)I"⟩
abbrev cX6_held : ByteArray := prog_8_method_14_code
def yX6_held : MethodName := ⟨RX6, "held", "(I)I"⟩
abbrev cX6_hand : ByteArray := prog_8_method_15_code
def yX6_hand : MethodName := ⟨RX6, "hand", "()I"⟩
abbrev cX6_has : ByteArray := prog_8_method_16_code
def yX6_has : MethodName := ⟨RX6, "has", "(II)Z"⟩
abbrev cX6_cue : ByteArray := prog_8_method_17_code
def yX6_cue : MethodName := ⟨RX6, "cue", "(IIII)I"⟩
abbrev cX6_strike : ByteArray := prog_8_method_18_code
def yX6_strike : MethodName := ⟨RX6, "strike", "()I"⟩
abbrev cX6_inner : ByteArray := prog_8_method_19_code
def yX6_inner : MethodName := ⟨RX6, "inner", "(I)I"⟩
abbrev cX6_worthOfOne : ByteArray := prog_8_method_20_code
def yX6_worthOfOne : MethodName := ⟨RX6, "worthOfOne", "(II)J"⟩
abbrev cX6_worthOfNumbers : ByteArray := prog_8_method_21_code
def yX6_worthOfNumbers : MethodName := ⟨RX6, "worthOfNumbers", "(I)J"⟩
abbrev cX6_worthOfRow : ByteArray := prog_8_method_22_code
def yX6_worthOfRow : MethodName := ⟨RX6, "worthOfRow", "(II)J"⟩
abbrev cX6_worthOf : ByteArray := prog_8_method_23_code
def yX6_worthOf : MethodName := ⟨RX6, "worthOf", "(II)J"⟩
abbrev cX6_wearRow : ByteArray := prog_8_method_24_code
def yX6_wearRow : MethodName := ⟨RX6, "wearRow", "(I)V"⟩
abbrev cX6_wearAll : ByteArray := prog_8_method_25_code
def yX6_wearAll : MethodName := ⟨RX6, "wearAll", "(I)V"⟩
abbrev cX6_take : ByteArray := prog_8_method_26_code
def yX6_take : MethodName := ⟨RX6, "take", "(II)I"⟩
abbrev cX6_lay : ByteArray := prog_8_method_27_code
def yX6_lay : MethodName := ⟨RX6, "lay", "(III)I"⟩
abbrev cX6_done : ByteArray := prog_8_method_28_code
def yX6_done : MethodName := ⟨RX6, "done", "(I)I"⟩
abbrev cX6_play : ByteArray := prog_8_method_29_code
def yX6_play : MethodName := ⟨RX6, "play", "(II)I"⟩
abbrev cX6_miscue : ByteArray := prog_8_method_30_code
def yX6_miscue : MethodName := ⟨RX6, "miscue", "(I)I"⟩
abbrev cX6_points : ByteArray := prog_8_method_31_code
def yX6_points : MethodName := ⟨RX6, "points", "()J"⟩
abbrev cX6_is : ByteArray := prog_8_method_32_code
def yX6_is : MethodName := ⟨RX6, "is", "(II)I"⟩
abbrev cX6_worth : ByteArray := prog_8_method_33_code
def yX6_worth : MethodName := ⟨RX6, "worth", "(II)J"⟩
abbrev cX6_wear : ByteArray := prog_8_method_34_code
def yX6_wear : MethodName := ⟨RX6, "wear", "(I)I"⟩
abbrev cX6_at : ByteArray := prog_8_method_35_code
def yX6_at : MethodName := ⟨RX6, "at", "(II)I"⟩
abbrev cX6_count : ByteArray := prog_8_method_36_code
def yX6_count : MethodName := ⟨RX6, "count", "(I)I"⟩
def RL : String := "PropStoreLaw"
abbrev cL_law : ByteArray := code
def yL_law : MethodName := ⟨RL, "law", "([I)Z"⟩
def wsL_law_r1 : List Cond := [Cond.classLink RL 7 RX5, Cond.instantiable RX5 10, Cond.initialized RX5, Cond.classLink RL 10 RX6, Cond.instantiable RX6 17, Cond.initialized RX6, Cond.methodLink RL 9 yX5_init, Cond.instanceMethod yX5_init, Cond.code yX5_init cX5_init 1 none, Cond.methodLink RX5 3 objectInit, Cond.instanceMethod objectInit, Cond.code objectInit ⟨#[0xb1]⟩ 1 none, Cond.classLink RX5 9 RX3, Cond.fieldLink RX5 11 "PropStore" "props" "[LPropStore$Prop;", Cond.fieldLink RX5 15 "PropStore" "slots" "[LPropStore$Prop;", Cond.classLink RX5 18 RX0, Cond.fieldLink RX5 20 "PropStore" "cues" "[LPropStore$Cue;", Cond.fieldLink RX5 24 "PropStore" "missedCue" "I", Cond.methodLink RL 12 yX6_init, Cond.instanceMethod yX6_init, Cond.code yX6_init cX6_init 2 none, Cond.methodLink RX6 1 objectInit, Cond.arrayClass .int, Cond.fieldLink RX6 7 "PropStoreModel" "kinds" "[I"]
def wsL_law_r2 : List Cond := [Cond.fieldLink RX6 13 "PropStoreModel" "sizes" "[I", Cond.fieldLink RX6 16 "PropStoreModel" "wears" "[I", Cond.arrayClass .long, Cond.fieldLink RX6 19 "PropStoreModel" "numbers" "[J", Cond.fieldLink RX6 23 "PropStoreModel" "things" "[I", Cond.fieldLink RX6 26 "PropStoreModel" "slots" "[I", Cond.fieldLink RX6 29 "PropStoreModel" "hand" "I", Cond.fieldLink RX6 33 "PropStoreModel" "acts" "[I", Cond.fieldLink RX6 36 "PropStoreModel" "places" "[I", Cond.fieldLink RX6 39 "PropStoreModel" "views" "[I", Cond.fieldLink RX6 42 "PropStoreModel" "more" "[I", Cond.fieldLink RX6 45 "PropStoreModel" "at" "I", Cond.methodLink RL 13 yX5_prop, Cond.instanceMethod yX5_prop, Cond.selects RX5 yX5_prop yX5_prop, Cond.code yX5_prop cX5_prop 3 (some .int), Cond.fieldLink RX5 32 "PropStore" "propCount" "I", Cond.methodLink RX5 28 yX5_mostOf, Cond.static yX5_mostOf, Cond.code yX5_mostOf cX5_mostOf 1 (some .int), Cond.methodLink RX5 149 yX5_isPiece, Cond.static yX5_isPiece, Cond.code yX5_isPiece cX5_isPiece 1 (some .boolean), Cond.methodLink RX5 35 yX5_newProp]
def wsL_law_r3 : List Cond := [Cond.static yX5_newProp, Cond.code yX5_newProp cX5_newProp 3 (some (.object "PropStore$Prop")), Cond.classLink RX5 99 RX2, Cond.instantiable RX2 4, Cond.initialized RX2, Cond.classLink RX5 107 RX4, Cond.instantiable RX4 3, Cond.initialized RX4, Cond.classLink RX5 43 RX1, Cond.instantiable RX1 3, Cond.initialized RX1, Cond.methodLink RX5 152 yX2_init, Cond.instanceMethod yX2_init, Cond.code yX2_init cX2_init 4 none, Cond.fieldLink RX2 9 "PropStore$Piece" "size" "I", Cond.methodLink RX2 3 yX3_init, Cond.instanceMethod yX3_init, Cond.initialized RX3, Cond.code yX3_init cX3_init 3 none, Cond.methodLink RX3 1 objectInit, Cond.fieldLink RX3 7 "PropStore$Prop" "number" "I", Cond.fieldLink RX3 13 "PropStore$Prop" "kind" "I", Cond.methodLink RX5 155 yX5_isRow, Cond.static yX5_isRow]
def wsL_law_r4 : List Cond := [Cond.code yX5_isRow cX5_isRow 1 (some .boolean), Cond.methodLink RX5 158 yX4_init, Cond.instanceMethod yX4_init, Cond.code yX4_init cX4_init 4 none, Cond.classLink RX4 2 RX3, Cond.fieldLink RX4 7 "PropStore$Row" "places" "[LPropStore$Prop;", Cond.methodLink RX4 1 yX3_init, Cond.methodLink RX5 159 yX1_init, Cond.instanceMethod yX1_init, Cond.code yX1_init cX1_init 4 none, Cond.fieldLink RX1 9 "PropStore$Numbers" "numbers" "[J", Cond.methodLink RX1 3 yX3_init, Cond.methodLink RL 17 yX6_prop, Cond.instanceMethod yX6_prop, Cond.selects RX6 yX6_prop yX6_prop, Cond.code yX6_prop cX6_prop 4 (some .int), Cond.fieldLink RX6 48 "PropStoreModel" "props" "I", Cond.methodLink RX6 51 yX6_isIn, Cond.static yX6_isIn, Cond.code yX6_isIn cX6_isIn 3 (some .boolean), Cond.methodLink RX6 59 yX6_isSingle, Cond.static yX6_isSingle, Cond.code yX6_isSingle cX6_isSingle 1 (some .boolean), Cond.methodLink RL 18 yX5_set]
def wsL_law_r5 : List Cond := [Cond.instanceMethod yX5_set, Cond.selects RX5 yX5_set yX5_set, Cond.code yX5_set cX5_set 6 (some .int), Cond.classLink RX5 43 "PropStore$Numbers", Cond.methodLink RX5 39 yX5_find, Cond.instanceMethod yX5_find, Cond.selects RX5 yX5_find yX5_find, Cond.code yX5_find cX5_find 2 (some (.object "PropStore$Prop")), Cond.methodLink RX5 45 yX1_put, Cond.instanceMethod yX1_put, Cond.selects RX1 yX1_put yX1_put, Cond.code yX1_put cX1_put 3 (some .boolean), Cond.methodLink RX1 15 yX1_cut, Cond.instanceMethod yX1_cut, Cond.selects RX1 yX1_cut yX1_cut, Cond.code yX1_cut cX1_cut 2 (some .long), Cond.fieldLink RX1 19 "PropStore$Numbers" "kind" "I", Cond.sameField "PropStore$Numbers" "PropStore$Prop" "kind" "I", Cond.methodLink RL 22 yX6_set, Cond.instanceMethod yX6_set, Cond.selects RX6 yX6_set yX6_set, Cond.code yX6_set cX6_set 4 (some .int), Cond.constant RX6 70 (65535), Cond.methodLink RX6 63 yX6_isProp]
def wsL_law_r6 : List Cond := [Cond.instanceMethod yX6_isProp, Cond.selects RX6 yX6_isProp yX6_isProp, Cond.code yX6_isProp cX6_isProp 2 (some .boolean), Cond.methodLink RX6 66 yX6_many, Cond.instanceMethod yX6_many, Cond.selects RX6 yX6_many yX6_many, Cond.code yX6_many cX6_many 2 (some .int), Cond.methodLink RL 23 yX5_slot, Cond.instanceMethod yX5_slot, Cond.selects RX5 yX5_slot yX5_slot, Cond.code yX5_slot cX5_slot 5 (some .int), Cond.methodLink RX5 49 yX5_isSlot, Cond.static yX5_isSlot, Cond.code yX5_isSlot cX5_isSlot 1 (some .boolean), Cond.methodLink RX5 53 yX5_numberOf, Cond.static yX5_numberOf, Cond.code yX5_numberOf cX5_numberOf 1 (some .int), Cond.fieldLink RX5 160 "PropStore$Prop" "number" "I", Cond.methodLink RL 26 yX6_slot, Cond.instanceMethod yX6_slot, Cond.selects RX6 yX6_slot yX6_slot, Cond.code yX6_slot cX6_slot 4 (some .int), Cond.methodLink RX6 71 yX6_isSlot, Cond.static yX6_isSlot]
def wsL_law_r7 : List Cond := [Cond.code yX6_isSlot cX6_isSlot 1 (some .boolean), Cond.methodLink RL 27 yX5_held, Cond.instanceMethod yX5_held, Cond.selects RX5 yX5_held yX5_held, Cond.code yX5_held cX5_held 2 (some .int), Cond.methodLink RL 31 yX6_held, Cond.instanceMethod yX6_held, Cond.selects RX6 yX6_held yX6_held, Cond.code yX6_held cX6_held 2 (some .int), Cond.methodLink RL 32 yX5_hand, Cond.instanceMethod yX5_hand, Cond.selects RX5 yX5_hand yX5_hand, Cond.code yX5_hand cX5_hand 1 (some .int), Cond.fieldLink RX5 57 "PropStore" "inHand" "LPropStore$Prop;", Cond.methodLink RL 36 yX6_hand, Cond.instanceMethod yX6_hand, Cond.selects RX6 yX6_hand yX6_hand, Cond.code yX6_hand cX6_hand 1 (some .int), Cond.methodLink RL 37 yX5_cue, Cond.instanceMethod yX5_cue, Cond.selects RX5 yX5_cue yX5_cue, Cond.code yX5_cue cX5_cue 5 (some .int), Cond.fieldLink RX5 64 "PropStore" "ACT_VIEWS" "[I", Cond.fieldLink RX5 71 "PropStore" "cueCount" "I"]
def wsL_law_r8 : List Cond := [Cond.instantiable RX0 4, Cond.initialized RX0, Cond.methodLink RX5 61 yX5_isView, Cond.static yX5_isView, Cond.code yX5_isView cX5_isView 1 (some .boolean), Cond.methodLink RX5 68 yX5_isAmong, Cond.static yX5_isAmong, Cond.code yX5_isAmong cX5_isAmong 2 (some .boolean), Cond.methodLink RX5 74 yX0_init, Cond.instanceMethod yX0_init, Cond.code yX0_init cX0_init 5 none, Cond.methodLink RX0 1 objectInit, Cond.fieldLink RX0 7 "PropStore$Cue" "act" "I", Cond.fieldLink RX0 13 "PropStore$Cue" "slot" "I", Cond.fieldLink RX0 16 "PropStore$Cue" "view" "I", Cond.fieldLink RX0 19 "PropStore$Cue" "i" "I", Cond.methodLink RL 41 yX6_cue, Cond.instanceMethod yX6_cue, Cond.selects RX6 yX6_cue yX6_cue, Cond.code yX6_cue cX6_cue 5 (some .int), Cond.fieldLink RX6 83 "PropStoreModel" "cues" "I", Cond.methodLink RX6 77 yX6_isView, Cond.static yX6_isView, Cond.code yX6_isView cX6_isView 1 (some .boolean)]
def wsL_law_r9 : List Cond := [Cond.methodLink RX6 80 yX6_has, Cond.static yX6_has, Cond.code yX6_has cX6_has 2 (some .boolean), Cond.methodLink RX6 74 yX6_isRow, Cond.static yX6_isRow, Cond.code yX6_isRow cX6_isRow 1 (some .boolean), Cond.methodLink RL 42 yX5_strike, Cond.instanceMethod yX5_strike, Cond.selects RX5 yX5_strike yX5_strike, Cond.code yX5_strike cX5_strike 2 (some .int), Cond.methodLink RL 45 yX6_strike, Cond.instanceMethod yX6_strike, Cond.selects RX6 yX6_strike yX6_strike, Cond.code yX6_strike cX6_strike 2 (some .int), Cond.methodLink RL 46 yX5_play, Cond.instanceMethod yX5_play, Cond.selects RX5 yX5_play yX5_play, Cond.code yX5_play cX5_play 5 (some .int), Cond.fieldLink RX5 77 "PropStore" "missReason" "I", Cond.fieldLink RX5 84 "PropStore" "missCount" "I", Cond.methodLink RX5 80 yX5_perform, Cond.instanceMethod yX5_perform, Cond.selects RX5 yX5_perform yX5_perform, Cond.code yX5_perform cX5_perform 3 (some .int)]
def wsL_law_r10 : List Cond := [Cond.fieldLink RX5 115 "PropStore$Cue" "slot" "I", Cond.fieldLink RX5 118 "PropStore$Cue" "view" "I", Cond.fieldLink RX5 121 "PropStore$Cue" "act" "I", Cond.fieldLink RX5 131 "PropStore$Cue" "i" "I", Cond.methodLink RX5 91 yX5_goesAs, Cond.static yX5_goesAs, Cond.code yX5_goesAs cX5_goesAs 2 (some .boolean), Cond.fieldLink RX5 163 "PropStore" "GOES_AS" "[I", Cond.fieldLink RX5 166 "PropStore$Prop" "kind" "I", Cond.methodLink RX5 124 yX5_showProp, Cond.instanceMethod yX5_showProp, Cond.selects RX5 yX5_showProp yX5_showProp, Cond.code yX5_showProp cX5_showProp 3 (some .int), Cond.fieldLink RX5 87 "PropStore" "score" "J", Cond.methodLink RX5 95 ⟨"PropStore$Prop", "worthBy", "(I)J"⟩, Cond.sameMethod "PropStore$Prop" "PropStore$Prop" "worthBy" "(I)J", Cond.selects RX1 ⟨"PropStore$Prop", "worthBy", "(I)J"⟩ yX1_worthBy, Cond.instanceMethod yX1_worthBy, Cond.code yX1_worthBy cX1_worthBy 5 (some .long), Cond.selects RX2 ⟨"PropStore$Prop", "worthBy", "(I)J"⟩ yX2_worthBy, Cond.instanceMethod yX2_worthBy, Cond.code yX2_worthBy cX2_worthBy 2 (some .long), Cond.fieldLink RX2 15 "PropStore$Piece" "timesWorn" "I", Cond.constantLong RX2 18 (2)]
def wsL_law_r11 : List Cond := [Cond.constantLong RX2 20 (3), Cond.fieldLink RX2 22 "PropStore$Piece" "kind" "I", Cond.sameField "PropStore$Piece" "PropStore$Prop" "kind" "I", Cond.constantLong RX2 25 (5), Cond.selects RX4 ⟨"PropStore$Prop", "worthBy", "(I)J"⟩ yX4_worthBy, Cond.instanceMethod yX4_worthBy, Cond.code yX4_worthBy cX4_worthBy 6 (some .long), Cond.static yX5_partView, Cond.code yX5_partView cX5_partView 1 (some .int), Cond.fieldLink RX5 167 "PropStore" "PART_VIEWS" "[I", Cond.methodLink RX4 23 ⟨"PropStore$Prop", "worthBy", "(I)J"⟩, Cond.methodLink RX5 128 yX5_wearProp, Cond.static yX5_wearProp, Cond.code yX5_wearProp cX5_wearProp 2 (some .int), Cond.methodLink RX5 141 ⟨"PropStore$Prop", "putOn", "(I)V"⟩, Cond.sameMethod "PropStore$Prop" "PropStore$Prop" "putOn" "(I)V", Cond.selects RX1 ⟨"PropStore$Prop", "putOn", "(I)V"⟩ yX1_putOn, Cond.instanceMethod yX1_putOn, Cond.code yX1_putOn cX1_putOn 2 none, Cond.selects RX2 ⟨"PropStore$Prop", "putOn", "(I)V"⟩ yX2_putOn, Cond.instanceMethod yX2_putOn, Cond.code yX2_putOn cX2_putOn 2 none, Cond.selects RX4 ⟨"PropStore$Prop", "putOn", "(I)V"⟩ yX4_putOn, Cond.instanceMethod yX4_putOn]
def wsL_law_r12 : List Cond := [Cond.code yX4_putOn cX4_putOn 4 none, Cond.methodLink RX4 27 ⟨"PropStore$Prop", "putOn", "(I)V"⟩, Cond.methodLink RX5 134 yX5_takePart, Cond.instanceMethod yX5_takePart, Cond.selects RX5 yX5_takePart yX5_takePart, Cond.code yX5_takePart cX5_takePart 4 (some .int), Cond.classLink RX5 107 "PropStore$Row", Cond.fieldLink RX5 112 "PropStore$Row" "places" "[LPropStore$Prop;", Cond.methodLink RX5 109 yX4_hasPlace, Cond.instanceMethod yX4_hasPlace, Cond.selects RX4 yX4_hasPlace yX4_hasPlace, Cond.code yX4_hasPlace cX4_hasPlace 2 (some .boolean), Cond.methodLink RX5 137 yX5_layPart, Cond.instanceMethod yX5_layPart, Cond.selects RX5 yX5_layPart yX5_layPart, Cond.code yX5_layPart cX5_layPart 5 (some .int), Cond.fieldLink RX5 148 "PropStore$Row" "kind" "I", Cond.sameField "PropStore$Row" "PropStore$Prop" "kind" "I", Cond.methodLink RX5 145 yX5_partView, Cond.methodLink RL 49 yX6_play, Cond.instanceMethod yX6_play, Cond.selects RX6 yX6_play yX6_play, Cond.code yX6_play cX6_play 5 (some .int), Cond.fieldLink RX6 131 "PropStoreModel" "why" "I"]
def wsL_law_r13 : List Cond := [Cond.fieldLink RX6 137 "PropStoreModel" "often" "I", Cond.methodLink RX6 134 yX6_done, Cond.instanceMethod yX6_done, Cond.selects RX6 yX6_done yX6_done, Cond.code yX6_done cX6_done 5 (some .int), Cond.fieldLink RX6 113 "PropStoreModel" "points" "J", Cond.methodLink RX6 110 yX6_goes, Cond.instanceMethod yX6_goes, Cond.selects RX6 yX6_goes yX6_goes, Cond.code yX6_goes cX6_goes 3 (some .boolean), Cond.methodLink RX6 55 yX6_goesAs, Cond.static yX6_goesAs, Cond.code yX6_goesAs cX6_goesAs 2 (some .boolean), Cond.methodLink RX6 117 yX6_worthOf, Cond.instanceMethod yX6_worthOf, Cond.selects RX6 yX6_worthOf yX6_worthOf, Cond.code yX6_worthOf cX6_worthOf 7 (some .long), Cond.methodLink RX6 99 yX6_worthOfNumbers, Cond.instanceMethod yX6_worthOfNumbers, Cond.selects RX6 yX6_worthOfNumbers yX6_worthOfNumbers, Cond.code yX6_worthOfNumbers cX6_worthOfNumbers 5 (some .long), Cond.methodLink RX6 95 yX6_worthOfOne, Cond.instanceMethod yX6_worthOfOne, Cond.selects RX6 yX6_worthOfOne yX6_worthOfOne]
def wsL_law_r14 : List Cond := [Cond.code yX6_worthOfOne cX6_worthOfOne 5 (some .long), Cond.constantLong RX6 86 (2), Cond.constantLong RX6 88 (3), Cond.constantLong RX6 90 (5), Cond.methodLink RX6 103 yX6_worthOfRow, Cond.instanceMethod yX6_worthOfRow, Cond.selects RX6 yX6_worthOfRow yX6_worthOfRow, Cond.code yX6_worthOfRow cX6_worthOfRow 7 (some .long), Cond.methodLink RX6 92 yX6_inner, Cond.static yX6_inner, Cond.code yX6_inner cX6_inner 1 (some .int), Cond.methodLink RX6 120 yX6_wearAll, Cond.instanceMethod yX6_wearAll, Cond.selects RX6 yX6_wearAll yX6_wearAll, Cond.code yX6_wearAll cX6_wearAll 4 none, Cond.methodLink RX6 106 yX6_wearRow, Cond.instanceMethod yX6_wearRow, Cond.selects RX6 yX6_wearRow yX6_wearRow, Cond.code yX6_wearRow cX6_wearRow 4 none, Cond.methodLink RX6 123 yX6_take, Cond.instanceMethod yX6_take, Cond.selects RX6 yX6_take yX6_take, Cond.code yX6_take cX6_take 3 (some .int), Cond.methodLink RX6 127 yX6_lay]
def wsL_law_r15 : List Cond := [Cond.instanceMethod yX6_lay, Cond.selects RX6 yX6_lay yX6_lay, Cond.code yX6_lay cX6_lay 4 (some .int), Cond.methodLink RL 50 yX5_miscue, Cond.instanceMethod yX5_miscue, Cond.selects RX5 yX5_miscue yX5_miscue, Cond.code yX5_miscue cX5_miscue 2 (some .int), Cond.methodLink RL 53 yX6_miscue, Cond.instanceMethod yX6_miscue, Cond.selects RX6 yX6_miscue yX6_miscue, Cond.code yX6_miscue cX6_miscue 2 (some .int), Cond.methodLink RL 54 yX5_points, Cond.instanceMethod yX5_points, Cond.selects RX5 yX5_points yX5_points, Cond.code yX5_points cX5_points 1 (some .long), Cond.methodLink RL 58 yX6_points, Cond.instanceMethod yX6_points, Cond.selects RX6 yX6_points yX6_points, Cond.code yX6_points cX6_points 1 (some .long), Cond.methodLink RL 59 yX5_is, Cond.instanceMethod yX5_is, Cond.selects RX5 yX5_is yX5_is, Cond.code yX5_is cX5_is 4 (some .int), Cond.methodLink RL 62 yX6_is]
def wsL_law_r16 : List Cond := [Cond.instanceMethod yX6_is, Cond.selects RX6 yX6_is yX6_is, Cond.code yX6_is cX6_is 3 (some .int), Cond.methodLink RL 63 yX5_worth, Cond.instanceMethod yX5_worth, Cond.selects RX5 yX5_worth yX5_worth, Cond.code yX5_worth cX5_worth 4 (some .long), Cond.methodLink RL 67 yX6_worth, Cond.instanceMethod yX6_worth, Cond.selects RX6 yX6_worth yX6_worth, Cond.code yX6_worth cX6_worth 3 (some .long), Cond.methodLink RL 68 yX5_wear, Cond.instanceMethod yX5_wear, Cond.selects RX5 yX5_wear yX5_wear, Cond.code yX5_wear cX5_wear 4 (some .int), Cond.classLink RX5 99 "PropStore$Piece", Cond.fieldLink RX5 101 "PropStore$Piece" "kind" "I", Cond.fieldLink RX5 104 "PropStore$Piece" "timesWorn" "I", Cond.methodLink RL 71 yX6_wear, Cond.instanceMethod yX6_wear, Cond.selects RX6 yX6_wear yX6_wear, Cond.code yX6_wear cX6_wear 2 (some .int), Cond.methodLink RL 72 yX5_at, Cond.instanceMethod yX5_at]
def wsL_law_r17 : List Cond := [Cond.selects RX5 yX5_at yX5_at, Cond.code yX5_at cX5_at 5 (some .int), Cond.methodLink RL 75 yX6_at, Cond.instanceMethod yX6_at, Cond.selects RX6 yX6_at yX6_at, Cond.code yX6_at cX6_at 3 (some .int), Cond.methodLink RL 76 yX5_count, Cond.instanceMethod yX5_count, Cond.selects RX5 yX5_count yX5_count, Cond.code yX5_count cX5_count 2 (some .int), Cond.methodLink RL 79 yX6_count, Cond.instanceMethod yX6_count, Cond.selects RX6 yX6_count yX6_count, Cond.code yX6_count cX6_count 2 (some .int)]
def wsL_law : List Cond := (wsL_law_r1 ++ (wsL_law_r2 ++ (wsL_law_r3 ++ (wsL_law_r4 ++ (wsL_law_r5 ++ (wsL_law_r6 ++ (wsL_law_r7 ++ (wsL_law_r8 ++ (wsL_law_r9 ++ (wsL_law_r10 ++ (wsL_law_r11 ++ (wsL_law_r12 ++ (wsL_law_r13 ++ (wsL_law_r14 ++ (wsL_law_r15 ++ (wsL_law_r16 ++ wsL_law_r17)))))))))))))))) ++ wsX50 ++ wsX60 ++ wsX20 ++ wsX40 ++ wsX10 ++ wsX00 ++ ([] : List Cond)
set_option maxRecDepth 20000 in
theorem wsL_law_in : ∀ w ∈ wsL_law, w ∈ lw_tbl := fun w h => (goodIn_p wsL_law [30, 33, 316, 72, 75, 78, 81, 86, 89, 116, 121, 135, 374, 377, 380, 147, 151, 155, 159, 384, 388, 392, 163, 166, 169, 397, 400, 173, 404, 177, 408, 181, 184, 189, 193, 412, 415, 418, 421, 215, 425, 219, 223, 226, 232, 238, 241, 247, 251, 257, 263, 266, 269, 274, 278, 282, 429, 433, 437, 440, 444, 448, 452, 459, 462, 466, 470, 474, 478, 287, 482, 291, 486, 295, 490, 299, 494, 303, 498, 307, 502, 311, 506] (by decide +kernel) (by decide +kernel) w h).1
theorem inlX0 : ∀ w ∈ wsX00, w ∈ wsL_law := fun _ h => List.mem_append_left _ (List.mem_append_right _ h)
theorem inX0 : ∀ w ∈ wsX00, w ∈ lw_tbl := fun w h => wsL_law_in w (inlX0 w h)
theorem inlX1 : ∀ w ∈ wsX10, w ∈ wsL_law := fun _ h => List.mem_append_left _ (List.mem_append_left _ (List.mem_append_right _ h))
theorem inX1 : ∀ w ∈ wsX10, w ∈ lw_tbl := fun w h => wsL_law_in w (inlX1 w h)
theorem inlX2 : ∀ w ∈ wsX20, w ∈ wsL_law := fun _ h => List.mem_append_left _ (List.mem_append_left _ (List.mem_append_left _ (List.mem_append_left _ (List.mem_append_right _ h))))
theorem inX2 : ∀ w ∈ wsX20, w ∈ lw_tbl := fun w h => wsL_law_in w (inlX2 w h)
theorem inX3 : ∀ w ∈ wsX30, w ∈ lw_tbl := by decide +kernel
theorem inlX4 : ∀ w ∈ wsX40, w ∈ wsL_law := fun _ h => List.mem_append_left _ (List.mem_append_left _ (List.mem_append_left _ (List.mem_append_right _ h)))
theorem inX4 : ∀ w ∈ wsX40, w ∈ lw_tbl := fun w h => wsL_law_in w (inlX4 w h)
theorem inlX5 : ∀ w ∈ wsX50, w ∈ wsL_law := fun _ h => List.mem_append_left _ (List.mem_append_left _ (List.mem_append_left _ (List.mem_append_left _ (List.mem_append_left _ (List.mem_append_left _ (List.mem_append_right _ h))))))
theorem inX5 : ∀ w ∈ wsX50, w ∈ lw_tbl := fun w h => wsL_law_in w (inlX5 w h)
theorem inlX6 : ∀ w ∈ wsX60, w ∈ wsL_law := fun _ h => List.mem_append_left _ (List.mem_append_left _ (List.mem_append_left _ (List.mem_append_left _ (List.mem_append_left _ (List.mem_append_right _ h)))))
theorem inX6 : ∀ w ∈ wsX60, w ∈ lw_tbl := fun w h => wsL_law_in w (inlX6 w h)
abbrev vwCl : List vw_C := [(RX0, TX0, 4), (RX1, TX1, 3), (RX2, TX2, 4), (RX4, TX4, 3), (RX5, TX5, 10), (RX6, TX6, 17)]
end
section
theorem dX0_init_0 : decode cX0_init 0 = .ok (.aload_n 0, 1) := by decide +kernel
theorem dX0_init_1 : decode cX0_init 1 = .ok (.invokespecial 1, 3) := by decide +kernel
theorem dX0_init_4 : decode cX0_init 4 = .ok (.aload_n 0, 1) := by decide +kernel
theorem dX0_init_5 : decode cX0_init 5 = .ok (.iload_n 1, 1) := by decide +kernel
theorem dX0_init_6 : decode cX0_init 6 = .ok (.putfield 7, 3) := by decide +kernel
theorem dX0_init_9 : decode cX0_init 9 = .ok (.aload_n 0, 1) := by decide +kernel
theorem dX0_init_10 : decode cX0_init 10 = .ok (.iload_n 2, 1) := by decide +kernel
theorem dX0_init_11 : decode cX0_init 11 = .ok (.putfield 13, 3) := by decide +kernel
theorem dX0_init_14 : decode cX0_init 14 = .ok (.aload_n 0, 1) := by decide +kernel
theorem dX0_init_15 : decode cX0_init 15 = .ok (.iload_n 3, 1) := by decide +kernel
theorem dX0_init_16 : decode cX0_init 16 = .ok (.putfield 16, 3) := by decide +kernel
theorem dX0_init_19 : decode cX0_init 19 = .ok (.aload_n 0, 1) := by decide +kernel
theorem dX0_init_20 : decode cX0_init 20 = .ok (.iload 4, 2) := by decide +kernel
theorem dX0_init_22 : decode cX0_init 22 = .ok (.putfield 19, 3) := by decide +kernel
theorem dX0_init_25 : decode cX0_init 25 = .ok (.return_, 1) := by decide +kernel
theorem dX1_init_0 : decode cX1_init 0 = .ok (.aload_n 0, 1) := by decide +kernel
theorem dX1_init_1 : decode cX1_init 1 = .ok (.iload_n 1, 1) := by decide +kernel
theorem dX1_init_2 : decode cX1_init 2 = .ok (.iload_n 2, 1) := by decide +kernel
theorem dX1_init_3 : decode cX1_init 3 = .ok (.invokespecial 3, 3) := by decide +kernel
theorem dX1_init_6 : decode cX1_init 6 = .ok (.aload_n 0, 1) := by decide +kernel
theorem dX1_init_7 : decode cX1_init 7 = .ok (.iload_n 3, 1) := by decide +kernel
theorem dX1_init_8 : decode cX1_init 8 = .ok (.newarray .long, 2) := by decide +kernel
theorem dX1_init_10 : decode cX1_init 10 = .ok (.putfield 9, 3) := by decide +kernel
theorem dX1_init_13 : decode cX1_init 13 = .ok (.return_, 1) := by decide +kernel
theorem dX1_put_0 : decode cX1_put 0 = .ok (.iload_n 1, 1) := by decide +kernel
theorem dX1_put_1 : decode cX1_put 1 = .ok (.ifCond .lt 12, 3) := by decide +kernel
theorem dX1_put_4 : decode cX1_put 4 = .ok (.iload_n 1, 1) := by decide +kernel
theorem dX1_put_5 : decode cX1_put 5 = .ok (.aload_n 0, 1) := by decide +kernel
theorem dX1_put_6 : decode cX1_put 6 = .ok (.getfield 9, 3) := by decide +kernel
theorem dX1_put_9 : decode cX1_put 9 = .ok (.arraylength, 1) := by decide +kernel
theorem dX1_put_10 : decode cX1_put 10 = .ok (.if_icmp .lt 5, 3) := by decide +kernel
theorem dX1_put_13 : decode cX1_put 13 = .ok (.iconst 0, 1) := by decide +kernel
theorem dX1_put_14 : decode cX1_put 14 = .ok (.ireturn, 1) := by decide +kernel
theorem dX1_put_15 : decode cX1_put 15 = .ok (.aload_n 0, 1) := by decide +kernel
theorem dX1_put_16 : decode cX1_put 16 = .ok (.getfield 9, 3) := by decide +kernel
theorem dX1_put_19 : decode cX1_put 19 = .ok (.iload_n 1, 1) := by decide +kernel
theorem dX1_put_20 : decode cX1_put 20 = .ok (.aload_n 0, 1) := by decide +kernel
theorem dX1_put_21 : decode cX1_put 21 = .ok (.iload_n 2, 1) := by decide +kernel
theorem dX1_put_22 : decode cX1_put 22 = .ok (.invokevirtual 15, 3) := by decide +kernel
theorem dX1_put_25 : decode cX1_put 25 = .ok (.lastore, 1) := by decide +kernel
theorem dX1_put_26 : decode cX1_put 26 = .ok (.iconst 1, 1) := by decide +kernel
theorem dX1_put_27 : decode cX1_put 27 = .ok (.ireturn, 1) := by decide +kernel
theorem dX1_cut_0 : decode cX1_cut 0 = .ok (.aload_n 0, 1) := by decide +kernel
theorem dX1_cut_1 : decode cX1_cut 1 = .ok (.getfield 19, 3) := by decide +kernel
theorem dX1_cut_4 : decode cX1_cut 4 = .ok (.tableswitch 44 0 3 #[32, 36, 44, 40], 32) := by decide +kernel
theorem dX1_cut_36 : decode cX1_cut 36 = .ok (.iload_n 1, 1) := by decide +kernel
theorem dX1_cut_37 : decode cX1_cut 37 = .ok (.i2c, 1) := by decide +kernel
theorem dX1_cut_38 : decode cX1_cut 38 = .ok (.i2l, 1) := by decide +kernel
theorem dX1_cut_39 : decode cX1_cut 39 = .ok (.lreturn, 1) := by decide +kernel
theorem dX1_cut_40 : decode cX1_cut 40 = .ok (.iload_n 1, 1) := by decide +kernel
theorem dX1_cut_41 : decode cX1_cut 41 = .ok (.i2s, 1) := by decide +kernel
theorem dX1_cut_42 : decode cX1_cut 42 = .ok (.i2l, 1) := by decide +kernel
theorem dX1_cut_43 : decode cX1_cut 43 = .ok (.lreturn, 1) := by decide +kernel
theorem dX1_cut_44 : decode cX1_cut 44 = .ok (.iload_n 1, 1) := by decide +kernel
theorem dX1_cut_45 : decode cX1_cut 45 = .ok (.i2b, 1) := by decide +kernel
theorem dX1_cut_46 : decode cX1_cut 46 = .ok (.i2l, 1) := by decide +kernel
theorem dX1_cut_47 : decode cX1_cut 47 = .ok (.lreturn, 1) := by decide +kernel
theorem dX1_cut_48 : decode cX1_cut 48 = .ok (.iload_n 1, 1) := by decide +kernel
theorem dX1_cut_49 : decode cX1_cut 49 = .ok (.i2l, 1) := by decide +kernel
theorem dX1_cut_50 : decode cX1_cut 50 = .ok (.lreturn, 1) := by decide +kernel
theorem dX1_worthBy_0 : decode cX1_worthBy 0 = .ok (.lconst 0, 1) := by decide +kernel
theorem dX1_worthBy_1 : decode cX1_worthBy 1 = .ok (.lstore_n 2, 1) := by decide +kernel
theorem dX1_worthBy_2 : decode cX1_worthBy 2 = .ok (.iconst 0, 1) := by decide +kernel
theorem dX1_worthBy_3 : decode cX1_worthBy 3 = .ok (.istore 4, 2) := by decide +kernel
theorem dX1_worthBy_5 : decode cX1_worthBy 5 = .ok (.iload 4, 2) := by decide +kernel
theorem dX1_worthBy_7 : decode cX1_worthBy 7 = .ok (.aload_n 0, 1) := by decide +kernel
theorem dX1_worthBy_8 : decode cX1_worthBy 8 = .ok (.getfield 9, 3) := by decide +kernel
theorem dX1_worthBy_11 : decode cX1_worthBy 11 = .ok (.arraylength, 1) := by decide +kernel
theorem dX1_worthBy_12 : decode cX1_worthBy 12 = .ok (.if_icmp .ge 19, 3) := by decide +kernel
theorem dX1_worthBy_15 : decode cX1_worthBy 15 = .ok (.lload_n 2, 1) := by decide +kernel
theorem dX1_worthBy_16 : decode cX1_worthBy 16 = .ok (.aload_n 0, 1) := by decide +kernel
theorem dX1_worthBy_17 : decode cX1_worthBy 17 = .ok (.getfield 9, 3) := by decide +kernel
theorem dX1_worthBy_20 : decode cX1_worthBy 20 = .ok (.iload 4, 2) := by decide +kernel
theorem dX1_worthBy_22 : decode cX1_worthBy 22 = .ok (.laload, 1) := by decide +kernel
theorem dX1_worthBy_23 : decode cX1_worthBy 23 = .ok (.ladd, 1) := by decide +kernel
theorem dX1_worthBy_24 : decode cX1_worthBy 24 = .ok (.lstore_n 2, 1) := by decide +kernel
theorem dX1_worthBy_25 : decode cX1_worthBy 25 = .ok (.iinc 4 1, 3) := by decide +kernel
theorem dX1_worthBy_28 : decode cX1_worthBy 28 = .ok (.goto (-23), 3) := by decide +kernel
theorem dX1_worthBy_31 : decode cX1_worthBy 31 = .ok (.lload_n 2, 1) := by decide +kernel
theorem dX1_worthBy_32 : decode cX1_worthBy 32 = .ok (.lreturn, 1) := by decide +kernel
theorem dX1_putOn_0 : decode cX1_putOn 0 = .ok (.return_, 1) := by decide +kernel
theorem dX2_init_0 : decode cX2_init 0 = .ok (.aload_n 0, 1) := by decide +kernel
theorem dX2_init_1 : decode cX2_init 1 = .ok (.iload_n 1, 1) := by decide +kernel
theorem dX2_init_2 : decode cX2_init 2 = .ok (.iload_n 2, 1) := by decide +kernel
theorem dX2_init_3 : decode cX2_init 3 = .ok (.invokespecial 3, 3) := by decide +kernel
theorem dX2_init_6 : decode cX2_init 6 = .ok (.aload_n 0, 1) := by decide +kernel
theorem dX2_init_7 : decode cX2_init 7 = .ok (.iload_n 3, 1) := by decide +kernel
theorem dX2_init_8 : decode cX2_init 8 = .ok (.putfield 9, 3) := by decide +kernel
theorem dX2_init_11 : decode cX2_init 11 = .ok (.return_, 1) := by decide +kernel
theorem dX2_worthBy_0 : decode cX2_worthBy 0 = .ok (.iload_n 1, 1) := by decide +kernel
theorem dX2_worthBy_1 : decode cX2_worthBy 1 = .ok (.tableswitch 136 4 16 #[67, 79, 89, 99, 136, 136, 136, 136, 136, 136, 136, 136, 105], 67) := by decide +kernel
theorem dX2_worthBy_68 : decode cX2_worthBy 68 = .ok (.aload_n 0, 1) := by decide +kernel
theorem dX2_worthBy_69 : decode cX2_worthBy 69 = .ok (.getfield 9, 3) := by decide +kernel
theorem dX2_worthBy_72 : decode cX2_worthBy 72 = .ok (.i2l, 1) := by decide +kernel
theorem dX2_worthBy_73 : decode cX2_worthBy 73 = .ok (.aload_n 0, 1) := by decide +kernel
theorem dX2_worthBy_74 : decode cX2_worthBy 74 = .ok (.getfield 15, 3) := by decide +kernel
theorem dX2_worthBy_77 : decode cX2_worthBy 77 = .ok (.i2l, 1) := by decide +kernel
theorem dX2_worthBy_78 : decode cX2_worthBy 78 = .ok (.ladd, 1) := by decide +kernel
theorem dX2_worthBy_79 : decode cX2_worthBy 79 = .ok (.lreturn, 1) := by decide +kernel
theorem dX2_worthBy_80 : decode cX2_worthBy 80 = .ok (.ldc2_w 18, 3) := by decide +kernel
theorem dX2_worthBy_83 : decode cX2_worthBy 83 = .ok (.aload_n 0, 1) := by decide +kernel
theorem dX2_worthBy_84 : decode cX2_worthBy 84 = .ok (.getfield 15, 3) := by decide +kernel
theorem dX2_worthBy_87 : decode cX2_worthBy 87 = .ok (.i2l, 1) := by decide +kernel
theorem dX2_worthBy_88 : decode cX2_worthBy 88 = .ok (.lmul, 1) := by decide +kernel
theorem dX2_worthBy_89 : decode cX2_worthBy 89 = .ok (.lreturn, 1) := by decide +kernel
theorem dX2_worthBy_90 : decode cX2_worthBy 90 = .ok (.ldc2_w 20, 3) := by decide +kernel
theorem dX2_worthBy_93 : decode cX2_worthBy 93 = .ok (.aload_n 0, 1) := by decide +kernel
theorem dX2_worthBy_94 : decode cX2_worthBy 94 = .ok (.getfield 9, 3) := by decide +kernel
theorem dX2_worthBy_97 : decode cX2_worthBy 97 = .ok (.i2l, 1) := by decide +kernel
theorem dX2_worthBy_98 : decode cX2_worthBy 98 = .ok (.lmul, 1) := by decide +kernel
theorem dX2_worthBy_99 : decode cX2_worthBy 99 = .ok (.lreturn, 1) := by decide +kernel
theorem dX2_worthBy_100 : decode cX2_worthBy 100 = .ok (.aload_n 0, 1) := by decide +kernel
theorem dX2_worthBy_101 : decode cX2_worthBy 101 = .ok (.getfield 9, 3) := by decide +kernel
theorem dX2_worthBy_104 : decode cX2_worthBy 104 = .ok (.i2l, 1) := by decide +kernel
theorem dX2_worthBy_105 : decode cX2_worthBy 105 = .ok (.lreturn, 1) := by decide +kernel
theorem dX2_worthBy_106 : decode cX2_worthBy 106 = .ok (.aload_n 0, 1) := by decide +kernel
theorem dX2_worthBy_107 : decode cX2_worthBy 107 = .ok (.getfield 22, 3) := by decide +kernel
theorem dX2_worthBy_110 : decode cX2_worthBy 110 = .ok (.bipush 6, 2) := by decide +kernel
theorem dX2_worthBy_112 : decode cX2_worthBy 112 = .ok (.if_icmp .ne 15, 3) := by decide +kernel
theorem dX2_worthBy_115 : decode cX2_worthBy 115 = .ok (.aload_n 0, 1) := by decide +kernel
theorem dX2_worthBy_116 : decode cX2_worthBy 116 = .ok (.getfield 9, 3) := by decide +kernel
theorem dX2_worthBy_119 : decode cX2_worthBy 119 = .ok (.i2l, 1) := by decide +kernel
theorem dX2_worthBy_120 : decode cX2_worthBy 120 = .ok (.ldc2_w 25, 3) := by decide +kernel
theorem dX2_worthBy_123 : decode cX2_worthBy 123 = .ok (.ladd, 1) := by decide +kernel
theorem dX2_worthBy_124 : decode cX2_worthBy 124 = .ok (.goto 12, 3) := by decide +kernel
theorem dX2_worthBy_127 : decode cX2_worthBy 127 = .ok (.ldc2_w 18, 3) := by decide +kernel
theorem dX2_worthBy_130 : decode cX2_worthBy 130 = .ok (.aload_n 0, 1) := by decide +kernel
theorem dX2_worthBy_131 : decode cX2_worthBy 131 = .ok (.getfield 9, 3) := by decide +kernel
theorem dX2_worthBy_134 : decode cX2_worthBy 134 = .ok (.i2l, 1) := by decide +kernel
theorem dX2_worthBy_135 : decode cX2_worthBy 135 = .ok (.lmul, 1) := by decide +kernel
theorem dX2_worthBy_136 : decode cX2_worthBy 136 = .ok (.lreturn, 1) := by decide +kernel
theorem dX2_worthBy_137 : decode cX2_worthBy 137 = .ok (.lconst 0, 1) := by decide +kernel
theorem dX2_worthBy_138 : decode cX2_worthBy 138 = .ok (.lreturn, 1) := by decide +kernel
theorem dX2_putOn_0 : decode cX2_putOn 0 = .ok (.aload_n 0, 1) := by decide +kernel
theorem dX2_putOn_1 : decode cX2_putOn 1 = .ok (.dup, 1) := by decide +kernel
theorem dX2_putOn_2 : decode cX2_putOn 2 = .ok (.getfield 15, 3) := by decide +kernel
theorem dX2_putOn_5 : decode cX2_putOn 5 = .ok (.iconst 1, 1) := by decide +kernel
theorem dX2_putOn_6 : decode cX2_putOn 6 = .ok (.iadd, 1) := by decide +kernel
theorem dX2_putOn_7 : decode cX2_putOn 7 = .ok (.putfield 15, 3) := by decide +kernel
theorem dX2_putOn_10 : decode cX2_putOn 10 = .ok (.return_, 1) := by decide +kernel
theorem dX3_init_0 : decode cX3_init 0 = .ok (.aload_n 0, 1) := by decide +kernel
theorem dX3_init_1 : decode cX3_init 1 = .ok (.invokespecial 1, 3) := by decide +kernel
theorem dX3_init_4 : decode cX3_init 4 = .ok (.aload_n 0, 1) := by decide +kernel
theorem dX3_init_5 : decode cX3_init 5 = .ok (.iload_n 1, 1) := by decide +kernel
theorem dX3_init_6 : decode cX3_init 6 = .ok (.putfield 7, 3) := by decide +kernel
theorem dX3_init_9 : decode cX3_init 9 = .ok (.aload_n 0, 1) := by decide +kernel
theorem dX3_init_10 : decode cX3_init 10 = .ok (.iload_n 2, 1) := by decide +kernel
theorem dX3_init_11 : decode cX3_init 11 = .ok (.putfield 13, 3) := by decide +kernel
theorem dX3_init_14 : decode cX3_init 14 = .ok (.return_, 1) := by decide +kernel
theorem dX4_init_0 : decode cX4_init 0 = .ok (.aload_n 0, 1) := by decide +kernel
theorem dX4_init_1 : decode cX4_init 1 = .ok (.iload_n 1, 1) := by decide +kernel
theorem dX4_init_2 : decode cX4_init 2 = .ok (.iload_n 2, 1) := by decide +kernel
theorem dX4_init_3 : decode cX4_init 3 = .ok (.invokespecial 1, 3) := by decide +kernel
theorem dX4_init_6 : decode cX4_init 6 = .ok (.aload_n 0, 1) := by decide +kernel
theorem dX4_init_7 : decode cX4_init 7 = .ok (.iload_n 3, 1) := by decide +kernel
theorem dX4_init_8 : decode cX4_init 8 = .ok (.anewarray 2, 3) := by decide +kernel
theorem dX4_init_11 : decode cX4_init 11 = .ok (.putfield 7, 3) := by decide +kernel
theorem dX4_init_14 : decode cX4_init 14 = .ok (.return_, 1) := by decide +kernel
theorem dX4_hasPlace_0 : decode cX4_hasPlace 0 = .ok (.iload_n 1, 1) := by decide +kernel
theorem dX4_hasPlace_1 : decode cX4_hasPlace 1 = .ok (.ifCond .lt 16, 3) := by decide +kernel
theorem dX4_hasPlace_4 : decode cX4_hasPlace 4 = .ok (.iload_n 1, 1) := by decide +kernel
theorem dX4_hasPlace_5 : decode cX4_hasPlace 5 = .ok (.aload_n 0, 1) := by decide +kernel
theorem dX4_hasPlace_6 : decode cX4_hasPlace 6 = .ok (.getfield 7, 3) := by decide +kernel
theorem dX4_hasPlace_9 : decode cX4_hasPlace 9 = .ok (.arraylength, 1) := by decide +kernel
theorem dX4_hasPlace_10 : decode cX4_hasPlace 10 = .ok (.if_icmp .ge 7, 3) := by decide +kernel
theorem dX4_hasPlace_13 : decode cX4_hasPlace 13 = .ok (.iconst 1, 1) := by decide +kernel
theorem dX4_hasPlace_14 : decode cX4_hasPlace 14 = .ok (.goto 4, 3) := by decide +kernel
theorem dX4_hasPlace_17 : decode cX4_hasPlace 17 = .ok (.iconst 0, 1) := by decide +kernel
theorem dX4_hasPlace_18 : decode cX4_hasPlace 18 = .ok (.ireturn, 1) := by decide +kernel
theorem dX4_worthBy_0 : decode cX4_worthBy 0 = .ok (.lconst 0, 1) := by decide +kernel
theorem dX4_worthBy_1 : decode cX4_worthBy 1 = .ok (.lstore_n 2, 1) := by decide +kernel
theorem dX4_worthBy_2 : decode cX4_worthBy 2 = .ok (.iload_n 1, 1) := by decide +kernel
theorem dX4_worthBy_3 : decode cX4_worthBy 3 = .ok (.invokestatic 13, 3) := by decide +kernel
theorem dX4_worthBy_6 : decode cX4_worthBy 6 = .ok (.ifCond .eq 52, 3) := by decide +kernel
theorem dX4_worthBy_9 : decode cX4_worthBy 9 = .ok (.iconst 0, 1) := by decide +kernel
theorem dX4_worthBy_10 : decode cX4_worthBy 10 = .ok (.istore 4, 2) := by decide +kernel
theorem dX4_worthBy_12 : decode cX4_worthBy 12 = .ok (.iload 4, 2) := by decide +kernel
theorem dX4_worthBy_14 : decode cX4_worthBy 14 = .ok (.aload_n 0, 1) := by decide +kernel
theorem dX4_worthBy_15 : decode cX4_worthBy 15 = .ok (.getfield 7, 3) := by decide +kernel
theorem dX4_worthBy_18 : decode cX4_worthBy 18 = .ok (.arraylength, 1) := by decide +kernel
theorem dX4_worthBy_19 : decode cX4_worthBy 19 = .ok (.if_icmp .ge 39, 3) := by decide +kernel
theorem dX4_worthBy_22 : decode cX4_worthBy 22 = .ok (.aload_n 0, 1) := by decide +kernel
theorem dX4_worthBy_23 : decode cX4_worthBy 23 = .ok (.getfield 7, 3) := by decide +kernel
theorem dX4_worthBy_26 : decode cX4_worthBy 26 = .ok (.iload 4, 2) := by decide +kernel
theorem dX4_worthBy_28 : decode cX4_worthBy 28 = .ok (.aaload, 1) := by decide +kernel
theorem dX4_worthBy_29 : decode cX4_worthBy 29 = .ok (.astore 5, 2) := by decide +kernel
theorem dX4_worthBy_31 : decode cX4_worthBy 31 = .ok (.lload_n 2, 1) := by decide +kernel
theorem dX4_worthBy_32 : decode cX4_worthBy 32 = .ok (.aload 5, 2) := by decide +kernel
theorem dX4_worthBy_34 : decode cX4_worthBy 34 = .ok (.ifnonnull 7, 3) := by decide +kernel
theorem dX4_worthBy_37 : decode cX4_worthBy 37 = .ok (.lconst 0, 1) := by decide +kernel
theorem dX4_worthBy_38 : decode cX4_worthBy 38 = .ok (.goto 12, 3) := by decide +kernel
theorem dX4_worthBy_41 : decode cX4_worthBy 41 = .ok (.aload 5, 2) := by decide +kernel
theorem dX4_worthBy_43 : decode cX4_worthBy 43 = .ok (.iload_n 1, 1) := by decide +kernel
theorem dX4_worthBy_44 : decode cX4_worthBy 44 = .ok (.invokestatic 19, 3) := by decide +kernel
theorem dX4_worthBy_47 : decode cX4_worthBy 47 = .ok (.invokevirtual 23, 3) := by decide +kernel
theorem dX4_worthBy_50 : decode cX4_worthBy 50 = .ok (.ladd, 1) := by decide +kernel
theorem dX4_worthBy_51 : decode cX4_worthBy 51 = .ok (.lstore_n 2, 1) := by decide +kernel
theorem dX4_worthBy_52 : decode cX4_worthBy 52 = .ok (.iinc 4 1, 3) := by decide +kernel
theorem dX4_worthBy_55 : decode cX4_worthBy 55 = .ok (.goto (-43), 3) := by decide +kernel
theorem dX4_worthBy_58 : decode cX4_worthBy 58 = .ok (.lload_n 2, 1) := by decide +kernel
theorem dX4_worthBy_59 : decode cX4_worthBy 59 = .ok (.lreturn, 1) := by decide +kernel
theorem dX4_putOn_0 : decode cX4_putOn 0 = .ok (.iload_n 1, 1) := by decide +kernel
theorem dX4_putOn_1 : decode cX4_putOn 1 = .ok (.invokestatic 13, 3) := by decide +kernel
theorem dX4_putOn_4 : decode cX4_putOn 4 = .ok (.ifCond .eq 39, 3) := by decide +kernel
theorem dX4_putOn_7 : decode cX4_putOn 7 = .ok (.iconst 0, 1) := by decide +kernel
theorem dX4_putOn_8 : decode cX4_putOn 8 = .ok (.istore_n 2, 1) := by decide +kernel
theorem dX4_putOn_9 : decode cX4_putOn 9 = .ok (.iload_n 2, 1) := by decide +kernel
theorem dX4_putOn_10 : decode cX4_putOn 10 = .ok (.aload_n 0, 1) := by decide +kernel
theorem dX4_putOn_11 : decode cX4_putOn 11 = .ok (.getfield 7, 3) := by decide +kernel
theorem dX4_putOn_14 : decode cX4_putOn 14 = .ok (.arraylength, 1) := by decide +kernel
theorem dX4_putOn_15 : decode cX4_putOn 15 = .ok (.if_icmp .ge 28, 3) := by decide +kernel
theorem dX4_putOn_18 : decode cX4_putOn 18 = .ok (.aload_n 0, 1) := by decide +kernel
theorem dX4_putOn_19 : decode cX4_putOn 19 = .ok (.getfield 7, 3) := by decide +kernel
theorem dX4_putOn_22 : decode cX4_putOn 22 = .ok (.iload_n 2, 1) := by decide +kernel
theorem dX4_putOn_23 : decode cX4_putOn 23 = .ok (.aaload, 1) := by decide +kernel
theorem dX4_putOn_24 : decode cX4_putOn 24 = .ok (.astore_n 3, 1) := by decide +kernel
theorem dX4_putOn_25 : decode cX4_putOn 25 = .ok (.aload_n 3, 1) := by decide +kernel
theorem dX4_putOn_26 : decode cX4_putOn 26 = .ok (.ifnull 11, 3) := by decide +kernel
theorem dX4_putOn_29 : decode cX4_putOn 29 = .ok (.aload_n 3, 1) := by decide +kernel
theorem dX4_putOn_30 : decode cX4_putOn 30 = .ok (.iload_n 1, 1) := by decide +kernel
theorem dX4_putOn_31 : decode cX4_putOn 31 = .ok (.invokestatic 19, 3) := by decide +kernel
theorem dX4_putOn_34 : decode cX4_putOn 34 = .ok (.invokevirtual 27, 3) := by decide +kernel
theorem dX4_putOn_37 : decode cX4_putOn 37 = .ok (.iinc 2 1, 3) := by decide +kernel
theorem dX4_putOn_40 : decode cX4_putOn 40 = .ok (.goto (-31), 3) := by decide +kernel
theorem dX4_putOn_43 : decode cX4_putOn 43 = .ok (.return_, 1) := by decide +kernel
theorem dX5_init_0 : decode cX5_init 0 = .ok (.aload_n 0, 1) := by decide +kernel
theorem dX5_init_1 : decode cX5_init 1 = .ok (.invokespecial 3, 3) := by decide +kernel
theorem dX5_init_4 : decode cX5_init 4 = .ok (.aload_n 0, 1) := by decide +kernel
theorem dX5_init_5 : decode cX5_init 5 = .ok (.bipush 50, 2) := by decide +kernel
theorem dX5_init_7 : decode cX5_init 7 = .ok (.anewarray 9, 3) := by decide +kernel
theorem dX5_init_10 : decode cX5_init 10 = .ok (.putfield 11, 3) := by decide +kernel
theorem dX5_init_13 : decode cX5_init 13 = .ok (.aload_n 0, 1) := by decide +kernel
theorem dX5_init_14 : decode cX5_init 14 = .ok (.bipush 10, 2) := by decide +kernel
theorem dX5_init_16 : decode cX5_init 16 = .ok (.anewarray 9, 3) := by decide +kernel
theorem dX5_init_19 : decode cX5_init 19 = .ok (.putfield 15, 3) := by decide +kernel
theorem dX5_init_22 : decode cX5_init 22 = .ok (.aload_n 0, 1) := by decide +kernel
theorem dX5_init_23 : decode cX5_init 23 = .ok (.bipush 30, 2) := by decide +kernel
theorem dX5_init_25 : decode cX5_init 25 = .ok (.anewarray 18, 3) := by decide +kernel
theorem dX5_init_28 : decode cX5_init 28 = .ok (.putfield 20, 3) := by decide +kernel
theorem dX5_init_31 : decode cX5_init 31 = .ok (.aload_n 0, 1) := by decide +kernel
theorem dX5_init_32 : decode cX5_init 32 = .ok (.iconst (-1), 1) := by decide +kernel
theorem dX5_init_33 : decode cX5_init 33 = .ok (.putfield 24, 3) := by decide +kernel
theorem dX5_init_36 : decode cX5_init 36 = .ok (.return_, 1) := by decide +kernel
theorem dX5_prop_0 : decode cX5_prop 0 = .ok (.iload_n 1, 1) := by decide +kernel
theorem dX5_prop_1 : decode cX5_prop 1 = .ok (.ifCond .lt 21, 3) := by decide +kernel
theorem dX5_prop_4 : decode cX5_prop 4 = .ok (.iload_n 1, 1) := by decide +kernel
theorem dX5_prop_5 : decode cX5_prop 5 = .ok (.bipush 15, 2) := by decide +kernel
theorem dX5_prop_7 : decode cX5_prop 7 = .ok (.if_icmp .gt 15, 3) := by decide +kernel
theorem dX5_prop_10 : decode cX5_prop 10 = .ok (.iload_n 2, 1) := by decide +kernel
theorem dX5_prop_11 : decode cX5_prop 11 = .ok (.ifCond .lt 11, 3) := by decide +kernel
theorem dX5_prop_14 : decode cX5_prop 14 = .ok (.iload_n 2, 1) := by decide +kernel
theorem dX5_prop_15 : decode cX5_prop 15 = .ok (.iload_n 1, 1) := by decide +kernel
theorem dX5_prop_16 : decode cX5_prop 16 = .ok (.invokestatic 28, 3) := by decide +kernel
theorem dX5_prop_19 : decode cX5_prop 19 = .ok (.if_icmp .le 6, 3) := by decide +kernel
theorem dX5_prop_22 : decode cX5_prop 22 = .ok (.bipush (-2), 2) := by decide +kernel
theorem dX5_prop_24 : decode cX5_prop 24 = .ok (.ireturn, 1) := by decide +kernel
theorem dX5_prop_25 : decode cX5_prop 25 = .ok (.aload_n 0, 1) := by decide +kernel
theorem dX5_prop_26 : decode cX5_prop 26 = .ok (.getfield 32, 3) := by decide +kernel
theorem dX5_prop_29 : decode cX5_prop 29 = .ok (.bipush 50, 2) := by decide +kernel
theorem dX5_prop_31 : decode cX5_prop 31 = .ok (.if_icmp .lt 6, 3) := by decide +kernel
theorem dX5_prop_34 : decode cX5_prop 34 = .ok (.bipush (-3), 2) := by decide +kernel
theorem dX5_prop_36 : decode cX5_prop 36 = .ok (.ireturn, 1) := by decide +kernel
theorem dX5_prop_37 : decode cX5_prop 37 = .ok (.aload_n 0, 1) := by decide +kernel
theorem dX5_prop_38 : decode cX5_prop 38 = .ok (.getfield 11, 3) := by decide +kernel
theorem dX5_prop_41 : decode cX5_prop 41 = .ok (.aload_n 0, 1) := by decide +kernel
theorem dX5_prop_42 : decode cX5_prop 42 = .ok (.getfield 32, 3) := by decide +kernel
theorem dX5_prop_45 : decode cX5_prop 45 = .ok (.aload_n 0, 1) := by decide +kernel
theorem dX5_prop_46 : decode cX5_prop 46 = .ok (.getfield 32, 3) := by decide +kernel
theorem dX5_prop_49 : decode cX5_prop 49 = .ok (.iload_n 1, 1) := by decide +kernel
theorem dX5_prop_50 : decode cX5_prop 50 = .ok (.iload_n 2, 1) := by decide +kernel
theorem dX5_prop_51 : decode cX5_prop 51 = .ok (.invokestatic 35, 3) := by decide +kernel
theorem dX5_prop_54 : decode cX5_prop 54 = .ok (.aastore, 1) := by decide +kernel
theorem dX5_prop_55 : decode cX5_prop 55 = .ok (.aload_n 0, 1) := by decide +kernel
theorem dX5_prop_56 : decode cX5_prop 56 = .ok (.dup, 1) := by decide +kernel
theorem dX5_prop_57 : decode cX5_prop 57 = .ok (.getfield 32, 3) := by decide +kernel
theorem dX5_prop_60 : decode cX5_prop 60 = .ok (.iconst 1, 1) := by decide +kernel
theorem dX5_prop_61 : decode cX5_prop 61 = .ok (.iadd, 1) := by decide +kernel
theorem dX5_prop_62 : decode cX5_prop 62 = .ok (.putfield 32, 3) := by decide +kernel
theorem dX5_prop_65 : decode cX5_prop 65 = .ok (.aload_n 0, 1) := by decide +kernel
theorem dX5_prop_66 : decode cX5_prop 66 = .ok (.getfield 32, 3) := by decide +kernel
theorem dX5_prop_69 : decode cX5_prop 69 = .ok (.iconst 1, 1) := by decide +kernel
theorem dX5_prop_70 : decode cX5_prop 70 = .ok (.isub, 1) := by decide +kernel
theorem dX5_prop_71 : decode cX5_prop 71 = .ok (.ireturn, 1) := by decide +kernel
theorem dX5_set_0 : decode cX5_set 0 = .ok (.aload_n 0, 1) := by decide +kernel
theorem dX5_set_1 : decode cX5_set 1 = .ok (.iload_n 1, 1) := by decide +kernel
theorem dX5_set_2 : decode cX5_set 2 = .ok (.invokevirtual 39, 3) := by decide +kernel
theorem dX5_set_5 : decode cX5_set 5 = .ok (.astore 4, 2) := by decide +kernel
theorem dX5_set_7 : decode cX5_set 7 = .ok (.aload 4, 2) := by decide +kernel
theorem dX5_set_9 : decode cX5_set 9 = .ok (.ifnonnull 6, 3) := by decide +kernel
theorem dX5_set_12 : decode cX5_set 12 = .ok (.bipush (-2), 2) := by decide +kernel
theorem dX5_set_14 : decode cX5_set 14 = .ok (.ireturn, 1) := by decide +kernel
theorem dX5_set_15 : decode cX5_set 15 = .ok (.aload 4, 2) := by decide +kernel
theorem dX5_set_17 : decode cX5_set 17 = .ok (.instanceof 43, 3) := by decide +kernel
theorem dX5_set_20 : decode cX5_set 20 = .ok (.ifCond .eq 13, 3) := by decide +kernel
theorem dX5_set_23 : decode cX5_set 23 = .ok (.aload 4, 2) := by decide +kernel
theorem dX5_set_25 : decode cX5_set 25 = .ok (.checkcast 43, 3) := by decide +kernel
theorem dX5_set_28 : decode cX5_set 28 = .ok (.astore 5, 2) := by decide +kernel
theorem dX5_set_30 : decode cX5_set 30 = .ok (.goto 6, 3) := by decide +kernel
theorem dX5_set_33 : decode cX5_set 33 = .ok (.bipush (-5), 2) := by decide +kernel
theorem dX5_set_35 : decode cX5_set 35 = .ok (.ireturn, 1) := by decide +kernel
theorem dX5_set_36 : decode cX5_set 36 = .ok (.aload 5, 2) := by decide +kernel
theorem dX5_set_38 : decode cX5_set 38 = .ok (.iload_n 2, 1) := by decide +kernel
theorem dX5_set_39 : decode cX5_set 39 = .ok (.iload_n 3, 1) := by decide +kernel
theorem dX5_set_40 : decode cX5_set 40 = .ok (.invokevirtual 45, 3) := by decide +kernel
theorem dX5_set_43 : decode cX5_set 43 = .ok (.ifCond .eq 7, 3) := by decide +kernel
theorem dX5_set_46 : decode cX5_set 46 = .ok (.iconst 1, 1) := by decide +kernel
theorem dX5_set_47 : decode cX5_set 47 = .ok (.goto 5, 3) := by decide +kernel
theorem dX5_set_50 : decode cX5_set 50 = .ok (.bipush (-6), 2) := by decide +kernel
theorem dX5_set_52 : decode cX5_set 52 = .ok (.ireturn, 1) := by decide +kernel
theorem dX5_slot_0 : decode cX5_slot 0 = .ok (.aload_n 0, 1) := by decide +kernel
theorem dX5_slot_1 : decode cX5_slot 1 = .ok (.iload_n 2, 1) := by decide +kernel
theorem dX5_slot_2 : decode cX5_slot 2 = .ok (.invokevirtual 39, 3) := by decide +kernel
theorem dX5_slot_5 : decode cX5_slot 5 = .ok (.astore_n 3, 1) := by decide +kernel
theorem dX5_slot_6 : decode cX5_slot 6 = .ok (.iload_n 1, 1) := by decide +kernel
theorem dX5_slot_7 : decode cX5_slot 7 = .ok (.invokestatic 49, 3) := by decide +kernel
theorem dX5_slot_10 : decode cX5_slot 10 = .ok (.ifCond .eq 12, 3) := by decide +kernel
theorem dX5_slot_13 : decode cX5_slot 13 = .ok (.aload_n 3, 1) := by decide +kernel
theorem dX5_slot_14 : decode cX5_slot 14 = .ok (.ifnonnull 11, 3) := by decide +kernel
theorem dX5_slot_17 : decode cX5_slot 17 = .ok (.iload_n 2, 1) := by decide +kernel
theorem dX5_slot_18 : decode cX5_slot 18 = .ok (.iconst (-1), 1) := by decide +kernel
theorem dX5_slot_19 : decode cX5_slot 19 = .ok (.if_icmp .eq 6, 3) := by decide +kernel
theorem dX5_slot_22 : decode cX5_slot 22 = .ok (.bipush (-2), 2) := by decide +kernel
theorem dX5_slot_24 : decode cX5_slot 24 = .ok (.ireturn, 1) := by decide +kernel
theorem dX5_slot_25 : decode cX5_slot 25 = .ok (.aload_n 0, 1) := by decide +kernel
theorem dX5_slot_26 : decode cX5_slot 26 = .ok (.getfield 15, 3) := by decide +kernel
theorem dX5_slot_29 : decode cX5_slot 29 = .ok (.iload_n 1, 1) := by decide +kernel
theorem dX5_slot_30 : decode cX5_slot 30 = .ok (.aaload, 1) := by decide +kernel
theorem dX5_slot_31 : decode cX5_slot 31 = .ok (.astore 4, 2) := by decide +kernel
theorem dX5_slot_33 : decode cX5_slot 33 = .ok (.aload_n 0, 1) := by decide +kernel
theorem dX5_slot_34 : decode cX5_slot 34 = .ok (.getfield 15, 3) := by decide +kernel
theorem dX5_slot_37 : decode cX5_slot 37 = .ok (.iload_n 1, 1) := by decide +kernel
theorem dX5_slot_38 : decode cX5_slot 38 = .ok (.aload_n 3, 1) := by decide +kernel
theorem dX5_slot_39 : decode cX5_slot 39 = .ok (.aastore, 1) := by decide +kernel
theorem dX5_slot_40 : decode cX5_slot 40 = .ok (.aload 4, 2) := by decide +kernel
theorem dX5_slot_42 : decode cX5_slot 42 = .ok (.invokestatic 53, 3) := by decide +kernel
theorem dX5_slot_45 : decode cX5_slot 45 = .ok (.ireturn, 1) := by decide +kernel
theorem dX5_held_0 : decode cX5_held 0 = .ok (.iload_n 1, 1) := by decide +kernel
theorem dX5_held_1 : decode cX5_held 1 = .ok (.invokestatic 49, 3) := by decide +kernel
theorem dX5_held_4 : decode cX5_held 4 = .ok (.ifCond .eq 15, 3) := by decide +kernel
theorem dX5_held_7 : decode cX5_held 7 = .ok (.aload_n 0, 1) := by decide +kernel
theorem dX5_held_8 : decode cX5_held 8 = .ok (.getfield 15, 3) := by decide +kernel
theorem dX5_held_11 : decode cX5_held 11 = .ok (.iload_n 1, 1) := by decide +kernel
theorem dX5_held_12 : decode cX5_held 12 = .ok (.aaload, 1) := by decide +kernel
theorem dX5_held_13 : decode cX5_held 13 = .ok (.invokestatic 53, 3) := by decide +kernel
theorem dX5_held_16 : decode cX5_held 16 = .ok (.goto 5, 3) := by decide +kernel
theorem dX5_held_19 : decode cX5_held 19 = .ok (.bipush (-2), 2) := by decide +kernel
theorem dX5_held_21 : decode cX5_held 21 = .ok (.ireturn, 1) := by decide +kernel
theorem dX5_hand_0 : decode cX5_hand 0 = .ok (.aload_n 0, 1) := by decide +kernel
theorem dX5_hand_1 : decode cX5_hand 1 = .ok (.getfield 57, 3) := by decide +kernel
theorem dX5_hand_4 : decode cX5_hand 4 = .ok (.invokestatic 53, 3) := by decide +kernel
theorem dX5_hand_7 : decode cX5_hand 7 = .ok (.ireturn, 1) := by decide +kernel
theorem dX5_cue_0 : decode cX5_cue 0 = .ok (.iload_n 1, 1) := by decide +kernel
theorem dX5_cue_1 : decode cX5_cue 1 = .ok (.ifCond .lt 30, 3) := by decide +kernel
theorem dX5_cue_4 : decode cX5_cue 4 = .ok (.iload_n 1, 1) := by decide +kernel
theorem dX5_cue_5 : decode cX5_cue 5 = .ok (.iconst 5, 1) := by decide +kernel
theorem dX5_cue_6 : decode cX5_cue 6 = .ok (.if_icmp .gt 25, 3) := by decide +kernel
theorem dX5_cue_9 : decode cX5_cue 9 = .ok (.iload_n 2, 1) := by decide +kernel
theorem dX5_cue_10 : decode cX5_cue 10 = .ok (.invokestatic 49, 3) := by decide +kernel
theorem dX5_cue_13 : decode cX5_cue 13 = .ok (.ifCond .eq 18, 3) := by decide +kernel
theorem dX5_cue_16 : decode cX5_cue 16 = .ok (.iload_n 3, 1) := by decide +kernel
theorem dX5_cue_17 : decode cX5_cue 17 = .ok (.invokestatic 61, 3) := by decide +kernel
theorem dX5_cue_20 : decode cX5_cue 20 = .ok (.ifCond .eq 11, 3) := by decide +kernel
theorem dX5_cue_23 : decode cX5_cue 23 = .ok (.iload 4, 2) := by decide +kernel
theorem dX5_cue_25 : decode cX5_cue 25 = .ok (.invokestatic 49, 3) := by decide +kernel
theorem dX5_cue_28 : decode cX5_cue 28 = .ok (.ifCond .ne 6, 3) := by decide +kernel
theorem dX5_cue_31 : decode cX5_cue 31 = .ok (.bipush (-2), 2) := by decide +kernel
theorem dX5_cue_33 : decode cX5_cue 33 = .ok (.ireturn, 1) := by decide +kernel
theorem dX5_cue_34 : decode cX5_cue 34 = .ok (.getstatic 64, 3) := by decide +kernel
theorem dX5_cue_37 : decode cX5_cue 37 = .ok (.iload_n 1, 1) := by decide +kernel
theorem dX5_cue_38 : decode cX5_cue 38 = .ok (.iaload, 1) := by decide +kernel
theorem dX5_cue_39 : decode cX5_cue 39 = .ok (.iload_n 3, 1) := by decide +kernel
theorem dX5_cue_40 : decode cX5_cue 40 = .ok (.invokestatic 68, 3) := by decide +kernel
theorem dX5_cue_43 : decode cX5_cue 43 = .ok (.ifCond .ne 6, 3) := by decide +kernel
theorem dX5_cue_46 : decode cX5_cue 46 = .ok (.bipush (-2), 2) := by decide +kernel
theorem dX5_cue_48 : decode cX5_cue 48 = .ok (.ireturn, 1) := by decide +kernel
theorem dX5_cue_49 : decode cX5_cue 49 = .ok (.aload_n 0, 1) := by decide +kernel
theorem dX5_cue_50 : decode cX5_cue 50 = .ok (.getfield 71, 3) := by decide +kernel
theorem dX5_cue_53 : decode cX5_cue 53 = .ok (.bipush 30, 2) := by decide +kernel
theorem dX5_cue_55 : decode cX5_cue 55 = .ok (.if_icmp .lt 6, 3) := by decide +kernel
theorem dX5_cue_58 : decode cX5_cue 58 = .ok (.bipush (-3), 2) := by decide +kernel
theorem dX5_cue_60 : decode cX5_cue 60 = .ok (.ireturn, 1) := by decide +kernel
theorem dX5_cue_61 : decode cX5_cue 61 = .ok (.aload_n 0, 1) := by decide +kernel
theorem dX5_cue_62 : decode cX5_cue 62 = .ok (.getfield 20, 3) := by decide +kernel
theorem dX5_cue_65 : decode cX5_cue 65 = .ok (.aload_n 0, 1) := by decide +kernel
theorem dX5_cue_66 : decode cX5_cue 66 = .ok (.getfield 71, 3) := by decide +kernel
theorem dX5_cue_69 : decode cX5_cue 69 = .ok (.new 18, 3) := by decide +kernel
theorem dX5_cue_72 : decode cX5_cue 72 = .ok (.dup, 1) := by decide +kernel
theorem dX5_cue_73 : decode cX5_cue 73 = .ok (.iload_n 1, 1) := by decide +kernel
theorem dX5_cue_74 : decode cX5_cue 74 = .ok (.iload_n 2, 1) := by decide +kernel
theorem dX5_cue_75 : decode cX5_cue 75 = .ok (.iload_n 3, 1) := by decide +kernel
theorem dX5_cue_76 : decode cX5_cue 76 = .ok (.iload 4, 2) := by decide +kernel
theorem dX5_cue_78 : decode cX5_cue 78 = .ok (.invokespecial 74, 3) := by decide +kernel
theorem dX5_cue_81 : decode cX5_cue 81 = .ok (.aastore, 1) := by decide +kernel
theorem dX5_cue_82 : decode cX5_cue 82 = .ok (.aload_n 0, 1) := by decide +kernel
theorem dX5_cue_83 : decode cX5_cue 83 = .ok (.dup, 1) := by decide +kernel
theorem dX5_cue_84 : decode cX5_cue 84 = .ok (.getfield 71, 3) := by decide +kernel
theorem dX5_cue_87 : decode cX5_cue 87 = .ok (.iconst 1, 1) := by decide +kernel
theorem dX5_cue_88 : decode cX5_cue 88 = .ok (.iadd, 1) := by decide +kernel
theorem dX5_cue_89 : decode cX5_cue 89 = .ok (.putfield 71, 3) := by decide +kernel
theorem dX5_cue_92 : decode cX5_cue 92 = .ok (.aload_n 0, 1) := by decide +kernel
end
section
theorem dX5_cue_93 : decode cX5_cue 93 = .ok (.getfield 71, 3) := by decide +kernel
theorem dX5_cue_96 : decode cX5_cue 96 = .ok (.iconst 1, 1) := by decide +kernel
theorem dX5_cue_97 : decode cX5_cue 97 = .ok (.isub, 1) := by decide +kernel
theorem dX5_cue_98 : decode cX5_cue 98 = .ok (.ireturn, 1) := by decide +kernel
theorem dX5_strike_0 : decode cX5_strike 0 = .ok (.aload_n 0, 1) := by decide +kernel
theorem dX5_strike_1 : decode cX5_strike 1 = .ok (.getfield 71, 3) := by decide +kernel
theorem dX5_strike_4 : decode cX5_strike 4 = .ok (.istore_n 1, 1) := by decide +kernel
theorem dX5_strike_5 : decode cX5_strike 5 = .ok (.aload_n 0, 1) := by decide +kernel
theorem dX5_strike_6 : decode cX5_strike 6 = .ok (.iconst 0, 1) := by decide +kernel
theorem dX5_strike_7 : decode cX5_strike 7 = .ok (.putfield 71, 3) := by decide +kernel
theorem dX5_strike_10 : decode cX5_strike 10 = .ok (.iload_n 1, 1) := by decide +kernel
theorem dX5_strike_11 : decode cX5_strike 11 = .ok (.ireturn, 1) := by decide +kernel
theorem dX5_play_0 : decode cX5_play 0 = .ok (.iload_n 1, 1) := by decide +kernel
theorem dX5_play_1 : decode cX5_play 1 = .ok (.ifCond .lt 16, 3) := by decide +kernel
theorem dX5_play_4 : decode cX5_play 4 = .ok (.iload_n 2, 1) := by decide +kernel
theorem dX5_play_5 : decode cX5_play 5 = .ok (.iload_n 1, 1) := by decide +kernel
theorem dX5_play_6 : decode cX5_play 6 = .ok (.if_icmp .lt 11, 3) := by decide +kernel
theorem dX5_play_9 : decode cX5_play 9 = .ok (.iload_n 2, 1) := by decide +kernel
theorem dX5_play_10 : decode cX5_play 10 = .ok (.aload_n 0, 1) := by decide +kernel
theorem dX5_play_11 : decode cX5_play 11 = .ok (.getfield 71, 3) := by decide +kernel
theorem dX5_play_14 : decode cX5_play 14 = .ok (.if_icmp .lt 6, 3) := by decide +kernel
theorem dX5_play_17 : decode cX5_play 17 = .ok (.bipush (-2), 2) := by decide +kernel
theorem dX5_play_19 : decode cX5_play 19 = .ok (.ireturn, 1) := by decide +kernel
theorem dX5_play_20 : decode cX5_play 20 = .ok (.aload_n 0, 1) := by decide +kernel
theorem dX5_play_21 : decode cX5_play 21 = .ok (.iconst 0, 1) := by decide +kernel
theorem dX5_play_22 : decode cX5_play 22 = .ok (.putfield 77, 3) := by decide +kernel
theorem dX5_play_25 : decode cX5_play 25 = .ok (.aload_n 0, 1) := by decide +kernel
theorem dX5_play_26 : decode cX5_play 26 = .ok (.iconst (-1), 1) := by decide +kernel
theorem dX5_play_27 : decode cX5_play 27 = .ok (.putfield 24, 3) := by decide +kernel
theorem dX5_play_30 : decode cX5_play 30 = .ok (.iload_n 1, 1) := by decide +kernel
theorem dX5_play_31 : decode cX5_play 31 = .ok (.istore_n 3, 1) := by decide +kernel
theorem dX5_play_32 : decode cX5_play 32 = .ok (.iload_n 3, 1) := by decide +kernel
theorem dX5_play_33 : decode cX5_play 33 = .ok (.iload_n 2, 1) := by decide +kernel
theorem dX5_play_34 : decode cX5_play 34 = .ok (.if_icmp .gt 51, 3) := by decide +kernel
theorem dX5_play_37 : decode cX5_play 37 = .ok (.aload_n 0, 1) := by decide +kernel
theorem dX5_play_38 : decode cX5_play 38 = .ok (.aload_n 0, 1) := by decide +kernel
theorem dX5_play_39 : decode cX5_play 39 = .ok (.getfield 20, 3) := by decide +kernel
theorem dX5_play_42 : decode cX5_play 42 = .ok (.iload_n 3, 1) := by decide +kernel
theorem dX5_play_43 : decode cX5_play 43 = .ok (.aaload, 1) := by decide +kernel
theorem dX5_play_44 : decode cX5_play 44 = .ok (.invokevirtual 80, 3) := by decide +kernel
theorem dX5_play_47 : decode cX5_play 47 = .ok (.istore 4, 2) := by decide +kernel
theorem dX5_play_49 : decode cX5_play 49 = .ok (.iload 4, 2) := by decide +kernel
theorem dX5_play_51 : decode cX5_play 51 = .ok (.ifCond .eq 28, 3) := by decide +kernel
theorem dX5_play_54 : decode cX5_play 54 = .ok (.aload_n 0, 1) := by decide +kernel
theorem dX5_play_55 : decode cX5_play 55 = .ok (.iload 4, 2) := by decide +kernel
theorem dX5_play_57 : decode cX5_play 57 = .ok (.putfield 77, 3) := by decide +kernel
theorem dX5_play_60 : decode cX5_play 60 = .ok (.aload_n 0, 1) := by decide +kernel
theorem dX5_play_61 : decode cX5_play 61 = .ok (.iload_n 3, 1) := by decide +kernel
theorem dX5_play_62 : decode cX5_play 62 = .ok (.putfield 24, 3) := by decide +kernel
theorem dX5_play_65 : decode cX5_play 65 = .ok (.aload_n 0, 1) := by decide +kernel
theorem dX5_play_66 : decode cX5_play 66 = .ok (.dup, 1) := by decide +kernel
theorem dX5_play_67 : decode cX5_play 67 = .ok (.getfield 84, 3) := by decide +kernel
theorem dX5_play_70 : decode cX5_play 70 = .ok (.iconst 1, 1) := by decide +kernel
theorem dX5_play_71 : decode cX5_play 71 = .ok (.iadd, 1) := by decide +kernel
theorem dX5_play_72 : decode cX5_play 72 = .ok (.putfield 84, 3) := by decide +kernel
theorem dX5_play_75 : decode cX5_play 75 = .ok (.iload_n 3, 1) := by decide +kernel
theorem dX5_play_76 : decode cX5_play 76 = .ok (.iload_n 1, 1) := by decide +kernel
theorem dX5_play_77 : decode cX5_play 77 = .ok (.isub, 1) := by decide +kernel
theorem dX5_play_78 : decode cX5_play 78 = .ok (.ireturn, 1) := by decide +kernel
theorem dX5_play_79 : decode cX5_play 79 = .ok (.iinc 3 1, 3) := by decide +kernel
theorem dX5_play_82 : decode cX5_play 82 = .ok (.goto (-50), 3) := by decide +kernel
theorem dX5_play_85 : decode cX5_play 85 = .ok (.iload_n 2, 1) := by decide +kernel
theorem dX5_play_86 : decode cX5_play 86 = .ok (.iload_n 1, 1) := by decide +kernel
theorem dX5_play_87 : decode cX5_play 87 = .ok (.isub, 1) := by decide +kernel
theorem dX5_play_88 : decode cX5_play 88 = .ok (.iconst 1, 1) := by decide +kernel
theorem dX5_play_89 : decode cX5_play 89 = .ok (.iadd, 1) := by decide +kernel
theorem dX5_play_90 : decode cX5_play 90 = .ok (.ireturn, 1) := by decide +kernel
theorem dX5_miscue_0 : decode cX5_miscue 0 = .ok (.iload_n 1, 1) := by decide +kernel
theorem dX5_miscue_1 : decode cX5_miscue 1 = .ok (.tableswitch 42 0 2 #[27, 32, 37], 27) := by decide +kernel
theorem dX5_miscue_28 : decode cX5_miscue 28 = .ok (.aload_n 0, 1) := by decide +kernel
theorem dX5_miscue_29 : decode cX5_miscue 29 = .ok (.getfield 77, 3) := by decide +kernel
theorem dX5_miscue_32 : decode cX5_miscue 32 = .ok (.ireturn, 1) := by decide +kernel
theorem dX5_miscue_33 : decode cX5_miscue 33 = .ok (.aload_n 0, 1) := by decide +kernel
theorem dX5_miscue_34 : decode cX5_miscue 34 = .ok (.getfield 24, 3) := by decide +kernel
theorem dX5_miscue_37 : decode cX5_miscue 37 = .ok (.ireturn, 1) := by decide +kernel
theorem dX5_miscue_38 : decode cX5_miscue 38 = .ok (.aload_n 0, 1) := by decide +kernel
theorem dX5_miscue_39 : decode cX5_miscue 39 = .ok (.getfield 84, 3) := by decide +kernel
theorem dX5_miscue_42 : decode cX5_miscue 42 = .ok (.ireturn, 1) := by decide +kernel
theorem dX5_miscue_43 : decode cX5_miscue 43 = .ok (.bipush (-2), 2) := by decide +kernel
theorem dX5_miscue_45 : decode cX5_miscue 45 = .ok (.ireturn, 1) := by decide +kernel
theorem dX5_points_0 : decode cX5_points 0 = .ok (.aload_n 0, 1) := by decide +kernel
theorem dX5_points_1 : decode cX5_points 1 = .ok (.getfield 87, 3) := by decide +kernel
theorem dX5_points_4 : decode cX5_points 4 = .ok (.lreturn, 1) := by decide +kernel
theorem dX5_is_0 : decode cX5_is 0 = .ok (.aload_n 0, 1) := by decide +kernel
theorem dX5_is_1 : decode cX5_is 1 = .ok (.iload_n 1, 1) := by decide +kernel
theorem dX5_is_2 : decode cX5_is 2 = .ok (.invokevirtual 39, 3) := by decide +kernel
theorem dX5_is_5 : decode cX5_is 5 = .ok (.astore_n 3, 1) := by decide +kernel
theorem dX5_is_6 : decode cX5_is 6 = .ok (.aload_n 3, 1) := by decide +kernel
theorem dX5_is_7 : decode cX5_is 7 = .ok (.ifnull 10, 3) := by decide +kernel
theorem dX5_is_10 : decode cX5_is 10 = .ok (.iload_n 2, 1) := by decide +kernel
theorem dX5_is_11 : decode cX5_is 11 = .ok (.invokestatic 61, 3) := by decide +kernel
theorem dX5_is_14 : decode cX5_is 14 = .ok (.ifCond .ne 6, 3) := by decide +kernel
theorem dX5_is_17 : decode cX5_is 17 = .ok (.bipush (-2), 2) := by decide +kernel
theorem dX5_is_19 : decode cX5_is 19 = .ok (.ireturn, 1) := by decide +kernel
theorem dX5_is_20 : decode cX5_is 20 = .ok (.aload_n 3, 1) := by decide +kernel
theorem dX5_is_21 : decode cX5_is 21 = .ok (.iload_n 2, 1) := by decide +kernel
theorem dX5_is_22 : decode cX5_is 22 = .ok (.invokestatic 91, 3) := by decide +kernel
theorem dX5_is_25 : decode cX5_is 25 = .ok (.ifCond .eq 7, 3) := by decide +kernel
theorem dX5_is_28 : decode cX5_is 28 = .ok (.iconst 1, 1) := by decide +kernel
theorem dX5_is_29 : decode cX5_is 29 = .ok (.goto 4, 3) := by decide +kernel
theorem dX5_is_32 : decode cX5_is 32 = .ok (.iconst 0, 1) := by decide +kernel
theorem dX5_is_33 : decode cX5_is 33 = .ok (.ireturn, 1) := by decide +kernel
theorem dX5_worth_0 : decode cX5_worth 0 = .ok (.aload_n 0, 1) := by decide +kernel
theorem dX5_worth_1 : decode cX5_worth 1 = .ok (.iload_n 1, 1) := by decide +kernel
theorem dX5_worth_2 : decode cX5_worth 2 = .ok (.invokevirtual 39, 3) := by decide +kernel
theorem dX5_worth_5 : decode cX5_worth 5 = .ok (.astore_n 3, 1) := by decide +kernel
theorem dX5_worth_6 : decode cX5_worth 6 = .ok (.aload_n 3, 1) := by decide +kernel
theorem dX5_worth_7 : decode cX5_worth 7 = .ok (.ifnull 18, 3) := by decide +kernel
theorem dX5_worth_10 : decode cX5_worth 10 = .ok (.iload_n 2, 1) := by decide +kernel
theorem dX5_worth_11 : decode cX5_worth 11 = .ok (.invokestatic 61, 3) := by decide +kernel
theorem dX5_worth_14 : decode cX5_worth 14 = .ok (.ifCond .eq 11, 3) := by decide +kernel
theorem dX5_worth_17 : decode cX5_worth 17 = .ok (.aload_n 3, 1) := by decide +kernel
theorem dX5_worth_18 : decode cX5_worth 18 = .ok (.iload_n 2, 1) := by decide +kernel
theorem dX5_worth_19 : decode cX5_worth 19 = .ok (.invokestatic 91, 3) := by decide +kernel
theorem dX5_worth_22 : decode cX5_worth 22 = .ok (.ifCond .ne 5, 3) := by decide +kernel
theorem dX5_worth_25 : decode cX5_worth 25 = .ok (.lconst 0, 1) := by decide +kernel
theorem dX5_worth_26 : decode cX5_worth 26 = .ok (.lreturn, 1) := by decide +kernel
theorem dX5_worth_27 : decode cX5_worth 27 = .ok (.aload_n 3, 1) := by decide +kernel
theorem dX5_worth_28 : decode cX5_worth 28 = .ok (.iload_n 2, 1) := by decide +kernel
theorem dX5_worth_29 : decode cX5_worth 29 = .ok (.invokevirtual 95, 3) := by decide +kernel
theorem dX5_worth_32 : decode cX5_worth 32 = .ok (.lreturn, 1) := by decide +kernel
theorem dX5_wear_0 : decode cX5_wear 0 = .ok (.aload_n 0, 1) := by decide +kernel
theorem dX5_wear_1 : decode cX5_wear 1 = .ok (.iload_n 1, 1) := by decide +kernel
theorem dX5_wear_2 : decode cX5_wear 2 = .ok (.invokevirtual 39, 3) := by decide +kernel
theorem dX5_wear_5 : decode cX5_wear 5 = .ok (.astore_n 2, 1) := by decide +kernel
theorem dX5_wear_6 : decode cX5_wear 6 = .ok (.aload_n 2, 1) := by decide +kernel
theorem dX5_wear_7 : decode cX5_wear 7 = .ok (.ifnonnull 6, 3) := by decide +kernel
theorem dX5_wear_10 : decode cX5_wear 10 = .ok (.bipush (-2), 2) := by decide +kernel
theorem dX5_wear_12 : decode cX5_wear 12 = .ok (.ireturn, 1) := by decide +kernel
theorem dX5_wear_13 : decode cX5_wear 13 = .ok (.aload_n 2, 1) := by decide +kernel
theorem dX5_wear_14 : decode cX5_wear 14 = .ok (.instanceof 99, 3) := by decide +kernel
theorem dX5_wear_17 : decode cX5_wear 17 = .ok (.ifCond .eq 17, 3) := by decide +kernel
theorem dX5_wear_20 : decode cX5_wear 20 = .ok (.aload_n 2, 1) := by decide +kernel
theorem dX5_wear_21 : decode cX5_wear 21 = .ok (.checkcast 99, 3) := by decide +kernel
theorem dX5_wear_24 : decode cX5_wear 24 = .ok (.astore_n 3, 1) := by decide +kernel
theorem dX5_wear_25 : decode cX5_wear 25 = .ok (.aload_n 3, 1) := by decide +kernel
theorem dX5_wear_26 : decode cX5_wear 26 = .ok (.getfield 101, 3) := by decide +kernel
theorem dX5_wear_29 : decode cX5_wear 29 = .ok (.bipush 7, 2) := by decide +kernel
theorem dX5_wear_31 : decode cX5_wear 31 = .ok (.if_icmp .ne 6, 3) := by decide +kernel
theorem dX5_wear_34 : decode cX5_wear 34 = .ok (.bipush (-5), 2) := by decide +kernel
theorem dX5_wear_36 : decode cX5_wear 36 = .ok (.ireturn, 1) := by decide +kernel
theorem dX5_wear_37 : decode cX5_wear 37 = .ok (.aload_n 3, 1) := by decide +kernel
theorem dX5_wear_38 : decode cX5_wear 38 = .ok (.getfield 104, 3) := by decide +kernel
theorem dX5_wear_41 : decode cX5_wear 41 = .ok (.ireturn, 1) := by decide +kernel
theorem dX5_at_0 : decode cX5_at 0 = .ok (.aload_n 0, 1) := by decide +kernel
theorem dX5_at_1 : decode cX5_at 1 = .ok (.iload_n 1, 1) := by decide +kernel
theorem dX5_at_2 : decode cX5_at 2 = .ok (.invokevirtual 39, 3) := by decide +kernel
theorem dX5_at_5 : decode cX5_at 5 = .ok (.astore_n 3, 1) := by decide +kernel
theorem dX5_at_6 : decode cX5_at 6 = .ok (.aload_n 3, 1) := by decide +kernel
theorem dX5_at_7 : decode cX5_at 7 = .ok (.ifnonnull 6, 3) := by decide +kernel
theorem dX5_at_10 : decode cX5_at 10 = .ok (.bipush (-2), 2) := by decide +kernel
theorem dX5_at_12 : decode cX5_at 12 = .ok (.ireturn, 1) := by decide +kernel
theorem dX5_at_13 : decode cX5_at 13 = .ok (.aload_n 3, 1) := by decide +kernel
theorem dX5_at_14 : decode cX5_at 14 = .ok (.instanceof 107, 3) := by decide +kernel
theorem dX5_at_17 : decode cX5_at 17 = .ok (.ifCond .eq 12, 3) := by decide +kernel
theorem dX5_at_20 : decode cX5_at 20 = .ok (.aload_n 3, 1) := by decide +kernel
theorem dX5_at_21 : decode cX5_at 21 = .ok (.checkcast 107, 3) := by decide +kernel
theorem dX5_at_24 : decode cX5_at 24 = .ok (.astore 4, 2) := by decide +kernel
theorem dX5_at_26 : decode cX5_at 26 = .ok (.goto 6, 3) := by decide +kernel
theorem dX5_at_29 : decode cX5_at 29 = .ok (.bipush (-5), 2) := by decide +kernel
theorem dX5_at_31 : decode cX5_at 31 = .ok (.ireturn, 1) := by decide +kernel
theorem dX5_at_32 : decode cX5_at 32 = .ok (.aload 4, 2) := by decide +kernel
theorem dX5_at_34 : decode cX5_at 34 = .ok (.iload_n 2, 1) := by decide +kernel
theorem dX5_at_35 : decode cX5_at 35 = .ok (.invokevirtual 109, 3) := by decide +kernel
theorem dX5_at_38 : decode cX5_at 38 = .ok (.ifCond .eq 16, 3) := by decide +kernel
theorem dX5_at_41 : decode cX5_at 41 = .ok (.aload 4, 2) := by decide +kernel
theorem dX5_at_43 : decode cX5_at 43 = .ok (.getfield 112, 3) := by decide +kernel
theorem dX5_at_46 : decode cX5_at 46 = .ok (.iload_n 2, 1) := by decide +kernel
theorem dX5_at_47 : decode cX5_at 47 = .ok (.aaload, 1) := by decide +kernel
theorem dX5_at_48 : decode cX5_at 48 = .ok (.invokestatic 53, 3) := by decide +kernel
theorem dX5_at_51 : decode cX5_at 51 = .ok (.goto 5, 3) := by decide +kernel
theorem dX5_at_54 : decode cX5_at 54 = .ok (.bipush (-6), 2) := by decide +kernel
theorem dX5_at_56 : decode cX5_at 56 = .ok (.ireturn, 1) := by decide +kernel
theorem dX5_count_0 : decode cX5_count 0 = .ok (.iload_n 1, 1) := by decide +kernel
theorem dX5_count_1 : decode cX5_count 1 = .ok (.lookupswitch 37 #[(0, 27), (1, 32)], 27) := by decide +kernel
theorem dX5_count_28 : decode cX5_count 28 = .ok (.aload_n 0, 1) := by decide +kernel
theorem dX5_count_29 : decode cX5_count 29 = .ok (.getfield 32, 3) := by decide +kernel
theorem dX5_count_32 : decode cX5_count 32 = .ok (.ireturn, 1) := by decide +kernel
theorem dX5_count_33 : decode cX5_count 33 = .ok (.aload_n 0, 1) := by decide +kernel
theorem dX5_count_34 : decode cX5_count 34 = .ok (.getfield 71, 3) := by decide +kernel
theorem dX5_count_37 : decode cX5_count 37 = .ok (.ireturn, 1) := by decide +kernel
theorem dX5_count_38 : decode cX5_count 38 = .ok (.bipush (-2), 2) := by decide +kernel
theorem dX5_count_40 : decode cX5_count 40 = .ok (.ireturn, 1) := by decide +kernel
theorem dX5_perform_0 : decode cX5_perform 0 = .ok (.aload_n 0, 1) := by decide +kernel
theorem dX5_perform_1 : decode cX5_perform 1 = .ok (.getfield 15, 3) := by decide +kernel
theorem dX5_perform_4 : decode cX5_perform 4 = .ok (.aload_n 1, 1) := by decide +kernel
theorem dX5_perform_5 : decode cX5_perform 5 = .ok (.getfield 115, 3) := by decide +kernel
theorem dX5_perform_8 : decode cX5_perform 8 = .ok (.aaload, 1) := by decide +kernel
theorem dX5_perform_9 : decode cX5_perform 9 = .ok (.astore_n 2, 1) := by decide +kernel
theorem dX5_perform_10 : decode cX5_perform 10 = .ok (.aload_n 2, 1) := by decide +kernel
theorem dX5_perform_11 : decode cX5_perform 11 = .ok (.aload_n 1, 1) := by decide +kernel
theorem dX5_perform_12 : decode cX5_perform 12 = .ok (.getfield 118, 3) := by decide +kernel
theorem dX5_perform_15 : decode cX5_perform 15 = .ok (.invokestatic 91, 3) := by decide +kernel
theorem dX5_perform_18 : decode cX5_perform 18 = .ok (.ifCond .ne 6, 3) := by decide +kernel
theorem dX5_perform_21 : decode cX5_perform 21 = .ok (.bipush (-5), 2) := by decide +kernel
theorem dX5_perform_23 : decode cX5_perform 23 = .ok (.ireturn, 1) := by decide +kernel
theorem dX5_perform_24 : decode cX5_perform 24 = .ok (.aload_n 1, 1) := by decide +kernel
theorem dX5_perform_25 : decode cX5_perform 25 = .ok (.getfield 121, 3) := by decide +kernel
theorem dX5_perform_28 : decode cX5_perform 28 = .ok (.tableswitch 99 0 4 #[36, 46, 55, 65, 79], 36) := by decide +kernel
theorem dX5_perform_64 : decode cX5_perform 64 = .ok (.aload_n 0, 1) := by decide +kernel
theorem dX5_perform_65 : decode cX5_perform 65 = .ok (.aload_n 2, 1) := by decide +kernel
theorem dX5_perform_66 : decode cX5_perform 66 = .ok (.aload_n 1, 1) := by decide +kernel
theorem dX5_perform_67 : decode cX5_perform 67 = .ok (.getfield 118, 3) := by decide +kernel
theorem dX5_perform_70 : decode cX5_perform 70 = .ok (.invokevirtual 124, 3) := by decide +kernel
theorem dX5_perform_73 : decode cX5_perform 73 = .ok (.ireturn, 1) := by decide +kernel
theorem dX5_perform_74 : decode cX5_perform 74 = .ok (.aload_n 2, 1) := by decide +kernel
theorem dX5_perform_75 : decode cX5_perform 75 = .ok (.aload_n 1, 1) := by decide +kernel
theorem dX5_perform_76 : decode cX5_perform 76 = .ok (.getfield 118, 3) := by decide +kernel
theorem dX5_perform_79 : decode cX5_perform 79 = .ok (.invokestatic 128, 3) := by decide +kernel
theorem dX5_perform_82 : decode cX5_perform 82 = .ok (.ireturn, 1) := by decide +kernel
theorem dX5_perform_83 : decode cX5_perform 83 = .ok (.aload_n 0, 1) := by decide +kernel
theorem dX5_perform_84 : decode cX5_perform 84 = .ok (.aload_n 2, 1) := by decide +kernel
theorem dX5_perform_85 : decode cX5_perform 85 = .ok (.aload_n 1, 1) := by decide +kernel
theorem dX5_perform_86 : decode cX5_perform 86 = .ok (.getfield 131, 3) := by decide +kernel
theorem dX5_perform_89 : decode cX5_perform 89 = .ok (.invokevirtual 134, 3) := by decide +kernel
theorem dX5_perform_92 : decode cX5_perform 92 = .ok (.ireturn, 1) := by decide +kernel
theorem dX5_perform_93 : decode cX5_perform 93 = .ok (.aload_n 0, 1) := by decide +kernel
theorem dX5_perform_94 : decode cX5_perform 94 = .ok (.aload_n 2, 1) := by decide +kernel
theorem dX5_perform_95 : decode cX5_perform 95 = .ok (.aload_n 1, 1) := by decide +kernel
theorem dX5_perform_96 : decode cX5_perform 96 = .ok (.getfield 118, 3) := by decide +kernel
theorem dX5_perform_99 : decode cX5_perform 99 = .ok (.aload_n 1, 1) := by decide +kernel
theorem dX5_perform_100 : decode cX5_perform 100 = .ok (.getfield 131, 3) := by decide +kernel
theorem dX5_perform_103 : decode cX5_perform 103 = .ok (.invokevirtual 137, 3) := by decide +kernel
theorem dX5_perform_106 : decode cX5_perform 106 = .ok (.ireturn, 1) := by decide +kernel
theorem dX5_perform_107 : decode cX5_perform 107 = .ok (.aload_n 0, 1) := by decide +kernel
theorem dX5_perform_108 : decode cX5_perform 108 = .ok (.getfield 15, 3) := by decide +kernel
theorem dX5_perform_111 : decode cX5_perform 111 = .ok (.aload_n 1, 1) := by decide +kernel
theorem dX5_perform_112 : decode cX5_perform 112 = .ok (.getfield 115, 3) := by decide +kernel
theorem dX5_perform_115 : decode cX5_perform 115 = .ok (.aload_n 0, 1) := by decide +kernel
theorem dX5_perform_116 : decode cX5_perform 116 = .ok (.getfield 57, 3) := by decide +kernel
theorem dX5_perform_119 : decode cX5_perform 119 = .ok (.aastore, 1) := by decide +kernel
theorem dX5_perform_120 : decode cX5_perform 120 = .ok (.aload_n 0, 1) := by decide +kernel
theorem dX5_perform_121 : decode cX5_perform 121 = .ok (.aload_n 2, 1) := by decide +kernel
theorem dX5_perform_122 : decode cX5_perform 122 = .ok (.putfield 57, 3) := by decide +kernel
theorem dX5_perform_125 : decode cX5_perform 125 = .ok (.iconst 0, 1) := by decide +kernel
theorem dX5_perform_126 : decode cX5_perform 126 = .ok (.ireturn, 1) := by decide +kernel
theorem dX5_perform_127 : decode cX5_perform 127 = .ok (.aload_n 0, 1) := by decide +kernel
theorem dX5_perform_128 : decode cX5_perform 128 = .ok (.getfield 15, 3) := by decide +kernel
theorem dX5_perform_131 : decode cX5_perform 131 = .ok (.aload_n 1, 1) := by decide +kernel
theorem dX5_perform_132 : decode cX5_perform 132 = .ok (.getfield 131, 3) := by decide +kernel
theorem dX5_perform_135 : decode cX5_perform 135 = .ok (.aload_n 2, 1) := by decide +kernel
theorem dX5_perform_136 : decode cX5_perform 136 = .ok (.aastore, 1) := by decide +kernel
theorem dX5_perform_137 : decode cX5_perform 137 = .ok (.iconst 0, 1) := by decide +kernel
theorem dX5_perform_138 : decode cX5_perform 138 = .ok (.ireturn, 1) := by decide +kernel
theorem dX5_showProp_0 : decode cX5_showProp 0 = .ok (.aload_n 1, 1) := by decide +kernel
theorem dX5_showProp_1 : decode cX5_showProp 1 = .ok (.ifnonnull 6, 3) := by decide +kernel
theorem dX5_showProp_4 : decode cX5_showProp 4 = .ok (.bipush (-4), 2) := by decide +kernel
theorem dX5_showProp_6 : decode cX5_showProp 6 = .ok (.ireturn, 1) := by decide +kernel
theorem dX5_showProp_7 : decode cX5_showProp 7 = .ok (.aload_n 0, 1) := by decide +kernel
theorem dX5_showProp_8 : decode cX5_showProp 8 = .ok (.dup, 1) := by decide +kernel
theorem dX5_showProp_9 : decode cX5_showProp 9 = .ok (.getfield 87, 3) := by decide +kernel
theorem dX5_showProp_12 : decode cX5_showProp 12 = .ok (.aload_n 1, 1) := by decide +kernel
theorem dX5_showProp_13 : decode cX5_showProp 13 = .ok (.iload_n 2, 1) := by decide +kernel
theorem dX5_showProp_14 : decode cX5_showProp 14 = .ok (.invokevirtual 95, 3) := by decide +kernel
theorem dX5_showProp_17 : decode cX5_showProp 17 = .ok (.ladd, 1) := by decide +kernel
theorem dX5_showProp_18 : decode cX5_showProp 18 = .ok (.putfield 87, 3) := by decide +kernel
theorem dX5_showProp_21 : decode cX5_showProp 21 = .ok (.iconst 0, 1) := by decide +kernel
theorem dX5_showProp_22 : decode cX5_showProp 22 = .ok (.ireturn, 1) := by decide +kernel
theorem dX5_wearProp_0 : decode cX5_wearProp 0 = .ok (.aload_n 0, 1) := by decide +kernel
theorem dX5_wearProp_1 : decode cX5_wearProp 1 = .ok (.ifnonnull 6, 3) := by decide +kernel
theorem dX5_wearProp_4 : decode cX5_wearProp 4 = .ok (.bipush (-4), 2) := by decide +kernel
theorem dX5_wearProp_6 : decode cX5_wearProp 6 = .ok (.ireturn, 1) := by decide +kernel
theorem dX5_wearProp_7 : decode cX5_wearProp 7 = .ok (.aload_n 0, 1) := by decide +kernel
theorem dX5_wearProp_8 : decode cX5_wearProp 8 = .ok (.iload_n 1, 1) := by decide +kernel
theorem dX5_wearProp_9 : decode cX5_wearProp 9 = .ok (.invokevirtual 141, 3) := by decide +kernel
theorem dX5_wearProp_12 : decode cX5_wearProp 12 = .ok (.iconst 0, 1) := by decide +kernel
theorem dX5_wearProp_13 : decode cX5_wearProp 13 = .ok (.ireturn, 1) := by decide +kernel
theorem dX5_takePart_0 : decode cX5_takePart 0 = .ok (.aload_n 1, 1) := by decide +kernel
theorem dX5_takePart_1 : decode cX5_takePart 1 = .ok (.instanceof 107, 3) := by decide +kernel
theorem dX5_takePart_4 : decode cX5_takePart 4 = .ok (.ifCond .eq 11, 3) := by decide +kernel
theorem dX5_takePart_7 : decode cX5_takePart 7 = .ok (.aload_n 1, 1) := by decide +kernel
theorem dX5_takePart_8 : decode cX5_takePart 8 = .ok (.checkcast 107, 3) := by decide +kernel
theorem dX5_takePart_11 : decode cX5_takePart 11 = .ok (.astore_n 3, 1) := by decide +kernel
theorem dX5_takePart_12 : decode cX5_takePart 12 = .ok (.goto 6, 3) := by decide +kernel
theorem dX5_takePart_15 : decode cX5_takePart 15 = .ok (.bipush (-4), 2) := by decide +kernel
theorem dX5_takePart_17 : decode cX5_takePart 17 = .ok (.ireturn, 1) := by decide +kernel
theorem dX5_takePart_18 : decode cX5_takePart 18 = .ok (.aload_n 3, 1) := by decide +kernel
theorem dX5_takePart_19 : decode cX5_takePart 19 = .ok (.iload_n 2, 1) := by decide +kernel
theorem dX5_takePart_20 : decode cX5_takePart 20 = .ok (.invokevirtual 109, 3) := by decide +kernel
theorem dX5_takePart_23 : decode cX5_takePart 23 = .ok (.ifCond .ne 6, 3) := by decide +kernel
theorem dX5_takePart_26 : decode cX5_takePart 26 = .ok (.bipush (-6), 2) := by decide +kernel
theorem dX5_takePart_28 : decode cX5_takePart 28 = .ok (.ireturn, 1) := by decide +kernel
theorem dX5_takePart_29 : decode cX5_takePart 29 = .ok (.aload_n 0, 1) := by decide +kernel
theorem dX5_takePart_30 : decode cX5_takePart 30 = .ok (.aload_n 3, 1) := by decide +kernel
theorem dX5_takePart_31 : decode cX5_takePart 31 = .ok (.getfield 112, 3) := by decide +kernel
theorem dX5_takePart_34 : decode cX5_takePart 34 = .ok (.iload_n 2, 1) := by decide +kernel
theorem dX5_takePart_35 : decode cX5_takePart 35 = .ok (.aaload, 1) := by decide +kernel
theorem dX5_takePart_36 : decode cX5_takePart 36 = .ok (.putfield 57, 3) := by decide +kernel
theorem dX5_takePart_39 : decode cX5_takePart 39 = .ok (.aload_n 3, 1) := by decide +kernel
theorem dX5_takePart_40 : decode cX5_takePart 40 = .ok (.getfield 112, 3) := by decide +kernel
theorem dX5_takePart_43 : decode cX5_takePart 43 = .ok (.iload_n 2, 1) := by decide +kernel
theorem dX5_takePart_44 : decode cX5_takePart 44 = .ok (.aconst_null, 1) := by decide +kernel
theorem dX5_takePart_45 : decode cX5_takePart 45 = .ok (.aastore, 1) := by decide +kernel
theorem dX5_takePart_46 : decode cX5_takePart 46 = .ok (.iconst 0, 1) := by decide +kernel
theorem dX5_takePart_47 : decode cX5_takePart 47 = .ok (.ireturn, 1) := by decide +kernel
theorem dX5_layPart_0 : decode cX5_layPart 0 = .ok (.aload_n 0, 1) := by decide +kernel
theorem dX5_layPart_1 : decode cX5_layPart 1 = .ok (.getfield 57, 3) := by decide +kernel
theorem dX5_layPart_4 : decode cX5_layPart 4 = .ok (.iload_n 2, 1) := by decide +kernel
theorem dX5_layPart_5 : decode cX5_layPart 5 = .ok (.invokestatic 145, 3) := by decide +kernel
theorem dX5_layPart_8 : decode cX5_layPart 8 = .ok (.invokestatic 91, 3) := by decide +kernel
theorem dX5_layPart_11 : decode cX5_layPart 11 = .ok (.ifCond .ne 6, 3) := by decide +kernel
theorem dX5_layPart_14 : decode cX5_layPart 14 = .ok (.bipush (-5), 2) := by decide +kernel
theorem dX5_layPart_16 : decode cX5_layPart 16 = .ok (.ireturn, 1) := by decide +kernel
theorem dX5_layPart_17 : decode cX5_layPart 17 = .ok (.aload_n 1, 1) := by decide +kernel
theorem dX5_layPart_18 : decode cX5_layPart 18 = .ok (.instanceof 107, 3) := by decide +kernel
theorem dX5_layPart_21 : decode cX5_layPart 21 = .ok (.ifCond .eq 12, 3) := by decide +kernel
theorem dX5_layPart_24 : decode cX5_layPart 24 = .ok (.aload_n 1, 1) := by decide +kernel
theorem dX5_layPart_25 : decode cX5_layPart 25 = .ok (.checkcast 107, 3) := by decide +kernel
theorem dX5_layPart_28 : decode cX5_layPart 28 = .ok (.astore 4, 2) := by decide +kernel
theorem dX5_layPart_30 : decode cX5_layPart 30 = .ok (.goto 6, 3) := by decide +kernel
theorem dX5_layPart_33 : decode cX5_layPart 33 = .ok (.bipush (-4), 2) := by decide +kernel
theorem dX5_layPart_35 : decode cX5_layPart 35 = .ok (.ireturn, 1) := by decide +kernel
theorem dX5_layPart_36 : decode cX5_layPart 36 = .ok (.aload 4, 2) := by decide +kernel
theorem dX5_layPart_38 : decode cX5_layPart 38 = .ok (.iload_n 3, 1) := by decide +kernel
theorem dX5_layPart_39 : decode cX5_layPart 39 = .ok (.invokevirtual 109, 3) := by decide +kernel
theorem dX5_layPart_42 : decode cX5_layPart 42 = .ok (.ifCond .ne 6, 3) := by decide +kernel
theorem dX5_layPart_45 : decode cX5_layPart 45 = .ok (.bipush (-6), 2) := by decide +kernel
theorem dX5_layPart_47 : decode cX5_layPart 47 = .ok (.ireturn, 1) := by decide +kernel
theorem dX5_layPart_48 : decode cX5_layPart 48 = .ok (.aload_n 0, 1) := by decide +kernel
theorem dX5_layPart_49 : decode cX5_layPart 49 = .ok (.getfield 57, 3) := by decide +kernel
theorem dX5_layPart_52 : decode cX5_layPart 52 = .ok (.aload 4, 2) := by decide +kernel
theorem dX5_layPart_54 : decode cX5_layPart 54 = .ok (.getfield 148, 3) := by decide +kernel
theorem dX5_layPart_57 : decode cX5_layPart 57 = .ok (.invokestatic 145, 3) := by decide +kernel
theorem dX5_layPart_60 : decode cX5_layPart 60 = .ok (.invokestatic 91, 3) := by decide +kernel
theorem dX5_layPart_63 : decode cX5_layPart 63 = .ok (.ifCond .ne 6, 3) := by decide +kernel
theorem dX5_layPart_66 : decode cX5_layPart 66 = .ok (.bipush (-7), 2) := by decide +kernel
theorem dX5_layPart_68 : decode cX5_layPart 68 = .ok (.ireturn, 1) := by decide +kernel
theorem dX5_layPart_69 : decode cX5_layPart 69 = .ok (.aload 4, 2) := by decide +kernel
theorem dX5_layPart_71 : decode cX5_layPart 71 = .ok (.getfield 112, 3) := by decide +kernel
theorem dX5_layPart_74 : decode cX5_layPart 74 = .ok (.iload_n 3, 1) := by decide +kernel
theorem dX5_layPart_75 : decode cX5_layPart 75 = .ok (.aload_n 0, 1) := by decide +kernel
theorem dX5_layPart_76 : decode cX5_layPart 76 = .ok (.getfield 57, 3) := by decide +kernel
theorem dX5_layPart_79 : decode cX5_layPart 79 = .ok (.aastore, 1) := by decide +kernel
theorem dX5_layPart_80 : decode cX5_layPart 80 = .ok (.aload_n 0, 1) := by decide +kernel
theorem dX5_layPart_81 : decode cX5_layPart 81 = .ok (.aconst_null, 1) := by decide +kernel
theorem dX5_layPart_82 : decode cX5_layPart 82 = .ok (.putfield 57, 3) := by decide +kernel
theorem dX5_layPart_85 : decode cX5_layPart 85 = .ok (.iconst 0, 1) := by decide +kernel
theorem dX5_layPart_86 : decode cX5_layPart 86 = .ok (.ireturn, 1) := by decide +kernel
theorem dX5_find_0 : decode cX5_find 0 = .ok (.iload_n 1, 1) := by decide +kernel
theorem dX5_find_1 : decode cX5_find 1 = .ok (.ifCond .lt 20, 3) := by decide +kernel
theorem dX5_find_4 : decode cX5_find 4 = .ok (.iload_n 1, 1) := by decide +kernel
theorem dX5_find_5 : decode cX5_find 5 = .ok (.aload_n 0, 1) := by decide +kernel
theorem dX5_find_6 : decode cX5_find 6 = .ok (.getfield 32, 3) := by decide +kernel
theorem dX5_find_9 : decode cX5_find 9 = .ok (.if_icmp .ge 12, 3) := by decide +kernel
theorem dX5_find_12 : decode cX5_find 12 = .ok (.aload_n 0, 1) := by decide +kernel
theorem dX5_find_13 : decode cX5_find 13 = .ok (.getfield 11, 3) := by decide +kernel
theorem dX5_find_16 : decode cX5_find 16 = .ok (.iload_n 1, 1) := by decide +kernel
theorem dX5_find_17 : decode cX5_find 17 = .ok (.aaload, 1) := by decide +kernel
theorem dX5_find_18 : decode cX5_find 18 = .ok (.goto 4, 3) := by decide +kernel
theorem dX5_find_21 : decode cX5_find 21 = .ok (.aconst_null, 1) := by decide +kernel
theorem dX5_find_22 : decode cX5_find 22 = .ok (.areturn, 1) := by decide +kernel
theorem dX5_mostOf_0 : decode cX5_mostOf 0 = .ok (.iload_n 0, 1) := by decide +kernel
theorem dX5_mostOf_1 : decode cX5_mostOf 1 = .ok (.invokestatic 149, 3) := by decide +kernel
theorem dX5_mostOf_4 : decode cX5_mostOf 4 = .ok (.ifCond .eq 8, 3) := by decide +kernel
theorem dX5_mostOf_7 : decode cX5_mostOf 7 = .ok (.bipush 100, 2) := by decide +kernel
theorem dX5_mostOf_9 : decode cX5_mostOf 9 = .ok (.goto 4, 3) := by decide +kernel
theorem dX5_mostOf_12 : decode cX5_mostOf 12 = .ok (.iconst 5, 1) := by decide +kernel
theorem dX5_mostOf_13 : decode cX5_mostOf 13 = .ok (.ireturn, 1) := by decide +kernel
theorem dX5_newProp_0 : decode cX5_newProp 0 = .ok (.iload_n 1, 1) := by decide +kernel
theorem dX5_newProp_1 : decode cX5_newProp 1 = .ok (.invokestatic 149, 3) := by decide +kernel
theorem dX5_newProp_4 : decode cX5_newProp 4 = .ok (.ifCond .eq 14, 3) := by decide +kernel
theorem dX5_newProp_7 : decode cX5_newProp 7 = .ok (.new 99, 3) := by decide +kernel
theorem dX5_newProp_10 : decode cX5_newProp 10 = .ok (.dup, 1) := by decide +kernel
theorem dX5_newProp_11 : decode cX5_newProp 11 = .ok (.iload_n 0, 1) := by decide +kernel
theorem dX5_newProp_12 : decode cX5_newProp 12 = .ok (.iload_n 1, 1) := by decide +kernel
theorem dX5_newProp_13 : decode cX5_newProp 13 = .ok (.iload_n 2, 1) := by decide +kernel
theorem dX5_newProp_14 : decode cX5_newProp 14 = .ok (.invokespecial 152, 3) := by decide +kernel
theorem dX5_newProp_17 : decode cX5_newProp 17 = .ok (.areturn, 1) := by decide +kernel
theorem dX5_newProp_18 : decode cX5_newProp 18 = .ok (.iload_n 1, 1) := by decide +kernel
theorem dX5_newProp_19 : decode cX5_newProp 19 = .ok (.invokestatic 155, 3) := by decide +kernel
theorem dX5_newProp_22 : decode cX5_newProp 22 = .ok (.ifCond .eq 14, 3) := by decide +kernel
theorem dX5_newProp_25 : decode cX5_newProp 25 = .ok (.new 107, 3) := by decide +kernel
theorem dX5_newProp_28 : decode cX5_newProp 28 = .ok (.dup, 1) := by decide +kernel
theorem dX5_newProp_29 : decode cX5_newProp 29 = .ok (.iload_n 0, 1) := by decide +kernel
theorem dX5_newProp_30 : decode cX5_newProp 30 = .ok (.iload_n 1, 1) := by decide +kernel
theorem dX5_newProp_31 : decode cX5_newProp 31 = .ok (.iload_n 2, 1) := by decide +kernel
theorem dX5_newProp_32 : decode cX5_newProp 32 = .ok (.invokespecial 158, 3) := by decide +kernel
theorem dX5_newProp_35 : decode cX5_newProp 35 = .ok (.areturn, 1) := by decide +kernel
theorem dX5_newProp_36 : decode cX5_newProp 36 = .ok (.new 43, 3) := by decide +kernel
theorem dX5_newProp_39 : decode cX5_newProp 39 = .ok (.dup, 1) := by decide +kernel
theorem dX5_newProp_40 : decode cX5_newProp 40 = .ok (.iload_n 0, 1) := by decide +kernel
theorem dX5_newProp_41 : decode cX5_newProp 41 = .ok (.iload_n 1, 1) := by decide +kernel
theorem dX5_newProp_42 : decode cX5_newProp 42 = .ok (.iload_n 1, 1) := by decide +kernel
theorem dX5_newProp_43 : decode cX5_newProp 43 = .ok (.iconst 3, 1) := by decide +kernel
theorem dX5_newProp_44 : decode cX5_newProp 44 = .ok (.if_icmp .ne 9, 3) := by decide +kernel
theorem dX5_newProp_47 : decode cX5_newProp 47 = .ok (.iload_n 2, 1) := by decide +kernel
theorem dX5_newProp_48 : decode cX5_newProp 48 = .ok (.iconst 3, 1) := by decide +kernel
theorem dX5_newProp_49 : decode cX5_newProp 49 = .ok (.imul, 1) := by decide +kernel
theorem dX5_newProp_50 : decode cX5_newProp 50 = .ok (.goto 4, 3) := by decide +kernel
theorem dX5_newProp_53 : decode cX5_newProp 53 = .ok (.iload_n 2, 1) := by decide +kernel
theorem dX5_newProp_54 : decode cX5_newProp 54 = .ok (.invokespecial 159, 3) := by decide +kernel
theorem dX5_newProp_57 : decode cX5_newProp 57 = .ok (.areturn, 1) := by decide +kernel
theorem dX5_numberOf_0 : decode cX5_numberOf 0 = .ok (.aload_n 0, 1) := by decide +kernel
theorem dX5_numberOf_1 : decode cX5_numberOf 1 = .ok (.ifnonnull 7, 3) := by decide +kernel
theorem dX5_numberOf_4 : decode cX5_numberOf 4 = .ok (.iconst (-1), 1) := by decide +kernel
theorem dX5_numberOf_5 : decode cX5_numberOf 5 = .ok (.goto 7, 3) := by decide +kernel
theorem dX5_numberOf_8 : decode cX5_numberOf 8 = .ok (.aload_n 0, 1) := by decide +kernel
theorem dX5_numberOf_9 : decode cX5_numberOf 9 = .ok (.getfield 160, 3) := by decide +kernel
theorem dX5_numberOf_12 : decode cX5_numberOf 12 = .ok (.ireturn, 1) := by decide +kernel
theorem dX5_goesAs_0 : decode cX5_goesAs 0 = .ok (.aload_n 0, 1) := by decide +kernel
end
section
theorem dX5_goesAs_1 : decode cX5_goesAs 1 = .ok (.ifnull 18, 3) := by decide +kernel
theorem dX5_goesAs_4 : decode cX5_goesAs 4 = .ok (.getstatic 163, 3) := by decide +kernel
theorem dX5_goesAs_7 : decode cX5_goesAs 7 = .ok (.aload_n 0, 1) := by decide +kernel
theorem dX5_goesAs_8 : decode cX5_goesAs 8 = .ok (.getfield 166, 3) := by decide +kernel
theorem dX5_goesAs_11 : decode cX5_goesAs 11 = .ok (.iaload, 1) := by decide +kernel
theorem dX5_goesAs_12 : decode cX5_goesAs 12 = .ok (.iload_n 1, 1) := by decide +kernel
theorem dX5_goesAs_13 : decode cX5_goesAs 13 = .ok (.invokestatic 68, 3) := by decide +kernel
theorem dX5_goesAs_16 : decode cX5_goesAs 16 = .ok (.ifCond .eq 7, 3) := by decide +kernel
theorem dX5_goesAs_19 : decode cX5_goesAs 19 = .ok (.iconst 1, 1) := by decide +kernel
theorem dX5_goesAs_20 : decode cX5_goesAs 20 = .ok (.goto 4, 3) := by decide +kernel
theorem dX5_goesAs_23 : decode cX5_goesAs 23 = .ok (.iconst 0, 1) := by decide +kernel
theorem dX5_goesAs_24 : decode cX5_goesAs 24 = .ok (.ireturn, 1) := by decide +kernel
theorem dX5_isAmong_0 : decode cX5_isAmong 0 = .ok (.iload_n 0, 1) := by decide +kernel
theorem dX5_isAmong_1 : decode cX5_isAmong 1 = .ok (.iload_n 1, 1) := by decide +kernel
theorem dX5_isAmong_2 : decode cX5_isAmong 2 = .ok (.ishr, 1) := by decide +kernel
theorem dX5_isAmong_3 : decode cX5_isAmong 3 = .ok (.iconst 1, 1) := by decide +kernel
theorem dX5_isAmong_4 : decode cX5_isAmong 4 = .ok (.iand, 1) := by decide +kernel
theorem dX5_isAmong_5 : decode cX5_isAmong 5 = .ok (.iconst 1, 1) := by decide +kernel
theorem dX5_isAmong_6 : decode cX5_isAmong 6 = .ok (.if_icmp .ne 7, 3) := by decide +kernel
theorem dX5_isAmong_9 : decode cX5_isAmong 9 = .ok (.iconst 1, 1) := by decide +kernel
theorem dX5_isAmong_10 : decode cX5_isAmong 10 = .ok (.goto 4, 3) := by decide +kernel
theorem dX5_isAmong_13 : decode cX5_isAmong 13 = .ok (.iconst 0, 1) := by decide +kernel
theorem dX5_isAmong_14 : decode cX5_isAmong 14 = .ok (.ireturn, 1) := by decide +kernel
theorem dX5_isSlot_0 : decode cX5_isSlot 0 = .ok (.iload_n 0, 1) := by decide +kernel
theorem dX5_isSlot_1 : decode cX5_isSlot 1 = .ok (.ifCond .lt 13, 3) := by decide +kernel
theorem dX5_isSlot_4 : decode cX5_isSlot 4 = .ok (.iload_n 0, 1) := by decide +kernel
theorem dX5_isSlot_5 : decode cX5_isSlot 5 = .ok (.bipush 10, 2) := by decide +kernel
theorem dX5_isSlot_7 : decode cX5_isSlot 7 = .ok (.if_icmp .ge 7, 3) := by decide +kernel
theorem dX5_isSlot_10 : decode cX5_isSlot 10 = .ok (.iconst 1, 1) := by decide +kernel
theorem dX5_isSlot_11 : decode cX5_isSlot 11 = .ok (.goto 4, 3) := by decide +kernel
theorem dX5_isSlot_14 : decode cX5_isSlot 14 = .ok (.iconst 0, 1) := by decide +kernel
theorem dX5_isSlot_15 : decode cX5_isSlot 15 = .ok (.ireturn, 1) := by decide +kernel
theorem dX5_isView_0 : decode cX5_isView 0 = .ok (.iload_n 0, 1) := by decide +kernel
theorem dX5_isView_1 : decode cX5_isView 1 = .ok (.ifCond .lt 13, 3) := by decide +kernel
theorem dX5_isView_4 : decode cX5_isView 4 = .ok (.iload_n 0, 1) := by decide +kernel
theorem dX5_isView_5 : decode cX5_isView 5 = .ok (.bipush 16, 2) := by decide +kernel
theorem dX5_isView_7 : decode cX5_isView 7 = .ok (.if_icmp .gt 7, 3) := by decide +kernel
theorem dX5_isView_10 : decode cX5_isView 10 = .ok (.iconst 1, 1) := by decide +kernel
theorem dX5_isView_11 : decode cX5_isView 11 = .ok (.goto 4, 3) := by decide +kernel
theorem dX5_isView_14 : decode cX5_isView 14 = .ok (.iconst 0, 1) := by decide +kernel
theorem dX5_isView_15 : decode cX5_isView 15 = .ok (.ireturn, 1) := by decide +kernel
theorem dX5_isPiece_0 : decode cX5_isPiece 0 = .ok (.iload_n 0, 1) := by decide +kernel
theorem dX5_isPiece_1 : decode cX5_isPiece 1 = .ok (.iconst 4, 1) := by decide +kernel
theorem dX5_isPiece_2 : decode cX5_isPiece 2 = .ok (.if_icmp .lt 13, 3) := by decide +kernel
theorem dX5_isPiece_5 : decode cX5_isPiece 5 = .ok (.iload_n 0, 1) := by decide +kernel
theorem dX5_isPiece_6 : decode cX5_isPiece 6 = .ok (.bipush 7, 2) := by decide +kernel
theorem dX5_isPiece_8 : decode cX5_isPiece 8 = .ok (.if_icmp .gt 7, 3) := by decide +kernel
theorem dX5_isPiece_11 : decode cX5_isPiece 11 = .ok (.iconst 1, 1) := by decide +kernel
theorem dX5_isPiece_12 : decode cX5_isPiece 12 = .ok (.goto 4, 3) := by decide +kernel
theorem dX5_isPiece_15 : decode cX5_isPiece 15 = .ok (.iconst 0, 1) := by decide +kernel
theorem dX5_isPiece_16 : decode cX5_isPiece 16 = .ok (.ireturn, 1) := by decide +kernel
theorem dX5_isRow_0 : decode cX5_isRow 0 = .ok (.iload_n 0, 1) := by decide +kernel
theorem dX5_isRow_1 : decode cX5_isRow 1 = .ok (.bipush 8, 2) := by decide +kernel
theorem dX5_isRow_3 : decode cX5_isRow 3 = .ok (.if_icmp .lt 13, 3) := by decide +kernel
theorem dX5_isRow_6 : decode cX5_isRow 6 = .ok (.iload_n 0, 1) := by decide +kernel
theorem dX5_isRow_7 : decode cX5_isRow 7 = .ok (.bipush 15, 2) := by decide +kernel
theorem dX5_isRow_9 : decode cX5_isRow 9 = .ok (.if_icmp .gt 7, 3) := by decide +kernel
theorem dX5_isRow_12 : decode cX5_isRow 12 = .ok (.iconst 1, 1) := by decide +kernel
theorem dX5_isRow_13 : decode cX5_isRow 13 = .ok (.goto 4, 3) := by decide +kernel
theorem dX5_isRow_16 : decode cX5_isRow 16 = .ok (.iconst 0, 1) := by decide +kernel
theorem dX5_isRow_17 : decode cX5_isRow 17 = .ok (.ireturn, 1) := by decide +kernel
theorem dX5_partView_0 : decode cX5_partView 0 = .ok (.iload_n 0, 1) := by decide +kernel
theorem dX5_partView_1 : decode cX5_partView 1 = .ok (.invokestatic 155, 3) := by decide +kernel
theorem dX5_partView_4 : decode cX5_partView 4 = .ok (.ifCond .eq 14, 3) := by decide +kernel
theorem dX5_partView_7 : decode cX5_partView 7 = .ok (.getstatic 167, 3) := by decide +kernel
theorem dX5_partView_10 : decode cX5_partView 10 = .ok (.iload_n 0, 1) := by decide +kernel
theorem dX5_partView_11 : decode cX5_partView 11 = .ok (.bipush 8, 2) := by decide +kernel
theorem dX5_partView_13 : decode cX5_partView 13 = .ok (.isub, 1) := by decide +kernel
theorem dX5_partView_14 : decode cX5_partView 14 = .ok (.iaload, 1) := by decide +kernel
theorem dX5_partView_15 : decode cX5_partView 15 = .ok (.goto 4, 3) := by decide +kernel
theorem dX5_partView_18 : decode cX5_partView 18 = .ok (.iconst (-1), 1) := by decide +kernel
theorem dX5_partView_19 : decode cX5_partView 19 = .ok (.ireturn, 1) := by decide +kernel
theorem dX6_init_0 : decode cX6_init 0 = .ok (.aload_n 0, 1) := by decide +kernel
theorem dX6_init_1 : decode cX6_init 1 = .ok (.invokespecial 1, 3) := by decide +kernel
theorem dX6_init_4 : decode cX6_init 4 = .ok (.aload_n 0, 1) := by decide +kernel
theorem dX6_init_5 : decode cX6_init 5 = .ok (.bipush 50, 2) := by decide +kernel
theorem dX6_init_7 : decode cX6_init 7 = .ok (.newarray .int, 2) := by decide +kernel
theorem dX6_init_9 : decode cX6_init 9 = .ok (.putfield 7, 3) := by decide +kernel
theorem dX6_init_12 : decode cX6_init 12 = .ok (.aload_n 0, 1) := by decide +kernel
theorem dX6_init_13 : decode cX6_init 13 = .ok (.bipush 50, 2) := by decide +kernel
theorem dX6_init_15 : decode cX6_init 15 = .ok (.newarray .int, 2) := by decide +kernel
theorem dX6_init_17 : decode cX6_init 17 = .ok (.putfield 13, 3) := by decide +kernel
theorem dX6_init_20 : decode cX6_init 20 = .ok (.aload_n 0, 1) := by decide +kernel
theorem dX6_init_21 : decode cX6_init 21 = .ok (.bipush 50, 2) := by decide +kernel
theorem dX6_init_23 : decode cX6_init 23 = .ok (.newarray .int, 2) := by decide +kernel
theorem dX6_init_25 : decode cX6_init 25 = .ok (.putfield 16, 3) := by decide +kernel
theorem dX6_init_28 : decode cX6_init 28 = .ok (.aload_n 0, 1) := by decide +kernel
theorem dX6_init_29 : decode cX6_init 29 = .ok (.sipush 750, 3) := by decide +kernel
theorem dX6_init_32 : decode cX6_init 32 = .ok (.newarray .long, 2) := by decide +kernel
theorem dX6_init_34 : decode cX6_init 34 = .ok (.putfield 19, 3) := by decide +kernel
theorem dX6_init_37 : decode cX6_init 37 = .ok (.aload_n 0, 1) := by decide +kernel
theorem dX6_init_38 : decode cX6_init 38 = .ok (.sipush 250, 3) := by decide +kernel
theorem dX6_init_41 : decode cX6_init 41 = .ok (.newarray .int, 2) := by decide +kernel
theorem dX6_init_43 : decode cX6_init 43 = .ok (.putfield 23, 3) := by decide +kernel
theorem dX6_init_46 : decode cX6_init 46 = .ok (.aload_n 0, 1) := by decide +kernel
theorem dX6_init_47 : decode cX6_init 47 = .ok (.bipush 10, 2) := by decide +kernel
theorem dX6_init_49 : decode cX6_init 49 = .ok (.newarray .int, 2) := by decide +kernel
theorem dX6_init_51 : decode cX6_init 51 = .ok (.putfield 26, 3) := by decide +kernel
theorem dX6_init_54 : decode cX6_init 54 = .ok (.aload_n 0, 1) := by decide +kernel
theorem dX6_init_55 : decode cX6_init 55 = .ok (.iconst (-1), 1) := by decide +kernel
theorem dX6_init_56 : decode cX6_init 56 = .ok (.putfield 29, 3) := by decide +kernel
theorem dX6_init_59 : decode cX6_init 59 = .ok (.aload_n 0, 1) := by decide +kernel
theorem dX6_init_60 : decode cX6_init 60 = .ok (.bipush 30, 2) := by decide +kernel
theorem dX6_init_62 : decode cX6_init 62 = .ok (.newarray .int, 2) := by decide +kernel
theorem dX6_init_64 : decode cX6_init 64 = .ok (.putfield 33, 3) := by decide +kernel
theorem dX6_init_67 : decode cX6_init 67 = .ok (.aload_n 0, 1) := by decide +kernel
theorem dX6_init_68 : decode cX6_init 68 = .ok (.bipush 30, 2) := by decide +kernel
theorem dX6_init_70 : decode cX6_init 70 = .ok (.newarray .int, 2) := by decide +kernel
theorem dX6_init_72 : decode cX6_init 72 = .ok (.putfield 36, 3) := by decide +kernel
theorem dX6_init_75 : decode cX6_init 75 = .ok (.aload_n 0, 1) := by decide +kernel
theorem dX6_init_76 : decode cX6_init 76 = .ok (.bipush 30, 2) := by decide +kernel
theorem dX6_init_78 : decode cX6_init 78 = .ok (.newarray .int, 2) := by decide +kernel
theorem dX6_init_80 : decode cX6_init 80 = .ok (.putfield 39, 3) := by decide +kernel
theorem dX6_init_83 : decode cX6_init 83 = .ok (.aload_n 0, 1) := by decide +kernel
theorem dX6_init_84 : decode cX6_init 84 = .ok (.bipush 30, 2) := by decide +kernel
theorem dX6_init_86 : decode cX6_init 86 = .ok (.newarray .int, 2) := by decide +kernel
theorem dX6_init_88 : decode cX6_init 88 = .ok (.putfield 42, 3) := by decide +kernel
theorem dX6_init_91 : decode cX6_init 91 = .ok (.aload_n 0, 1) := by decide +kernel
theorem dX6_init_92 : decode cX6_init 92 = .ok (.iconst (-1), 1) := by decide +kernel
theorem dX6_init_93 : decode cX6_init 93 = .ok (.putfield 45, 3) := by decide +kernel
theorem dX6_init_96 : decode cX6_init 96 = .ok (.iconst 0, 1) := by decide +kernel
theorem dX6_init_97 : decode cX6_init 97 = .ok (.istore_n 1, 1) := by decide +kernel
theorem dX6_init_98 : decode cX6_init 98 = .ok (.iload_n 1, 1) := by decide +kernel
theorem dX6_init_99 : decode cX6_init 99 = .ok (.bipush 10, 2) := by decide +kernel
theorem dX6_init_101 : decode cX6_init 101 = .ok (.if_icmp .ge 16, 3) := by decide +kernel
theorem dX6_init_104 : decode cX6_init 104 = .ok (.aload_n 0, 1) := by decide +kernel
theorem dX6_init_105 : decode cX6_init 105 = .ok (.getfield 26, 3) := by decide +kernel
theorem dX6_init_108 : decode cX6_init 108 = .ok (.iload_n 1, 1) := by decide +kernel
theorem dX6_init_109 : decode cX6_init 109 = .ok (.iconst (-1), 1) := by decide +kernel
theorem dX6_init_110 : decode cX6_init 110 = .ok (.iastore, 1) := by decide +kernel
theorem dX6_init_111 : decode cX6_init 111 = .ok (.iinc 1 1, 3) := by decide +kernel
theorem dX6_init_114 : decode cX6_init 114 = .ok (.goto (-16), 3) := by decide +kernel
theorem dX6_init_117 : decode cX6_init 117 = .ok (.return_, 1) := by decide +kernel
theorem dX6_isIn_0 : decode cX6_isIn 0 = .ok (.iload_n 0, 1) := by decide +kernel
theorem dX6_isIn_1 : decode cX6_isIn 1 = .ok (.iload_n 1, 1) := by decide +kernel
theorem dX6_isIn_2 : decode cX6_isIn 2 = .ok (.if_icmp .lt 12, 3) := by decide +kernel
theorem dX6_isIn_5 : decode cX6_isIn 5 = .ok (.iload_n 0, 1) := by decide +kernel
theorem dX6_isIn_6 : decode cX6_isIn 6 = .ok (.iload_n 2, 1) := by decide +kernel
theorem dX6_isIn_7 : decode cX6_isIn 7 = .ok (.if_icmp .gt 7, 3) := by decide +kernel
theorem dX6_isIn_10 : decode cX6_isIn 10 = .ok (.iconst 1, 1) := by decide +kernel
theorem dX6_isIn_11 : decode cX6_isIn 11 = .ok (.goto 4, 3) := by decide +kernel
theorem dX6_isIn_14 : decode cX6_isIn 14 = .ok (.iconst 0, 1) := by decide +kernel
theorem dX6_isIn_15 : decode cX6_isIn 15 = .ok (.ireturn, 1) := by decide +kernel
theorem dX6_isProp_0 : decode cX6_isProp 0 = .ok (.iload_n 1, 1) := by decide +kernel
theorem dX6_isProp_1 : decode cX6_isProp 1 = .ok (.iconst 0, 1) := by decide +kernel
theorem dX6_isProp_2 : decode cX6_isProp 2 = .ok (.aload_n 0, 1) := by decide +kernel
theorem dX6_isProp_3 : decode cX6_isProp 3 = .ok (.getfield 48, 3) := by decide +kernel
theorem dX6_isProp_6 : decode cX6_isProp 6 = .ok (.iconst 1, 1) := by decide +kernel
theorem dX6_isProp_7 : decode cX6_isProp 7 = .ok (.isub, 1) := by decide +kernel
theorem dX6_isProp_8 : decode cX6_isProp 8 = .ok (.invokestatic 51, 3) := by decide +kernel
theorem dX6_isProp_11 : decode cX6_isProp 11 = .ok (.ireturn, 1) := by decide +kernel
theorem dX6_isView_0 : decode cX6_isView 0 = .ok (.iload_n 0, 1) := by decide +kernel
theorem dX6_isView_1 : decode cX6_isView 1 = .ok (.iconst 0, 1) := by decide +kernel
theorem dX6_isView_2 : decode cX6_isView 2 = .ok (.bipush 16, 2) := by decide +kernel
theorem dX6_isView_4 : decode cX6_isView 4 = .ok (.invokestatic 51, 3) := by decide +kernel
theorem dX6_isView_7 : decode cX6_isView 7 = .ok (.ireturn, 1) := by decide +kernel
theorem dX6_isSlot_0 : decode cX6_isSlot 0 = .ok (.iload_n 0, 1) := by decide +kernel
theorem dX6_isSlot_1 : decode cX6_isSlot 1 = .ok (.iconst 0, 1) := by decide +kernel
theorem dX6_isSlot_2 : decode cX6_isSlot 2 = .ok (.bipush 9, 2) := by decide +kernel
theorem dX6_isSlot_4 : decode cX6_isSlot 4 = .ok (.invokestatic 51, 3) := by decide +kernel
theorem dX6_isSlot_7 : decode cX6_isSlot 7 = .ok (.ireturn, 1) := by decide +kernel
theorem dX6_isSingle_0 : decode cX6_isSingle 0 = .ok (.iload_n 0, 1) := by decide +kernel
theorem dX6_isSingle_1 : decode cX6_isSingle 1 = .ok (.iconst 4, 1) := by decide +kernel
theorem dX6_isSingle_2 : decode cX6_isSingle 2 = .ok (.bipush 7, 2) := by decide +kernel
theorem dX6_isSingle_4 : decode cX6_isSingle 4 = .ok (.invokestatic 51, 3) := by decide +kernel
theorem dX6_isSingle_7 : decode cX6_isSingle 7 = .ok (.ireturn, 1) := by decide +kernel
theorem dX6_isRow_0 : decode cX6_isRow 0 = .ok (.iload_n 0, 1) := by decide +kernel
theorem dX6_isRow_1 : decode cX6_isRow 1 = .ok (.bipush 8, 2) := by decide +kernel
theorem dX6_isRow_3 : decode cX6_isRow 3 = .ok (.bipush 15, 2) := by decide +kernel
theorem dX6_isRow_5 : decode cX6_isRow 5 = .ok (.invokestatic 51, 3) := by decide +kernel
theorem dX6_isRow_8 : decode cX6_isRow 8 = .ok (.ireturn, 1) := by decide +kernel
theorem dX6_goesAs_0 : decode cX6_goesAs 0 = .ok (.iload_n 0, 1) := by decide +kernel
theorem dX6_goesAs_1 : decode cX6_goesAs 1 = .ok (.iload_n 1, 1) := by decide +kernel
theorem dX6_goesAs_2 : decode cX6_goesAs 2 = .ok (.if_icmp .ne 5, 3) := by decide +kernel
theorem dX6_goesAs_5 : decode cX6_goesAs 5 = .ok (.iconst 1, 1) := by decide +kernel
theorem dX6_goesAs_6 : decode cX6_goesAs 6 = .ok (.ireturn, 1) := by decide +kernel
theorem dX6_goesAs_7 : decode cX6_goesAs 7 = .ok (.iload_n 0, 1) := by decide +kernel
theorem dX6_goesAs_8 : decode cX6_goesAs 8 = .ok (.tableswitch 156 5 14 #[56, 67, 84, 156, 96, 108, 156, 126, 156, 138], 56) := by decide +kernel
theorem dX6_goesAs_64 : decode cX6_goesAs 64 = .ok (.iload_n 1, 1) := by decide +kernel
theorem dX6_goesAs_65 : decode cX6_goesAs 65 = .ok (.iconst 4, 1) := by decide +kernel
theorem dX6_goesAs_66 : decode cX6_goesAs 66 = .ok (.if_icmp .ne 7, 3) := by decide +kernel
theorem dX6_goesAs_69 : decode cX6_goesAs 69 = .ok (.iconst 1, 1) := by decide +kernel
theorem dX6_goesAs_70 : decode cX6_goesAs 70 = .ok (.goto 4, 3) := by decide +kernel
theorem dX6_goesAs_73 : decode cX6_goesAs 73 = .ok (.iconst 0, 1) := by decide +kernel
theorem dX6_goesAs_74 : decode cX6_goesAs 74 = .ok (.ireturn, 1) := by decide +kernel
theorem dX6_goesAs_75 : decode cX6_goesAs 75 = .ok (.iload_n 1, 1) := by decide +kernel
theorem dX6_goesAs_76 : decode cX6_goesAs 76 = .ok (.iconst 4, 1) := by decide +kernel
theorem dX6_goesAs_77 : decode cX6_goesAs 77 = .ok (.if_icmp .eq 9, 3) := by decide +kernel
theorem dX6_goesAs_80 : decode cX6_goesAs 80 = .ok (.iload_n 1, 1) := by decide +kernel
theorem dX6_goesAs_81 : decode cX6_goesAs 81 = .ok (.bipush 16, 2) := by decide +kernel
theorem dX6_goesAs_83 : decode cX6_goesAs 83 = .ok (.if_icmp .ne 7, 3) := by decide +kernel
theorem dX6_goesAs_86 : decode cX6_goesAs 86 = .ok (.iconst 1, 1) := by decide +kernel
theorem dX6_goesAs_87 : decode cX6_goesAs 87 = .ok (.goto 4, 3) := by decide +kernel
theorem dX6_goesAs_90 : decode cX6_goesAs 90 = .ok (.iconst 0, 1) := by decide +kernel
theorem dX6_goesAs_91 : decode cX6_goesAs 91 = .ok (.ireturn, 1) := by decide +kernel
theorem dX6_goesAs_92 : decode cX6_goesAs 92 = .ok (.iload_n 1, 1) := by decide +kernel
theorem dX6_goesAs_93 : decode cX6_goesAs 93 = .ok (.bipush 16, 2) := by decide +kernel
theorem dX6_goesAs_95 : decode cX6_goesAs 95 = .ok (.if_icmp .ne 7, 3) := by decide +kernel
theorem dX6_goesAs_98 : decode cX6_goesAs 98 = .ok (.iconst 1, 1) := by decide +kernel
theorem dX6_goesAs_99 : decode cX6_goesAs 99 = .ok (.goto 4, 3) := by decide +kernel
theorem dX6_goesAs_102 : decode cX6_goesAs 102 = .ok (.iconst 0, 1) := by decide +kernel
theorem dX6_goesAs_103 : decode cX6_goesAs 103 = .ok (.ireturn, 1) := by decide +kernel
theorem dX6_goesAs_104 : decode cX6_goesAs 104 = .ok (.iload_n 1, 1) := by decide +kernel
theorem dX6_goesAs_105 : decode cX6_goesAs 105 = .ok (.bipush 8, 2) := by decide +kernel
theorem dX6_goesAs_107 : decode cX6_goesAs 107 = .ok (.if_icmp .ne 7, 3) := by decide +kernel
theorem dX6_goesAs_110 : decode cX6_goesAs 110 = .ok (.iconst 1, 1) := by decide +kernel
theorem dX6_goesAs_111 : decode cX6_goesAs 111 = .ok (.goto 4, 3) := by decide +kernel
theorem dX6_goesAs_114 : decode cX6_goesAs 114 = .ok (.iconst 0, 1) := by decide +kernel
theorem dX6_goesAs_115 : decode cX6_goesAs 115 = .ok (.ireturn, 1) := by decide +kernel
theorem dX6_goesAs_116 : decode cX6_goesAs 116 = .ok (.iload_n 1, 1) := by decide +kernel
theorem dX6_goesAs_117 : decode cX6_goesAs 117 = .ok (.bipush 8, 2) := by decide +kernel
theorem dX6_goesAs_119 : decode cX6_goesAs 119 = .ok (.if_icmp .eq 9, 3) := by decide +kernel
theorem dX6_goesAs_122 : decode cX6_goesAs 122 = .ok (.iload_n 1, 1) := by decide +kernel
theorem dX6_goesAs_123 : decode cX6_goesAs 123 = .ok (.bipush 11, 2) := by decide +kernel
theorem dX6_goesAs_125 : decode cX6_goesAs 125 = .ok (.if_icmp .ne 7, 3) := by decide +kernel
theorem dX6_goesAs_128 : decode cX6_goesAs 128 = .ok (.iconst 1, 1) := by decide +kernel
theorem dX6_goesAs_129 : decode cX6_goesAs 129 = .ok (.goto 4, 3) := by decide +kernel
theorem dX6_goesAs_132 : decode cX6_goesAs 132 = .ok (.iconst 0, 1) := by decide +kernel
theorem dX6_goesAs_133 : decode cX6_goesAs 133 = .ok (.ireturn, 1) := by decide +kernel
theorem dX6_goesAs_134 : decode cX6_goesAs 134 = .ok (.iload_n 1, 1) := by decide +kernel
theorem dX6_goesAs_135 : decode cX6_goesAs 135 = .ok (.bipush 11, 2) := by decide +kernel
theorem dX6_goesAs_137 : decode cX6_goesAs 137 = .ok (.if_icmp .ne 7, 3) := by decide +kernel
theorem dX6_goesAs_140 : decode cX6_goesAs 140 = .ok (.iconst 1, 1) := by decide +kernel
theorem dX6_goesAs_141 : decode cX6_goesAs 141 = .ok (.goto 4, 3) := by decide +kernel
theorem dX6_goesAs_144 : decode cX6_goesAs 144 = .ok (.iconst 0, 1) := by decide +kernel
theorem dX6_goesAs_145 : decode cX6_goesAs 145 = .ok (.ireturn, 1) := by decide +kernel
theorem dX6_goesAs_146 : decode cX6_goesAs 146 = .ok (.iload_n 1, 1) := by decide +kernel
theorem dX6_goesAs_147 : decode cX6_goesAs 147 = .ok (.bipush 13, 2) := by decide +kernel
theorem dX6_goesAs_149 : decode cX6_goesAs 149 = .ok (.if_icmp .eq 9, 3) := by decide +kernel
theorem dX6_goesAs_152 : decode cX6_goesAs 152 = .ok (.iload_n 1, 1) := by decide +kernel
theorem dX6_goesAs_153 : decode cX6_goesAs 153 = .ok (.bipush 15, 2) := by decide +kernel
theorem dX6_goesAs_155 : decode cX6_goesAs 155 = .ok (.if_icmp .ne 7, 3) := by decide +kernel
theorem dX6_goesAs_158 : decode cX6_goesAs 158 = .ok (.iconst 1, 1) := by decide +kernel
theorem dX6_goesAs_159 : decode cX6_goesAs 159 = .ok (.goto 4, 3) := by decide +kernel
theorem dX6_goesAs_162 : decode cX6_goesAs 162 = .ok (.iconst 0, 1) := by decide +kernel
theorem dX6_goesAs_163 : decode cX6_goesAs 163 = .ok (.ireturn, 1) := by decide +kernel
theorem dX6_goesAs_164 : decode cX6_goesAs 164 = .ok (.iconst 0, 1) := by decide +kernel
theorem dX6_goesAs_165 : decode cX6_goesAs 165 = .ok (.ireturn, 1) := by decide +kernel
theorem dX6_goes_0 : decode cX6_goes 0 = .ok (.iload_n 1, 1) := by decide +kernel
theorem dX6_goes_1 : decode cX6_goes 1 = .ok (.iconst (-1), 1) := by decide +kernel
theorem dX6_goes_2 : decode cX6_goes 2 = .ok (.if_icmp .eq 16, 3) := by decide +kernel
theorem dX6_goes_5 : decode cX6_goes 5 = .ok (.aload_n 0, 1) := by decide +kernel
theorem dX6_goes_6 : decode cX6_goes 6 = .ok (.getfield 7, 3) := by decide +kernel
theorem dX6_goes_9 : decode cX6_goes 9 = .ok (.iload_n 1, 1) := by decide +kernel
theorem dX6_goes_10 : decode cX6_goes 10 = .ok (.iaload, 1) := by decide +kernel
theorem dX6_goes_11 : decode cX6_goes 11 = .ok (.iload_n 2, 1) := by decide +kernel
theorem dX6_goes_12 : decode cX6_goes 12 = .ok (.invokestatic 55, 3) := by decide +kernel
theorem dX6_goes_15 : decode cX6_goes 15 = .ok (.ifCond .eq 7, 3) := by decide +kernel
theorem dX6_goes_18 : decode cX6_goes 18 = .ok (.iconst 1, 1) := by decide +kernel
theorem dX6_goes_19 : decode cX6_goes 19 = .ok (.goto 4, 3) := by decide +kernel
theorem dX6_goes_22 : decode cX6_goes 22 = .ok (.iconst 0, 1) := by decide +kernel
theorem dX6_goes_23 : decode cX6_goes 23 = .ok (.ireturn, 1) := by decide +kernel
theorem dX6_prop_0 : decode cX6_prop 0 = .ok (.iload_n 1, 1) := by decide +kernel
theorem dX6_prop_1 : decode cX6_prop 1 = .ok (.iconst 0, 1) := by decide +kernel
theorem dX6_prop_2 : decode cX6_prop 2 = .ok (.bipush 15, 2) := by decide +kernel
theorem dX6_prop_4 : decode cX6_prop 4 = .ok (.invokestatic 51, 3) := by decide +kernel
theorem dX6_prop_7 : decode cX6_prop 7 = .ok (.ifCond .eq 24, 3) := by decide +kernel
theorem dX6_prop_10 : decode cX6_prop 10 = .ok (.iload_n 2, 1) := by decide +kernel
theorem dX6_prop_11 : decode cX6_prop 11 = .ok (.iconst 0, 1) := by decide +kernel
theorem dX6_prop_12 : decode cX6_prop 12 = .ok (.iload_n 1, 1) := by decide +kernel
theorem dX6_prop_13 : decode cX6_prop 13 = .ok (.invokestatic 59, 3) := by decide +kernel
theorem dX6_prop_16 : decode cX6_prop 16 = .ok (.ifCond .eq 8, 3) := by decide +kernel
theorem dX6_prop_19 : decode cX6_prop 19 = .ok (.bipush 100, 2) := by decide +kernel
theorem dX6_prop_21 : decode cX6_prop 21 = .ok (.goto 4, 3) := by decide +kernel
theorem dX6_prop_24 : decode cX6_prop 24 = .ok (.iconst 5, 1) := by decide +kernel
theorem dX6_prop_25 : decode cX6_prop 25 = .ok (.invokestatic 51, 3) := by decide +kernel
theorem dX6_prop_28 : decode cX6_prop 28 = .ok (.ifCond .ne 6, 3) := by decide +kernel
theorem dX6_prop_31 : decode cX6_prop 31 = .ok (.bipush (-2), 2) := by decide +kernel
theorem dX6_prop_33 : decode cX6_prop 33 = .ok (.ireturn, 1) := by decide +kernel
theorem dX6_prop_34 : decode cX6_prop 34 = .ok (.aload_n 0, 1) := by decide +kernel
theorem dX6_prop_35 : decode cX6_prop 35 = .ok (.getfield 48, 3) := by decide +kernel
theorem dX6_prop_38 : decode cX6_prop 38 = .ok (.bipush 50, 2) := by decide +kernel
theorem dX6_prop_40 : decode cX6_prop 40 = .ok (.if_icmp .ne 6, 3) := by decide +kernel
theorem dX6_prop_43 : decode cX6_prop 43 = .ok (.bipush (-3), 2) := by decide +kernel
theorem dX6_prop_45 : decode cX6_prop 45 = .ok (.ireturn, 1) := by decide +kernel
theorem dX6_prop_46 : decode cX6_prop 46 = .ok (.aload_n 0, 1) := by decide +kernel
theorem dX6_prop_47 : decode cX6_prop 47 = .ok (.getfield 7, 3) := by decide +kernel
theorem dX6_prop_50 : decode cX6_prop 50 = .ok (.aload_n 0, 1) := by decide +kernel
theorem dX6_prop_51 : decode cX6_prop 51 = .ok (.getfield 48, 3) := by decide +kernel
theorem dX6_prop_54 : decode cX6_prop 54 = .ok (.iload_n 1, 1) := by decide +kernel
theorem dX6_prop_55 : decode cX6_prop 55 = .ok (.iastore, 1) := by decide +kernel
theorem dX6_prop_56 : decode cX6_prop 56 = .ok (.aload_n 0, 1) := by decide +kernel
theorem dX6_prop_57 : decode cX6_prop 57 = .ok (.getfield 13, 3) := by decide +kernel
theorem dX6_prop_60 : decode cX6_prop 60 = .ok (.aload_n 0, 1) := by decide +kernel
theorem dX6_prop_61 : decode cX6_prop 61 = .ok (.getfield 48, 3) := by decide +kernel
theorem dX6_prop_64 : decode cX6_prop 64 = .ok (.iload_n 2, 1) := by decide +kernel
theorem dX6_prop_65 : decode cX6_prop 65 = .ok (.iastore, 1) := by decide +kernel
theorem dX6_prop_66 : decode cX6_prop 66 = .ok (.aload_n 0, 1) := by decide +kernel
theorem dX6_prop_67 : decode cX6_prop 67 = .ok (.getfield 16, 3) := by decide +kernel
theorem dX6_prop_70 : decode cX6_prop 70 = .ok (.aload_n 0, 1) := by decide +kernel
theorem dX6_prop_71 : decode cX6_prop 71 = .ok (.getfield 48, 3) := by decide +kernel
theorem dX6_prop_74 : decode cX6_prop 74 = .ok (.iconst 0, 1) := by decide +kernel
theorem dX6_prop_75 : decode cX6_prop 75 = .ok (.iastore, 1) := by decide +kernel
theorem dX6_prop_76 : decode cX6_prop 76 = .ok (.iconst 0, 1) := by decide +kernel
theorem dX6_prop_77 : decode cX6_prop 77 = .ok (.istore_n 3, 1) := by decide +kernel
theorem dX6_prop_78 : decode cX6_prop 78 = .ok (.iload_n 3, 1) := by decide +kernel
theorem dX6_prop_79 : decode cX6_prop 79 = .ok (.bipush 15, 2) := by decide +kernel
theorem dX6_prop_81 : decode cX6_prop 81 = .ok (.if_icmp .ge 24, 3) := by decide +kernel
theorem dX6_prop_84 : decode cX6_prop 84 = .ok (.aload_n 0, 1) := by decide +kernel
theorem dX6_prop_85 : decode cX6_prop 85 = .ok (.getfield 19, 3) := by decide +kernel
theorem dX6_prop_88 : decode cX6_prop 88 = .ok (.bipush 15, 2) := by decide +kernel
theorem dX6_prop_90 : decode cX6_prop 90 = .ok (.aload_n 0, 1) := by decide +kernel
theorem dX6_prop_91 : decode cX6_prop 91 = .ok (.getfield 48, 3) := by decide +kernel
theorem dX6_prop_94 : decode cX6_prop 94 = .ok (.imul, 1) := by decide +kernel
theorem dX6_prop_95 : decode cX6_prop 95 = .ok (.iload_n 3, 1) := by decide +kernel
theorem dX6_prop_96 : decode cX6_prop 96 = .ok (.iadd, 1) := by decide +kernel
theorem dX6_prop_97 : decode cX6_prop 97 = .ok (.lconst 0, 1) := by decide +kernel
theorem dX6_prop_98 : decode cX6_prop 98 = .ok (.lastore, 1) := by decide +kernel
theorem dX6_prop_99 : decode cX6_prop 99 = .ok (.iinc 3 1, 3) := by decide +kernel
theorem dX6_prop_102 : decode cX6_prop 102 = .ok (.goto (-24), 3) := by decide +kernel
theorem dX6_prop_105 : decode cX6_prop 105 = .ok (.iconst 0, 1) := by decide +kernel
theorem dX6_prop_106 : decode cX6_prop 106 = .ok (.istore_n 3, 1) := by decide +kernel
theorem dX6_prop_107 : decode cX6_prop 107 = .ok (.iload_n 3, 1) := by decide +kernel
theorem dX6_prop_108 : decode cX6_prop 108 = .ok (.iconst 5, 1) := by decide +kernel
theorem dX6_prop_109 : decode cX6_prop 109 = .ok (.if_icmp .ge 23, 3) := by decide +kernel
theorem dX6_prop_112 : decode cX6_prop 112 = .ok (.aload_n 0, 1) := by decide +kernel
theorem dX6_prop_113 : decode cX6_prop 113 = .ok (.getfield 23, 3) := by decide +kernel
theorem dX6_prop_116 : decode cX6_prop 116 = .ok (.iconst 5, 1) := by decide +kernel
theorem dX6_prop_117 : decode cX6_prop 117 = .ok (.aload_n 0, 1) := by decide +kernel
theorem dX6_prop_118 : decode cX6_prop 118 = .ok (.getfield 48, 3) := by decide +kernel
theorem dX6_prop_121 : decode cX6_prop 121 = .ok (.imul, 1) := by decide +kernel
theorem dX6_prop_122 : decode cX6_prop 122 = .ok (.iload_n 3, 1) := by decide +kernel
theorem dX6_prop_123 : decode cX6_prop 123 = .ok (.iadd, 1) := by decide +kernel
theorem dX6_prop_124 : decode cX6_prop 124 = .ok (.iconst (-1), 1) := by decide +kernel
theorem dX6_prop_125 : decode cX6_prop 125 = .ok (.iastore, 1) := by decide +kernel
theorem dX6_prop_126 : decode cX6_prop 126 = .ok (.iinc 3 1, 3) := by decide +kernel
theorem dX6_prop_129 : decode cX6_prop 129 = .ok (.goto (-22), 3) := by decide +kernel
theorem dX6_prop_132 : decode cX6_prop 132 = .ok (.aload_n 0, 1) := by decide +kernel
theorem dX6_prop_133 : decode cX6_prop 133 = .ok (.dup, 1) := by decide +kernel
theorem dX6_prop_134 : decode cX6_prop 134 = .ok (.getfield 48, 3) := by decide +kernel
theorem dX6_prop_137 : decode cX6_prop 137 = .ok (.iconst 1, 1) := by decide +kernel
theorem dX6_prop_138 : decode cX6_prop 138 = .ok (.iadd, 1) := by decide +kernel
theorem dX6_prop_139 : decode cX6_prop 139 = .ok (.putfield 48, 3) := by decide +kernel
theorem dX6_prop_142 : decode cX6_prop 142 = .ok (.aload_n 0, 1) := by decide +kernel
theorem dX6_prop_143 : decode cX6_prop 143 = .ok (.getfield 48, 3) := by decide +kernel
theorem dX6_prop_146 : decode cX6_prop 146 = .ok (.iconst 1, 1) := by decide +kernel
theorem dX6_prop_147 : decode cX6_prop 147 = .ok (.isub, 1) := by decide +kernel
theorem dX6_prop_148 : decode cX6_prop 148 = .ok (.ireturn, 1) := by decide +kernel
theorem dX6_many_0 : decode cX6_many 0 = .ok (.aload_n 0, 1) := by decide +kernel
theorem dX6_many_1 : decode cX6_many 1 = .ok (.getfield 7, 3) := by decide +kernel
theorem dX6_many_4 : decode cX6_many 4 = .ok (.iload_n 1, 1) := by decide +kernel
theorem dX6_many_5 : decode cX6_many 5 = .ok (.iaload, 1) := by decide +kernel
theorem dX6_many_6 : decode cX6_many 6 = .ok (.iconst 3, 1) := by decide +kernel
theorem dX6_many_7 : decode cX6_many 7 = .ok (.if_icmp .ne 14, 3) := by decide +kernel
theorem dX6_many_10 : decode cX6_many 10 = .ok (.iconst 3, 1) := by decide +kernel
theorem dX6_many_11 : decode cX6_many 11 = .ok (.aload_n 0, 1) := by decide +kernel
theorem dX6_many_12 : decode cX6_many 12 = .ok (.getfield 13, 3) := by decide +kernel
theorem dX6_many_15 : decode cX6_many 15 = .ok (.iload_n 1, 1) := by decide +kernel
theorem dX6_many_16 : decode cX6_many 16 = .ok (.iaload, 1) := by decide +kernel
theorem dX6_many_17 : decode cX6_many 17 = .ok (.imul, 1) := by decide +kernel
theorem dX6_many_18 : decode cX6_many 18 = .ok (.goto 9, 3) := by decide +kernel
theorem dX6_many_21 : decode cX6_many 21 = .ok (.aload_n 0, 1) := by decide +kernel
theorem dX6_many_22 : decode cX6_many 22 = .ok (.getfield 13, 3) := by decide +kernel
theorem dX6_many_25 : decode cX6_many 25 = .ok (.iload_n 1, 1) := by decide +kernel
theorem dX6_many_26 : decode cX6_many 26 = .ok (.iaload, 1) := by decide +kernel
theorem dX6_many_27 : decode cX6_many 27 = .ok (.ireturn, 1) := by decide +kernel
theorem dX6_set_0 : decode cX6_set 0 = .ok (.aload_n 0, 1) := by decide +kernel
theorem dX6_set_1 : decode cX6_set 1 = .ok (.iload_n 1, 1) := by decide +kernel
theorem dX6_set_2 : decode cX6_set 2 = .ok (.invokevirtual 63, 3) := by decide +kernel
theorem dX6_set_5 : decode cX6_set 5 = .ok (.ifCond .ne 6, 3) := by decide +kernel
theorem dX6_set_8 : decode cX6_set 8 = .ok (.bipush (-2), 2) := by decide +kernel
theorem dX6_set_10 : decode cX6_set 10 = .ok (.ireturn, 1) := by decide +kernel
theorem dX6_set_11 : decode cX6_set 11 = .ok (.aload_n 0, 1) := by decide +kernel
theorem dX6_set_12 : decode cX6_set 12 = .ok (.getfield 7, 3) := by decide +kernel
theorem dX6_set_15 : decode cX6_set 15 = .ok (.iload_n 1, 1) := by decide +kernel
theorem dX6_set_16 : decode cX6_set 16 = .ok (.iaload, 1) := by decide +kernel
theorem dX6_set_17 : decode cX6_set 17 = .ok (.iconst 3, 1) := by decide +kernel
theorem dX6_set_18 : decode cX6_set 18 = .ok (.if_icmp .le 6, 3) := by decide +kernel
theorem dX6_set_21 : decode cX6_set 21 = .ok (.bipush (-5), 2) := by decide +kernel
theorem dX6_set_23 : decode cX6_set 23 = .ok (.ireturn, 1) := by decide +kernel
theorem dX6_set_24 : decode cX6_set 24 = .ok (.iload_n 2, 1) := by decide +kernel
theorem dX6_set_25 : decode cX6_set 25 = .ok (.iconst 0, 1) := by decide +kernel
theorem dX6_set_26 : decode cX6_set 26 = .ok (.aload_n 0, 1) := by decide +kernel
theorem dX6_set_27 : decode cX6_set 27 = .ok (.iload_n 1, 1) := by decide +kernel
theorem dX6_set_28 : decode cX6_set 28 = .ok (.invokevirtual 66, 3) := by decide +kernel
theorem dX6_set_31 : decode cX6_set 31 = .ok (.iconst 1, 1) := by decide +kernel
theorem dX6_set_32 : decode cX6_set 32 = .ok (.isub, 1) := by decide +kernel
theorem dX6_set_33 : decode cX6_set 33 = .ok (.invokestatic 51, 3) := by decide +kernel
theorem dX6_set_36 : decode cX6_set 36 = .ok (.ifCond .ne 6, 3) := by decide +kernel
theorem dX6_set_39 : decode cX6_set 39 = .ok (.bipush (-6), 2) := by decide +kernel
theorem dX6_set_41 : decode cX6_set 41 = .ok (.ireturn, 1) := by decide +kernel
theorem dX6_set_42 : decode cX6_set 42 = .ok (.aload_n 0, 1) := by decide +kernel
theorem dX6_set_43 : decode cX6_set 43 = .ok (.getfield 19, 3) := by decide +kernel
theorem dX6_set_46 : decode cX6_set 46 = .ok (.bipush 15, 2) := by decide +kernel
theorem dX6_set_48 : decode cX6_set 48 = .ok (.iload_n 1, 1) := by decide +kernel
theorem dX6_set_49 : decode cX6_set 49 = .ok (.imul, 1) := by decide +kernel
theorem dX6_set_50 : decode cX6_set 50 = .ok (.iload_n 2, 1) := by decide +kernel
theorem dX6_set_51 : decode cX6_set 51 = .ok (.iadd, 1) := by decide +kernel
theorem dX6_set_52 : decode cX6_set 52 = .ok (.aload_n 0, 1) := by decide +kernel
theorem dX6_set_53 : decode cX6_set 53 = .ok (.getfield 7, 3) := by decide +kernel
theorem dX6_set_56 : decode cX6_set 56 = .ok (.iload_n 1, 1) := by decide +kernel
theorem dX6_set_57 : decode cX6_set 57 = .ok (.iaload, 1) := by decide +kernel
theorem dX6_set_58 : decode cX6_set 58 = .ok (.ifCond .ne 11, 3) := by decide +kernel
theorem dX6_set_61 : decode cX6_set 61 = .ok (.iload_n 3, 1) := by decide +kernel
theorem dX6_set_62 : decode cX6_set 62 = .ok (.ldc 70, 2) := by decide +kernel
theorem dX6_set_64 : decode cX6_set 64 = .ok (.iand, 1) := by decide +kernel
theorem dX6_set_65 : decode cX6_set 65 = .ok (.i2l, 1) := by decide +kernel
theorem dX6_set_66 : decode cX6_set 66 = .ok (.goto 37, 3) := by decide +kernel
theorem dX6_set_69 : decode cX6_set 69 = .ok (.aload_n 0, 1) := by decide +kernel
theorem dX6_set_70 : decode cX6_set 70 = .ok (.getfield 7, 3) := by decide +kernel
end
section
theorem dX6_set_73 : decode cX6_set 73 = .ok (.iload_n 1, 1) := by decide +kernel
theorem dX6_set_74 : decode cX6_set 74 = .ok (.iaload, 1) := by decide +kernel
theorem dX6_set_75 : decode cX6_set 75 = .ok (.iconst 1, 1) := by decide +kernel
theorem dX6_set_76 : decode cX6_set 76 = .ok (.if_icmp .ne 9, 3) := by decide +kernel
theorem dX6_set_79 : decode cX6_set 79 = .ok (.iload_n 3, 1) := by decide +kernel
theorem dX6_set_80 : decode cX6_set 80 = .ok (.i2s, 1) := by decide +kernel
theorem dX6_set_81 : decode cX6_set 81 = .ok (.i2l, 1) := by decide +kernel
theorem dX6_set_82 : decode cX6_set 82 = .ok (.goto 21, 3) := by decide +kernel
theorem dX6_set_85 : decode cX6_set 85 = .ok (.aload_n 0, 1) := by decide +kernel
theorem dX6_set_86 : decode cX6_set 86 = .ok (.getfield 7, 3) := by decide +kernel
theorem dX6_set_89 : decode cX6_set 89 = .ok (.iload_n 1, 1) := by decide +kernel
theorem dX6_set_90 : decode cX6_set 90 = .ok (.iaload, 1) := by decide +kernel
theorem dX6_set_91 : decode cX6_set 91 = .ok (.iconst 2, 1) := by decide +kernel
theorem dX6_set_92 : decode cX6_set 92 = .ok (.if_icmp .ne 8, 3) := by decide +kernel
theorem dX6_set_95 : decode cX6_set 95 = .ok (.iload_n 3, 1) := by decide +kernel
theorem dX6_set_96 : decode cX6_set 96 = .ok (.i2l, 1) := by decide +kernel
theorem dX6_set_97 : decode cX6_set 97 = .ok (.goto 6, 3) := by decide +kernel
theorem dX6_set_100 : decode cX6_set 100 = .ok (.iload_n 3, 1) := by decide +kernel
theorem dX6_set_101 : decode cX6_set 101 = .ok (.i2b, 1) := by decide +kernel
theorem dX6_set_102 : decode cX6_set 102 = .ok (.i2l, 1) := by decide +kernel
theorem dX6_set_103 : decode cX6_set 103 = .ok (.lastore, 1) := by decide +kernel
theorem dX6_set_104 : decode cX6_set 104 = .ok (.iconst 1, 1) := by decide +kernel
theorem dX6_set_105 : decode cX6_set 105 = .ok (.ireturn, 1) := by decide +kernel
theorem dX6_slot_0 : decode cX6_slot 0 = .ok (.iload_n 1, 1) := by decide +kernel
theorem dX6_slot_1 : decode cX6_slot 1 = .ok (.invokestatic 71, 3) := by decide +kernel
theorem dX6_slot_4 : decode cX6_slot 4 = .ok (.ifCond .eq 16, 3) := by decide +kernel
theorem dX6_slot_7 : decode cX6_slot 7 = .ok (.iload_n 2, 1) := by decide +kernel
theorem dX6_slot_8 : decode cX6_slot 8 = .ok (.iconst (-1), 1) := by decide +kernel
theorem dX6_slot_9 : decode cX6_slot 9 = .ok (.if_icmp .eq 14, 3) := by decide +kernel
theorem dX6_slot_12 : decode cX6_slot 12 = .ok (.aload_n 0, 1) := by decide +kernel
theorem dX6_slot_13 : decode cX6_slot 13 = .ok (.iload_n 2, 1) := by decide +kernel
theorem dX6_slot_14 : decode cX6_slot 14 = .ok (.invokevirtual 63, 3) := by decide +kernel
theorem dX6_slot_17 : decode cX6_slot 17 = .ok (.ifCond .ne 6, 3) := by decide +kernel
theorem dX6_slot_20 : decode cX6_slot 20 = .ok (.bipush (-2), 2) := by decide +kernel
theorem dX6_slot_22 : decode cX6_slot 22 = .ok (.ireturn, 1) := by decide +kernel
theorem dX6_slot_23 : decode cX6_slot 23 = .ok (.aload_n 0, 1) := by decide +kernel
theorem dX6_slot_24 : decode cX6_slot 24 = .ok (.getfield 26, 3) := by decide +kernel
theorem dX6_slot_27 : decode cX6_slot 27 = .ok (.iload_n 1, 1) := by decide +kernel
theorem dX6_slot_28 : decode cX6_slot 28 = .ok (.iaload, 1) := by decide +kernel
theorem dX6_slot_29 : decode cX6_slot 29 = .ok (.istore_n 3, 1) := by decide +kernel
theorem dX6_slot_30 : decode cX6_slot 30 = .ok (.aload_n 0, 1) := by decide +kernel
theorem dX6_slot_31 : decode cX6_slot 31 = .ok (.getfield 26, 3) := by decide +kernel
theorem dX6_slot_34 : decode cX6_slot 34 = .ok (.iload_n 1, 1) := by decide +kernel
theorem dX6_slot_35 : decode cX6_slot 35 = .ok (.iload_n 2, 1) := by decide +kernel
theorem dX6_slot_36 : decode cX6_slot 36 = .ok (.iastore, 1) := by decide +kernel
theorem dX6_slot_37 : decode cX6_slot 37 = .ok (.iload_n 3, 1) := by decide +kernel
theorem dX6_slot_38 : decode cX6_slot 38 = .ok (.ireturn, 1) := by decide +kernel
theorem dX6_held_0 : decode cX6_held 0 = .ok (.iload_n 1, 1) := by decide +kernel
theorem dX6_held_1 : decode cX6_held 1 = .ok (.invokestatic 71, 3) := by decide +kernel
theorem dX6_held_4 : decode cX6_held 4 = .ok (.ifCond .eq 12, 3) := by decide +kernel
theorem dX6_held_7 : decode cX6_held 7 = .ok (.aload_n 0, 1) := by decide +kernel
theorem dX6_held_8 : decode cX6_held 8 = .ok (.getfield 26, 3) := by decide +kernel
theorem dX6_held_11 : decode cX6_held 11 = .ok (.iload_n 1, 1) := by decide +kernel
theorem dX6_held_12 : decode cX6_held 12 = .ok (.iaload, 1) := by decide +kernel
theorem dX6_held_13 : decode cX6_held 13 = .ok (.goto 5, 3) := by decide +kernel
theorem dX6_held_16 : decode cX6_held 16 = .ok (.bipush (-2), 2) := by decide +kernel
theorem dX6_held_18 : decode cX6_held 18 = .ok (.ireturn, 1) := by decide +kernel
theorem dX6_hand_0 : decode cX6_hand 0 = .ok (.aload_n 0, 1) := by decide +kernel
theorem dX6_hand_1 : decode cX6_hand 1 = .ok (.getfield 29, 3) := by decide +kernel
theorem dX6_hand_4 : decode cX6_hand 4 = .ok (.ireturn, 1) := by decide +kernel
theorem dX6_has_0 : decode cX6_has 0 = .ok (.iload_n 0, 1) := by decide +kernel
theorem dX6_has_1 : decode cX6_has 1 = .ok (.tableswitch 70 1 3 #[27, 65, 65], 27) := by decide +kernel
theorem dX6_has_28 : decode cX6_has 28 = .ok (.iload_n 1, 1) := by decide +kernel
theorem dX6_has_29 : decode cX6_has 29 = .ok (.iconst 4, 1) := by decide +kernel
theorem dX6_has_30 : decode cX6_has 30 = .ok (.bipush 6, 2) := by decide +kernel
theorem dX6_has_32 : decode cX6_has 32 = .ok (.invokestatic 51, 3) := by decide +kernel
theorem dX6_has_35 : decode cX6_has 35 = .ok (.ifCond .ne 25, 3) := by decide +kernel
theorem dX6_has_38 : decode cX6_has 38 = .ok (.iload_n 1, 1) := by decide +kernel
theorem dX6_has_39 : decode cX6_has 39 = .ok (.bipush 8, 2) := by decide +kernel
theorem dX6_has_41 : decode cX6_has 41 = .ok (.bipush 10, 2) := by decide +kernel
theorem dX6_has_43 : decode cX6_has 43 = .ok (.invokestatic 51, 3) := by decide +kernel
theorem dX6_has_46 : decode cX6_has 46 = .ok (.ifCond .ne 14, 3) := by decide +kernel
theorem dX6_has_49 : decode cX6_has 49 = .ok (.iload_n 1, 1) := by decide +kernel
theorem dX6_has_50 : decode cX6_has 50 = .ok (.bipush 13, 2) := by decide +kernel
theorem dX6_has_52 : decode cX6_has 52 = .ok (.bipush 14, 2) := by decide +kernel
theorem dX6_has_54 : decode cX6_has 54 = .ok (.invokestatic 51, 3) := by decide +kernel
theorem dX6_has_57 : decode cX6_has 57 = .ok (.ifCond .eq 7, 3) := by decide +kernel
theorem dX6_has_60 : decode cX6_has 60 = .ok (.iconst 1, 1) := by decide +kernel
theorem dX6_has_61 : decode cX6_has 61 = .ok (.goto 4, 3) := by decide +kernel
theorem dX6_has_64 : decode cX6_has 64 = .ok (.iconst 0, 1) := by decide +kernel
theorem dX6_has_65 : decode cX6_has 65 = .ok (.ireturn, 1) := by decide +kernel
theorem dX6_has_66 : decode cX6_has 66 = .ok (.iload_n 1, 1) := by decide +kernel
theorem dX6_has_67 : decode cX6_has 67 = .ok (.invokestatic 74, 3) := by decide +kernel
theorem dX6_has_70 : decode cX6_has 70 = .ok (.ireturn, 1) := by decide +kernel
theorem dX6_has_71 : decode cX6_has 71 = .ok (.iconst 1, 1) := by decide +kernel
theorem dX6_has_72 : decode cX6_has 72 = .ok (.ireturn, 1) := by decide +kernel
theorem dX6_cue_0 : decode cX6_cue 0 = .ok (.iload_n 1, 1) := by decide +kernel
theorem dX6_cue_1 : decode cX6_cue 1 = .ok (.iconst 0, 1) := by decide +kernel
theorem dX6_cue_2 : decode cX6_cue 2 = .ok (.iconst 5, 1) := by decide +kernel
theorem dX6_cue_3 : decode cX6_cue 3 = .ok (.invokestatic 51, 3) := by decide +kernel
theorem dX6_cue_6 : decode cX6_cue 6 = .ok (.ifCond .eq 36, 3) := by decide +kernel
theorem dX6_cue_9 : decode cX6_cue 9 = .ok (.iload_n 2, 1) := by decide +kernel
theorem dX6_cue_10 : decode cX6_cue 10 = .ok (.invokestatic 71, 3) := by decide +kernel
theorem dX6_cue_13 : decode cX6_cue 13 = .ok (.ifCond .eq 29, 3) := by decide +kernel
theorem dX6_cue_16 : decode cX6_cue 16 = .ok (.iload_n 3, 1) := by decide +kernel
theorem dX6_cue_17 : decode cX6_cue 17 = .ok (.invokestatic 77, 3) := by decide +kernel
theorem dX6_cue_20 : decode cX6_cue 20 = .ok (.ifCond .eq 22, 3) := by decide +kernel
theorem dX6_cue_23 : decode cX6_cue 23 = .ok (.iload_n 1, 1) := by decide +kernel
theorem dX6_cue_24 : decode cX6_cue 24 = .ok (.iload_n 3, 1) := by decide +kernel
theorem dX6_cue_25 : decode cX6_cue 25 = .ok (.invokestatic 80, 3) := by decide +kernel
theorem dX6_cue_28 : decode cX6_cue 28 = .ok (.ifCond .eq 14, 3) := by decide +kernel
theorem dX6_cue_31 : decode cX6_cue 31 = .ok (.iload 4, 2) := by decide +kernel
theorem dX6_cue_33 : decode cX6_cue 33 = .ok (.iconst 0, 1) := by decide +kernel
theorem dX6_cue_34 : decode cX6_cue 34 = .ok (.bipush 9, 2) := by decide +kernel
theorem dX6_cue_36 : decode cX6_cue 36 = .ok (.invokestatic 51, 3) := by decide +kernel
theorem dX6_cue_39 : decode cX6_cue 39 = .ok (.ifCond .ne 6, 3) := by decide +kernel
theorem dX6_cue_42 : decode cX6_cue 42 = .ok (.bipush (-2), 2) := by decide +kernel
theorem dX6_cue_44 : decode cX6_cue 44 = .ok (.ireturn, 1) := by decide +kernel
theorem dX6_cue_45 : decode cX6_cue 45 = .ok (.aload_n 0, 1) := by decide +kernel
theorem dX6_cue_46 : decode cX6_cue 46 = .ok (.getfield 83, 3) := by decide +kernel
theorem dX6_cue_49 : decode cX6_cue 49 = .ok (.bipush 30, 2) := by decide +kernel
theorem dX6_cue_51 : decode cX6_cue 51 = .ok (.if_icmp .ne 6, 3) := by decide +kernel
theorem dX6_cue_54 : decode cX6_cue 54 = .ok (.bipush (-3), 2) := by decide +kernel
theorem dX6_cue_56 : decode cX6_cue 56 = .ok (.ireturn, 1) := by decide +kernel
theorem dX6_cue_57 : decode cX6_cue 57 = .ok (.aload_n 0, 1) := by decide +kernel
theorem dX6_cue_58 : decode cX6_cue 58 = .ok (.getfield 33, 3) := by decide +kernel
theorem dX6_cue_61 : decode cX6_cue 61 = .ok (.aload_n 0, 1) := by decide +kernel
theorem dX6_cue_62 : decode cX6_cue 62 = .ok (.getfield 83, 3) := by decide +kernel
theorem dX6_cue_65 : decode cX6_cue 65 = .ok (.iload_n 1, 1) := by decide +kernel
theorem dX6_cue_66 : decode cX6_cue 66 = .ok (.iastore, 1) := by decide +kernel
theorem dX6_cue_67 : decode cX6_cue 67 = .ok (.aload_n 0, 1) := by decide +kernel
theorem dX6_cue_68 : decode cX6_cue 68 = .ok (.getfield 36, 3) := by decide +kernel
theorem dX6_cue_71 : decode cX6_cue 71 = .ok (.aload_n 0, 1) := by decide +kernel
theorem dX6_cue_72 : decode cX6_cue 72 = .ok (.getfield 83, 3) := by decide +kernel
theorem dX6_cue_75 : decode cX6_cue 75 = .ok (.iload_n 2, 1) := by decide +kernel
theorem dX6_cue_76 : decode cX6_cue 76 = .ok (.iastore, 1) := by decide +kernel
theorem dX6_cue_77 : decode cX6_cue 77 = .ok (.aload_n 0, 1) := by decide +kernel
theorem dX6_cue_78 : decode cX6_cue 78 = .ok (.getfield 39, 3) := by decide +kernel
theorem dX6_cue_81 : decode cX6_cue 81 = .ok (.aload_n 0, 1) := by decide +kernel
theorem dX6_cue_82 : decode cX6_cue 82 = .ok (.getfield 83, 3) := by decide +kernel
theorem dX6_cue_85 : decode cX6_cue 85 = .ok (.iload_n 3, 1) := by decide +kernel
theorem dX6_cue_86 : decode cX6_cue 86 = .ok (.iastore, 1) := by decide +kernel
theorem dX6_cue_87 : decode cX6_cue 87 = .ok (.aload_n 0, 1) := by decide +kernel
theorem dX6_cue_88 : decode cX6_cue 88 = .ok (.getfield 42, 3) := by decide +kernel
theorem dX6_cue_91 : decode cX6_cue 91 = .ok (.aload_n 0, 1) := by decide +kernel
theorem dX6_cue_92 : decode cX6_cue 92 = .ok (.getfield 83, 3) := by decide +kernel
theorem dX6_cue_95 : decode cX6_cue 95 = .ok (.iload 4, 2) := by decide +kernel
theorem dX6_cue_97 : decode cX6_cue 97 = .ok (.iastore, 1) := by decide +kernel
theorem dX6_cue_98 : decode cX6_cue 98 = .ok (.aload_n 0, 1) := by decide +kernel
theorem dX6_cue_99 : decode cX6_cue 99 = .ok (.dup, 1) := by decide +kernel
theorem dX6_cue_100 : decode cX6_cue 100 = .ok (.getfield 83, 3) := by decide +kernel
theorem dX6_cue_103 : decode cX6_cue 103 = .ok (.iconst 1, 1) := by decide +kernel
theorem dX6_cue_104 : decode cX6_cue 104 = .ok (.iadd, 1) := by decide +kernel
theorem dX6_cue_105 : decode cX6_cue 105 = .ok (.putfield 83, 3) := by decide +kernel
theorem dX6_cue_108 : decode cX6_cue 108 = .ok (.aload_n 0, 1) := by decide +kernel
theorem dX6_cue_109 : decode cX6_cue 109 = .ok (.getfield 83, 3) := by decide +kernel
theorem dX6_cue_112 : decode cX6_cue 112 = .ok (.iconst 1, 1) := by decide +kernel
theorem dX6_cue_113 : decode cX6_cue 113 = .ok (.isub, 1) := by decide +kernel
theorem dX6_cue_114 : decode cX6_cue 114 = .ok (.ireturn, 1) := by decide +kernel
theorem dX6_strike_0 : decode cX6_strike 0 = .ok (.aload_n 0, 1) := by decide +kernel
theorem dX6_strike_1 : decode cX6_strike 1 = .ok (.getfield 83, 3) := by decide +kernel
theorem dX6_strike_4 : decode cX6_strike 4 = .ok (.istore_n 1, 1) := by decide +kernel
theorem dX6_strike_5 : decode cX6_strike 5 = .ok (.aload_n 0, 1) := by decide +kernel
theorem dX6_strike_6 : decode cX6_strike 6 = .ok (.iconst 0, 1) := by decide +kernel
theorem dX6_strike_7 : decode cX6_strike 7 = .ok (.putfield 83, 3) := by decide +kernel
theorem dX6_strike_10 : decode cX6_strike 10 = .ok (.iload_n 1, 1) := by decide +kernel
theorem dX6_strike_11 : decode cX6_strike 11 = .ok (.ireturn, 1) := by decide +kernel
theorem dX6_inner_0 : decode cX6_inner 0 = .ok (.iload_n 0, 1) := by decide +kernel
theorem dX6_inner_1 : decode cX6_inner 1 = .ok (.tableswitch 62 8 14 #[43, 45, 47, 50, 53, 56, 59], 43) := by decide +kernel
theorem dX6_inner_44 : decode cX6_inner 44 = .ok (.iconst 4, 1) := by decide +kernel
theorem dX6_inner_45 : decode cX6_inner 45 = .ok (.ireturn, 1) := by decide +kernel
theorem dX6_inner_46 : decode cX6_inner 46 = .ok (.iconst 5, 1) := by decide +kernel
theorem dX6_inner_47 : decode cX6_inner 47 = .ok (.ireturn, 1) := by decide +kernel
theorem dX6_inner_48 : decode cX6_inner 48 = .ok (.bipush 6, 2) := by decide +kernel
theorem dX6_inner_50 : decode cX6_inner 50 = .ok (.ireturn, 1) := by decide +kernel
theorem dX6_inner_51 : decode cX6_inner 51 = .ok (.bipush 16, 2) := by decide +kernel
theorem dX6_inner_53 : decode cX6_inner 53 = .ok (.ireturn, 1) := by decide +kernel
theorem dX6_inner_54 : decode cX6_inner 54 = .ok (.bipush 7, 2) := by decide +kernel
theorem dX6_inner_56 : decode cX6_inner 56 = .ok (.ireturn, 1) := by decide +kernel
theorem dX6_inner_57 : decode cX6_inner 57 = .ok (.bipush 8, 2) := by decide +kernel
theorem dX6_inner_59 : decode cX6_inner 59 = .ok (.ireturn, 1) := by decide +kernel
theorem dX6_inner_60 : decode cX6_inner 60 = .ok (.bipush 10, 2) := by decide +kernel
theorem dX6_inner_62 : decode cX6_inner 62 = .ok (.ireturn, 1) := by decide +kernel
theorem dX6_inner_63 : decode cX6_inner 63 = .ok (.bipush 11, 2) := by decide +kernel
theorem dX6_inner_65 : decode cX6_inner 65 = .ok (.ireturn, 1) := by decide +kernel
theorem dX6_worthOfOne_0 : decode cX6_worthOfOne 0 = .ok (.aload_n 0, 1) := by decide +kernel
theorem dX6_worthOfOne_1 : decode cX6_worthOfOne 1 = .ok (.getfield 13, 3) := by decide +kernel
theorem dX6_worthOfOne_4 : decode cX6_worthOfOne 4 = .ok (.iload_n 1, 1) := by decide +kernel
theorem dX6_worthOfOne_5 : decode cX6_worthOfOne 5 = .ok (.iaload, 1) := by decide +kernel
theorem dX6_worthOfOne_6 : decode cX6_worthOfOne 6 = .ok (.i2l, 1) := by decide +kernel
theorem dX6_worthOfOne_7 : decode cX6_worthOfOne 7 = .ok (.lstore_n 3, 1) := by decide +kernel
theorem dX6_worthOfOne_8 : decode cX6_worthOfOne 8 = .ok (.iload_n 2, 1) := by decide +kernel
theorem dX6_worthOfOne_9 : decode cX6_worthOfOne 9 = .ok (.tableswitch 61 4 7 #[31, 41, 53, 59], 31) := by decide +kernel
theorem dX6_worthOfOne_40 : decode cX6_worthOfOne 40 = .ok (.lload_n 3, 1) := by decide +kernel
theorem dX6_worthOfOne_41 : decode cX6_worthOfOne 41 = .ok (.aload_n 0, 1) := by decide +kernel
theorem dX6_worthOfOne_42 : decode cX6_worthOfOne 42 = .ok (.getfield 16, 3) := by decide +kernel
theorem dX6_worthOfOne_45 : decode cX6_worthOfOne 45 = .ok (.iload_n 1, 1) := by decide +kernel
theorem dX6_worthOfOne_46 : decode cX6_worthOfOne 46 = .ok (.iaload, 1) := by decide +kernel
theorem dX6_worthOfOne_47 : decode cX6_worthOfOne 47 = .ok (.i2l, 1) := by decide +kernel
theorem dX6_worthOfOne_48 : decode cX6_worthOfOne 48 = .ok (.ladd, 1) := by decide +kernel
theorem dX6_worthOfOne_49 : decode cX6_worthOfOne 49 = .ok (.lreturn, 1) := by decide +kernel
theorem dX6_worthOfOne_50 : decode cX6_worthOfOne 50 = .ok (.ldc2_w 86, 3) := by decide +kernel
theorem dX6_worthOfOne_53 : decode cX6_worthOfOne 53 = .ok (.aload_n 0, 1) := by decide +kernel
theorem dX6_worthOfOne_54 : decode cX6_worthOfOne 54 = .ok (.getfield 16, 3) := by decide +kernel
theorem dX6_worthOfOne_57 : decode cX6_worthOfOne 57 = .ok (.iload_n 1, 1) := by decide +kernel
theorem dX6_worthOfOne_58 : decode cX6_worthOfOne 58 = .ok (.iaload, 1) := by decide +kernel
theorem dX6_worthOfOne_59 : decode cX6_worthOfOne 59 = .ok (.i2l, 1) := by decide +kernel
theorem dX6_worthOfOne_60 : decode cX6_worthOfOne 60 = .ok (.lmul, 1) := by decide +kernel
theorem dX6_worthOfOne_61 : decode cX6_worthOfOne 61 = .ok (.lreturn, 1) := by decide +kernel
theorem dX6_worthOfOne_62 : decode cX6_worthOfOne 62 = .ok (.ldc2_w 88, 3) := by decide +kernel
theorem dX6_worthOfOne_65 : decode cX6_worthOfOne 65 = .ok (.lload_n 3, 1) := by decide +kernel
theorem dX6_worthOfOne_66 : decode cX6_worthOfOne 66 = .ok (.lmul, 1) := by decide +kernel
theorem dX6_worthOfOne_67 : decode cX6_worthOfOne 67 = .ok (.lreturn, 1) := by decide +kernel
theorem dX6_worthOfOne_68 : decode cX6_worthOfOne 68 = .ok (.lload_n 3, 1) := by decide +kernel
theorem dX6_worthOfOne_69 : decode cX6_worthOfOne 69 = .ok (.lreturn, 1) := by decide +kernel
theorem dX6_worthOfOne_70 : decode cX6_worthOfOne 70 = .ok (.aload_n 0, 1) := by decide +kernel
theorem dX6_worthOfOne_71 : decode cX6_worthOfOne 71 = .ok (.getfield 7, 3) := by decide +kernel
theorem dX6_worthOfOne_74 : decode cX6_worthOfOne 74 = .ok (.iload_n 1, 1) := by decide +kernel
theorem dX6_worthOfOne_75 : decode cX6_worthOfOne 75 = .ok (.iaload, 1) := by decide +kernel
theorem dX6_worthOfOne_76 : decode cX6_worthOfOne 76 = .ok (.bipush 6, 2) := by decide +kernel
theorem dX6_worthOfOne_78 : decode cX6_worthOfOne 78 = .ok (.if_icmp .ne 11, 3) := by decide +kernel
theorem dX6_worthOfOne_81 : decode cX6_worthOfOne 81 = .ok (.lload_n 3, 1) := by decide +kernel
theorem dX6_worthOfOne_82 : decode cX6_worthOfOne 82 = .ok (.ldc2_w 90, 3) := by decide +kernel
theorem dX6_worthOfOne_85 : decode cX6_worthOfOne 85 = .ok (.ladd, 1) := by decide +kernel
theorem dX6_worthOfOne_86 : decode cX6_worthOfOne 86 = .ok (.goto 8, 3) := by decide +kernel
theorem dX6_worthOfOne_89 : decode cX6_worthOfOne 89 = .ok (.ldc2_w 86, 3) := by decide +kernel
theorem dX6_worthOfOne_92 : decode cX6_worthOfOne 92 = .ok (.lload_n 3, 1) := by decide +kernel
theorem dX6_worthOfOne_93 : decode cX6_worthOfOne 93 = .ok (.lmul, 1) := by decide +kernel
theorem dX6_worthOfOne_94 : decode cX6_worthOfOne 94 = .ok (.lreturn, 1) := by decide +kernel
theorem dX6_worthOfNumbers_0 : decode cX6_worthOfNumbers 0 = .ok (.lconst 0, 1) := by decide +kernel
theorem dX6_worthOfNumbers_1 : decode cX6_worthOfNumbers 1 = .ok (.lstore_n 2, 1) := by decide +kernel
theorem dX6_worthOfNumbers_2 : decode cX6_worthOfNumbers 2 = .ok (.iconst 0, 1) := by decide +kernel
theorem dX6_worthOfNumbers_3 : decode cX6_worthOfNumbers 3 = .ok (.istore 4, 2) := by decide +kernel
theorem dX6_worthOfNumbers_5 : decode cX6_worthOfNumbers 5 = .ok (.iload 4, 2) := by decide +kernel
theorem dX6_worthOfNumbers_7 : decode cX6_worthOfNumbers 7 = .ok (.aload_n 0, 1) := by decide +kernel
theorem dX6_worthOfNumbers_8 : decode cX6_worthOfNumbers 8 = .ok (.iload_n 1, 1) := by decide +kernel
theorem dX6_worthOfNumbers_9 : decode cX6_worthOfNumbers 9 = .ok (.invokevirtual 66, 3) := by decide +kernel
theorem dX6_worthOfNumbers_12 : decode cX6_worthOfNumbers 12 = .ok (.if_icmp .ge 24, 3) := by decide +kernel
theorem dX6_worthOfNumbers_15 : decode cX6_worthOfNumbers 15 = .ok (.lload_n 2, 1) := by decide +kernel
theorem dX6_worthOfNumbers_16 : decode cX6_worthOfNumbers 16 = .ok (.aload_n 0, 1) := by decide +kernel
theorem dX6_worthOfNumbers_17 : decode cX6_worthOfNumbers 17 = .ok (.getfield 19, 3) := by decide +kernel
theorem dX6_worthOfNumbers_20 : decode cX6_worthOfNumbers 20 = .ok (.bipush 15, 2) := by decide +kernel
theorem dX6_worthOfNumbers_22 : decode cX6_worthOfNumbers 22 = .ok (.iload_n 1, 1) := by decide +kernel
theorem dX6_worthOfNumbers_23 : decode cX6_worthOfNumbers 23 = .ok (.imul, 1) := by decide +kernel
theorem dX6_worthOfNumbers_24 : decode cX6_worthOfNumbers 24 = .ok (.iload 4, 2) := by decide +kernel
theorem dX6_worthOfNumbers_26 : decode cX6_worthOfNumbers 26 = .ok (.iadd, 1) := by decide +kernel
theorem dX6_worthOfNumbers_27 : decode cX6_worthOfNumbers 27 = .ok (.laload, 1) := by decide +kernel
theorem dX6_worthOfNumbers_28 : decode cX6_worthOfNumbers 28 = .ok (.ladd, 1) := by decide +kernel
theorem dX6_worthOfNumbers_29 : decode cX6_worthOfNumbers 29 = .ok (.lstore_n 2, 1) := by decide +kernel
theorem dX6_worthOfNumbers_30 : decode cX6_worthOfNumbers 30 = .ok (.iinc 4 1, 3) := by decide +kernel
theorem dX6_worthOfNumbers_33 : decode cX6_worthOfNumbers 33 = .ok (.goto (-28), 3) := by decide +kernel
theorem dX6_worthOfNumbers_36 : decode cX6_worthOfNumbers 36 = .ok (.lload_n 2, 1) := by decide +kernel
theorem dX6_worthOfNumbers_37 : decode cX6_worthOfNumbers 37 = .ok (.lreturn, 1) := by decide +kernel
theorem dX6_worthOfRow_0 : decode cX6_worthOfRow 0 = .ok (.lconst 0, 1) := by decide +kernel
theorem dX6_worthOfRow_1 : decode cX6_worthOfRow 1 = .ok (.lstore_n 3, 1) := by decide +kernel
theorem dX6_worthOfRow_2 : decode cX6_worthOfRow 2 = .ok (.iconst 0, 1) := by decide +kernel
theorem dX6_worthOfRow_3 : decode cX6_worthOfRow 3 = .ok (.istore 5, 2) := by decide +kernel
theorem dX6_worthOfRow_5 : decode cX6_worthOfRow 5 = .ok (.iload 5, 2) := by decide +kernel
theorem dX6_worthOfRow_7 : decode cX6_worthOfRow 7 = .ok (.aload_n 0, 1) := by decide +kernel
theorem dX6_worthOfRow_8 : decode cX6_worthOfRow 8 = .ok (.getfield 13, 3) := by decide +kernel
theorem dX6_worthOfRow_11 : decode cX6_worthOfRow 11 = .ok (.iload_n 1, 1) := by decide +kernel
theorem dX6_worthOfRow_12 : decode cX6_worthOfRow 12 = .ok (.iaload, 1) := by decide +kernel
theorem dX6_worthOfRow_13 : decode cX6_worthOfRow 13 = .ok (.if_icmp .ge 45, 3) := by decide +kernel
theorem dX6_worthOfRow_16 : decode cX6_worthOfRow 16 = .ok (.aload_n 0, 1) := by decide +kernel
theorem dX6_worthOfRow_17 : decode cX6_worthOfRow 17 = .ok (.getfield 23, 3) := by decide +kernel
theorem dX6_worthOfRow_20 : decode cX6_worthOfRow 20 = .ok (.iconst 5, 1) := by decide +kernel
theorem dX6_worthOfRow_21 : decode cX6_worthOfRow 21 = .ok (.iload_n 1, 1) := by decide +kernel
theorem dX6_worthOfRow_22 : decode cX6_worthOfRow 22 = .ok (.imul, 1) := by decide +kernel
theorem dX6_worthOfRow_23 : decode cX6_worthOfRow 23 = .ok (.iload 5, 2) := by decide +kernel
theorem dX6_worthOfRow_25 : decode cX6_worthOfRow 25 = .ok (.iadd, 1) := by decide +kernel
theorem dX6_worthOfRow_26 : decode cX6_worthOfRow 26 = .ok (.iaload, 1) := by decide +kernel
theorem dX6_worthOfRow_27 : decode cX6_worthOfRow 27 = .ok (.istore 6, 2) := by decide +kernel
theorem dX6_worthOfRow_29 : decode cX6_worthOfRow 29 = .ok (.lload_n 3, 1) := by decide +kernel
theorem dX6_worthOfRow_30 : decode cX6_worthOfRow 30 = .ok (.iload 6, 2) := by decide +kernel
theorem dX6_worthOfRow_32 : decode cX6_worthOfRow 32 = .ok (.iconst (-1), 1) := by decide +kernel
theorem dX6_worthOfRow_33 : decode cX6_worthOfRow 33 = .ok (.if_icmp .ne 7, 3) := by decide +kernel
theorem dX6_worthOfRow_36 : decode cX6_worthOfRow 36 = .ok (.lconst 0, 1) := by decide +kernel
theorem dX6_worthOfRow_37 : decode cX6_worthOfRow 37 = .ok (.goto 13, 3) := by decide +kernel
theorem dX6_worthOfRow_40 : decode cX6_worthOfRow 40 = .ok (.aload_n 0, 1) := by decide +kernel
theorem dX6_worthOfRow_41 : decode cX6_worthOfRow 41 = .ok (.iload 6, 2) := by decide +kernel
theorem dX6_worthOfRow_43 : decode cX6_worthOfRow 43 = .ok (.iload_n 2, 1) := by decide +kernel
theorem dX6_worthOfRow_44 : decode cX6_worthOfRow 44 = .ok (.invokestatic 92, 3) := by decide +kernel
theorem dX6_worthOfRow_47 : decode cX6_worthOfRow 47 = .ok (.invokevirtual 95, 3) := by decide +kernel
theorem dX6_worthOfRow_50 : decode cX6_worthOfRow 50 = .ok (.ladd, 1) := by decide +kernel
theorem dX6_worthOfRow_51 : decode cX6_worthOfRow 51 = .ok (.lstore_n 3, 1) := by decide +kernel
theorem dX6_worthOfRow_52 : decode cX6_worthOfRow 52 = .ok (.iinc 5 1, 3) := by decide +kernel
theorem dX6_worthOfRow_55 : decode cX6_worthOfRow 55 = .ok (.goto (-50), 3) := by decide +kernel
theorem dX6_worthOfRow_58 : decode cX6_worthOfRow 58 = .ok (.lload_n 3, 1) := by decide +kernel
theorem dX6_worthOfRow_59 : decode cX6_worthOfRow 59 = .ok (.lreturn, 1) := by decide +kernel
theorem dX6_worthOf_0 : decode cX6_worthOf 0 = .ok (.iload_n 2, 1) := by decide +kernel
theorem dX6_worthOf_1 : decode cX6_worthOf 1 = .ok (.iconst 4, 1) := by decide +kernel
theorem dX6_worthOf_2 : decode cX6_worthOf 2 = .ok (.if_icmp .ge 9, 3) := by decide +kernel
theorem dX6_worthOf_5 : decode cX6_worthOf 5 = .ok (.aload_n 0, 1) := by decide +kernel
theorem dX6_worthOf_6 : decode cX6_worthOf 6 = .ok (.iload_n 1, 1) := by decide +kernel
theorem dX6_worthOf_7 : decode cX6_worthOf 7 = .ok (.invokevirtual 99, 3) := by decide +kernel
theorem dX6_worthOf_10 : decode cX6_worthOf 10 = .ok (.lreturn, 1) := by decide +kernel
theorem dX6_worthOf_11 : decode cX6_worthOf 11 = .ok (.iload_n 2, 1) := by decide +kernel
theorem dX6_worthOf_12 : decode cX6_worthOf 12 = .ok (.bipush 8, 2) := by decide +kernel
theorem dX6_worthOf_14 : decode cX6_worthOf 14 = .ok (.if_icmp .lt 9, 3) := by decide +kernel
theorem dX6_worthOf_17 : decode cX6_worthOf 17 = .ok (.iload_n 2, 1) := by decide +kernel
theorem dX6_worthOf_18 : decode cX6_worthOf 18 = .ok (.bipush 16, 2) := by decide +kernel
theorem dX6_worthOf_20 : decode cX6_worthOf 20 = .ok (.if_icmp .ne 10, 3) := by decide +kernel
theorem dX6_worthOf_23 : decode cX6_worthOf 23 = .ok (.aload_n 0, 1) := by decide +kernel
theorem dX6_worthOf_24 : decode cX6_worthOf 24 = .ok (.iload_n 1, 1) := by decide +kernel
theorem dX6_worthOf_25 : decode cX6_worthOf 25 = .ok (.iload_n 2, 1) := by decide +kernel
theorem dX6_worthOf_26 : decode cX6_worthOf 26 = .ok (.invokevirtual 95, 3) := by decide +kernel
theorem dX6_worthOf_29 : decode cX6_worthOf 29 = .ok (.lreturn, 1) := by decide +kernel
theorem dX6_worthOf_30 : decode cX6_worthOf 30 = .ok (.iload_n 2, 1) := by decide +kernel
theorem dX6_worthOf_31 : decode cX6_worthOf 31 = .ok (.bipush 13, 2) := by decide +kernel
theorem dX6_worthOf_33 : decode cX6_worthOf 33 = .ok (.if_icmp .ge 10, 3) := by decide +kernel
theorem dX6_worthOf_36 : decode cX6_worthOf 36 = .ok (.aload_n 0, 1) := by decide +kernel
theorem dX6_worthOf_37 : decode cX6_worthOf 37 = .ok (.iload_n 1, 1) := by decide +kernel
theorem dX6_worthOf_38 : decode cX6_worthOf 38 = .ok (.iload_n 2, 1) := by decide +kernel
theorem dX6_worthOf_39 : decode cX6_worthOf 39 = .ok (.invokevirtual 103, 3) := by decide +kernel
theorem dX6_worthOf_42 : decode cX6_worthOf 42 = .ok (.lreturn, 1) := by decide +kernel
theorem dX6_worthOf_43 : decode cX6_worthOf 43 = .ok (.lconst 0, 1) := by decide +kernel
theorem dX6_worthOf_44 : decode cX6_worthOf 44 = .ok (.lstore_n 3, 1) := by decide +kernel
theorem dX6_worthOf_45 : decode cX6_worthOf 45 = .ok (.iconst 0, 1) := by decide +kernel
theorem dX6_worthOf_46 : decode cX6_worthOf 46 = .ok (.istore 5, 2) := by decide +kernel
theorem dX6_worthOf_48 : decode cX6_worthOf 48 = .ok (.iload 5, 2) := by decide +kernel
theorem dX6_worthOf_50 : decode cX6_worthOf 50 = .ok (.aload_n 0, 1) := by decide +kernel
theorem dX6_worthOf_51 : decode cX6_worthOf 51 = .ok (.getfield 13, 3) := by decide +kernel
theorem dX6_worthOf_54 : decode cX6_worthOf 54 = .ok (.iload_n 1, 1) := by decide +kernel
theorem dX6_worthOf_55 : decode cX6_worthOf 55 = .ok (.iaload, 1) := by decide +kernel
theorem dX6_worthOf_56 : decode cX6_worthOf 56 = .ok (.if_icmp .ge 45, 3) := by decide +kernel
theorem dX6_worthOf_59 : decode cX6_worthOf 59 = .ok (.aload_n 0, 1) := by decide +kernel
theorem dX6_worthOf_60 : decode cX6_worthOf 60 = .ok (.getfield 23, 3) := by decide +kernel
theorem dX6_worthOf_63 : decode cX6_worthOf 63 = .ok (.iconst 5, 1) := by decide +kernel
theorem dX6_worthOf_64 : decode cX6_worthOf 64 = .ok (.iload_n 1, 1) := by decide +kernel
theorem dX6_worthOf_65 : decode cX6_worthOf 65 = .ok (.imul, 1) := by decide +kernel
theorem dX6_worthOf_66 : decode cX6_worthOf 66 = .ok (.iload 5, 2) := by decide +kernel
theorem dX6_worthOf_68 : decode cX6_worthOf 68 = .ok (.iadd, 1) := by decide +kernel
theorem dX6_worthOf_69 : decode cX6_worthOf 69 = .ok (.iaload, 1) := by decide +kernel
theorem dX6_worthOf_70 : decode cX6_worthOf 70 = .ok (.istore 6, 2) := by decide +kernel
theorem dX6_worthOf_72 : decode cX6_worthOf 72 = .ok (.lload_n 3, 1) := by decide +kernel
theorem dX6_worthOf_73 : decode cX6_worthOf 73 = .ok (.iload 6, 2) := by decide +kernel
theorem dX6_worthOf_75 : decode cX6_worthOf 75 = .ok (.iconst (-1), 1) := by decide +kernel
theorem dX6_worthOf_76 : decode cX6_worthOf 76 = .ok (.if_icmp .ne 7, 3) := by decide +kernel
theorem dX6_worthOf_79 : decode cX6_worthOf 79 = .ok (.lconst 0, 1) := by decide +kernel
theorem dX6_worthOf_80 : decode cX6_worthOf 80 = .ok (.goto 13, 3) := by decide +kernel
theorem dX6_worthOf_83 : decode cX6_worthOf 83 = .ok (.aload_n 0, 1) := by decide +kernel
theorem dX6_worthOf_84 : decode cX6_worthOf 84 = .ok (.iload 6, 2) := by decide +kernel
theorem dX6_worthOf_86 : decode cX6_worthOf 86 = .ok (.iload_n 2, 1) := by decide +kernel
theorem dX6_worthOf_87 : decode cX6_worthOf 87 = .ok (.invokestatic 92, 3) := by decide +kernel
theorem dX6_worthOf_90 : decode cX6_worthOf 90 = .ok (.invokevirtual 103, 3) := by decide +kernel
theorem dX6_worthOf_93 : decode cX6_worthOf 93 = .ok (.ladd, 1) := by decide +kernel
theorem dX6_worthOf_94 : decode cX6_worthOf 94 = .ok (.lstore_n 3, 1) := by decide +kernel
theorem dX6_worthOf_95 : decode cX6_worthOf 95 = .ok (.iinc 5 1, 3) := by decide +kernel
theorem dX6_worthOf_98 : decode cX6_worthOf 98 = .ok (.goto (-50), 3) := by decide +kernel
theorem dX6_worthOf_101 : decode cX6_worthOf 101 = .ok (.lload_n 3, 1) := by decide +kernel
theorem dX6_worthOf_102 : decode cX6_worthOf 102 = .ok (.lreturn, 1) := by decide +kernel
theorem dX6_wearRow_0 : decode cX6_wearRow 0 = .ok (.iconst 0, 1) := by decide +kernel
theorem dX6_wearRow_1 : decode cX6_wearRow 1 = .ok (.istore_n 2, 1) := by decide +kernel
theorem dX6_wearRow_2 : decode cX6_wearRow 2 = .ok (.iload_n 2, 1) := by decide +kernel
theorem dX6_wearRow_3 : decode cX6_wearRow 3 = .ok (.aload_n 0, 1) := by decide +kernel
theorem dX6_wearRow_4 : decode cX6_wearRow 4 = .ok (.getfield 13, 3) := by decide +kernel
theorem dX6_wearRow_7 : decode cX6_wearRow 7 = .ok (.iload_n 1, 1) := by decide +kernel
theorem dX6_wearRow_8 : decode cX6_wearRow 8 = .ok (.iaload, 1) := by decide +kernel
theorem dX6_wearRow_9 : decode cX6_wearRow 9 = .ok (.if_icmp .ge 35, 3) := by decide +kernel
theorem dX6_wearRow_12 : decode cX6_wearRow 12 = .ok (.aload_n 0, 1) := by decide +kernel
theorem dX6_wearRow_13 : decode cX6_wearRow 13 = .ok (.getfield 23, 3) := by decide +kernel
theorem dX6_wearRow_16 : decode cX6_wearRow 16 = .ok (.iconst 5, 1) := by decide +kernel
theorem dX6_wearRow_17 : decode cX6_wearRow 17 = .ok (.iload_n 1, 1) := by decide +kernel
theorem dX6_wearRow_18 : decode cX6_wearRow 18 = .ok (.imul, 1) := by decide +kernel
theorem dX6_wearRow_19 : decode cX6_wearRow 19 = .ok (.iload_n 2, 1) := by decide +kernel
theorem dX6_wearRow_20 : decode cX6_wearRow 20 = .ok (.iadd, 1) := by decide +kernel
theorem dX6_wearRow_21 : decode cX6_wearRow 21 = .ok (.iaload, 1) := by decide +kernel
theorem dX6_wearRow_22 : decode cX6_wearRow 22 = .ok (.istore_n 3, 1) := by decide +kernel
theorem dX6_wearRow_23 : decode cX6_wearRow 23 = .ok (.iload_n 3, 1) := by decide +kernel
theorem dX6_wearRow_24 : decode cX6_wearRow 24 = .ok (.iconst (-1), 1) := by decide +kernel
theorem dX6_wearRow_25 : decode cX6_wearRow 25 = .ok (.if_icmp .eq 13, 3) := by decide +kernel
theorem dX6_wearRow_28 : decode cX6_wearRow 28 = .ok (.aload_n 0, 1) := by decide +kernel
theorem dX6_wearRow_29 : decode cX6_wearRow 29 = .ok (.getfield 16, 3) := by decide +kernel
theorem dX6_wearRow_32 : decode cX6_wearRow 32 = .ok (.iload_n 3, 1) := by decide +kernel
theorem dX6_wearRow_33 : decode cX6_wearRow 33 = .ok (.dup2, 1) := by decide +kernel
theorem dX6_wearRow_34 : decode cX6_wearRow 34 = .ok (.iaload, 1) := by decide +kernel
theorem dX6_wearRow_35 : decode cX6_wearRow 35 = .ok (.iconst 1, 1) := by decide +kernel
theorem dX6_wearRow_36 : decode cX6_wearRow 36 = .ok (.iadd, 1) := by decide +kernel
theorem dX6_wearRow_37 : decode cX6_wearRow 37 = .ok (.iastore, 1) := by decide +kernel
theorem dX6_wearRow_38 : decode cX6_wearRow 38 = .ok (.iinc 2 1, 3) := by decide +kernel
theorem dX6_wearRow_41 : decode cX6_wearRow 41 = .ok (.goto (-39), 3) := by decide +kernel
theorem dX6_wearRow_44 : decode cX6_wearRow 44 = .ok (.return_, 1) := by decide +kernel
theorem dX6_wearAll_0 : decode cX6_wearAll 0 = .ok (.aload_n 0, 1) := by decide +kernel
theorem dX6_wearAll_1 : decode cX6_wearAll 1 = .ok (.getfield 7, 3) := by decide +kernel
theorem dX6_wearAll_4 : decode cX6_wearAll 4 = .ok (.iload_n 1, 1) := by decide +kernel
theorem dX6_wearAll_5 : decode cX6_wearAll 5 = .ok (.iaload, 1) := by decide +kernel
theorem dX6_wearAll_6 : decode cX6_wearAll 6 = .ok (.invokestatic 59, 3) := by decide +kernel
theorem dX6_wearAll_9 : decode cX6_wearAll 9 = .ok (.ifCond .eq 16, 3) := by decide +kernel
theorem dX6_wearAll_12 : decode cX6_wearAll 12 = .ok (.aload_n 0, 1) := by decide +kernel
theorem dX6_wearAll_13 : decode cX6_wearAll 13 = .ok (.getfield 16, 3) := by decide +kernel
theorem dX6_wearAll_16 : decode cX6_wearAll 16 = .ok (.iload_n 1, 1) := by decide +kernel
theorem dX6_wearAll_17 : decode cX6_wearAll 17 = .ok (.dup2, 1) := by decide +kernel
theorem dX6_wearAll_18 : decode cX6_wearAll 18 = .ok (.iaload, 1) := by decide +kernel
theorem dX6_wearAll_19 : decode cX6_wearAll 19 = .ok (.iconst 1, 1) := by decide +kernel
theorem dX6_wearAll_20 : decode cX6_wearAll 20 = .ok (.iadd, 1) := by decide +kernel
theorem dX6_wearAll_21 : decode cX6_wearAll 21 = .ok (.iastore, 1) := by decide +kernel
theorem dX6_wearAll_22 : decode cX6_wearAll 22 = .ok (.goto 61, 3) := by decide +kernel
theorem dX6_wearAll_25 : decode cX6_wearAll 25 = .ok (.aload_n 0, 1) := by decide +kernel
theorem dX6_wearAll_26 : decode cX6_wearAll 26 = .ok (.getfield 7, 3) := by decide +kernel
theorem dX6_wearAll_29 : decode cX6_wearAll 29 = .ok (.iload_n 1, 1) := by decide +kernel
theorem dX6_wearAll_30 : decode cX6_wearAll 30 = .ok (.iaload, 1) := by decide +kernel
theorem dX6_wearAll_31 : decode cX6_wearAll 31 = .ok (.bipush 13, 2) := by decide +kernel
theorem dX6_wearAll_33 : decode cX6_wearAll 33 = .ok (.if_icmp .ge 11, 3) := by decide +kernel
theorem dX6_wearAll_36 : decode cX6_wearAll 36 = .ok (.aload_n 0, 1) := by decide +kernel
theorem dX6_wearAll_37 : decode cX6_wearAll 37 = .ok (.iload_n 1, 1) := by decide +kernel
theorem dX6_wearAll_38 : decode cX6_wearAll 38 = .ok (.invokevirtual 106, 3) := by decide +kernel
theorem dX6_wearAll_41 : decode cX6_wearAll 41 = .ok (.goto 42, 3) := by decide +kernel
theorem dX6_wearAll_44 : decode cX6_wearAll 44 = .ok (.iconst 0, 1) := by decide +kernel
theorem dX6_wearAll_45 : decode cX6_wearAll 45 = .ok (.istore_n 2, 1) := by decide +kernel
theorem dX6_wearAll_46 : decode cX6_wearAll 46 = .ok (.iload_n 2, 1) := by decide +kernel
end
section
theorem dX6_wearAll_47 : decode cX6_wearAll 47 = .ok (.aload_n 0, 1) := by decide +kernel
theorem dX6_wearAll_48 : decode cX6_wearAll 48 = .ok (.getfield 13, 3) := by decide +kernel
theorem dX6_wearAll_51 : decode cX6_wearAll 51 = .ok (.iload_n 1, 1) := by decide +kernel
theorem dX6_wearAll_52 : decode cX6_wearAll 52 = .ok (.iaload, 1) := by decide +kernel
theorem dX6_wearAll_53 : decode cX6_wearAll 53 = .ok (.if_icmp .ge 30, 3) := by decide +kernel
theorem dX6_wearAll_56 : decode cX6_wearAll 56 = .ok (.aload_n 0, 1) := by decide +kernel
theorem dX6_wearAll_57 : decode cX6_wearAll 57 = .ok (.getfield 23, 3) := by decide +kernel
theorem dX6_wearAll_60 : decode cX6_wearAll 60 = .ok (.iconst 5, 1) := by decide +kernel
theorem dX6_wearAll_61 : decode cX6_wearAll 61 = .ok (.iload_n 1, 1) := by decide +kernel
theorem dX6_wearAll_62 : decode cX6_wearAll 62 = .ok (.imul, 1) := by decide +kernel
theorem dX6_wearAll_63 : decode cX6_wearAll 63 = .ok (.iload_n 2, 1) := by decide +kernel
theorem dX6_wearAll_64 : decode cX6_wearAll 64 = .ok (.iadd, 1) := by decide +kernel
theorem dX6_wearAll_65 : decode cX6_wearAll 65 = .ok (.iaload, 1) := by decide +kernel
theorem dX6_wearAll_66 : decode cX6_wearAll 66 = .ok (.istore_n 3, 1) := by decide +kernel
theorem dX6_wearAll_67 : decode cX6_wearAll 67 = .ok (.iload_n 3, 1) := by decide +kernel
theorem dX6_wearAll_68 : decode cX6_wearAll 68 = .ok (.iconst (-1), 1) := by decide +kernel
theorem dX6_wearAll_69 : decode cX6_wearAll 69 = .ok (.if_icmp .eq 8, 3) := by decide +kernel
theorem dX6_wearAll_72 : decode cX6_wearAll 72 = .ok (.aload_n 0, 1) := by decide +kernel
theorem dX6_wearAll_73 : decode cX6_wearAll 73 = .ok (.iload_n 3, 1) := by decide +kernel
theorem dX6_wearAll_74 : decode cX6_wearAll 74 = .ok (.invokevirtual 106, 3) := by decide +kernel
theorem dX6_wearAll_77 : decode cX6_wearAll 77 = .ok (.iinc 2 1, 3) := by decide +kernel
theorem dX6_wearAll_80 : decode cX6_wearAll 80 = .ok (.goto (-34), 3) := by decide +kernel
theorem dX6_wearAll_83 : decode cX6_wearAll 83 = .ok (.return_, 1) := by decide +kernel
theorem dX6_take_0 : decode cX6_take 0 = .ok (.iload_n 2, 1) := by decide +kernel
theorem dX6_take_1 : decode cX6_take 1 = .ok (.aload_n 0, 1) := by decide +kernel
theorem dX6_take_2 : decode cX6_take 2 = .ok (.getfield 13, 3) := by decide +kernel
theorem dX6_take_5 : decode cX6_take 5 = .ok (.iload_n 1, 1) := by decide +kernel
theorem dX6_take_6 : decode cX6_take 6 = .ok (.iaload, 1) := by decide +kernel
theorem dX6_take_7 : decode cX6_take 7 = .ok (.if_icmp .lt 6, 3) := by decide +kernel
theorem dX6_take_10 : decode cX6_take 10 = .ok (.bipush (-6), 2) := by decide +kernel
theorem dX6_take_12 : decode cX6_take 12 = .ok (.ireturn, 1) := by decide +kernel
theorem dX6_take_13 : decode cX6_take 13 = .ok (.aload_n 0, 1) := by decide +kernel
theorem dX6_take_14 : decode cX6_take 14 = .ok (.aload_n 0, 1) := by decide +kernel
theorem dX6_take_15 : decode cX6_take 15 = .ok (.getfield 23, 3) := by decide +kernel
theorem dX6_take_18 : decode cX6_take 18 = .ok (.iconst 5, 1) := by decide +kernel
theorem dX6_take_19 : decode cX6_take 19 = .ok (.iload_n 1, 1) := by decide +kernel
theorem dX6_take_20 : decode cX6_take 20 = .ok (.imul, 1) := by decide +kernel
theorem dX6_take_21 : decode cX6_take 21 = .ok (.iload_n 2, 1) := by decide +kernel
theorem dX6_take_22 : decode cX6_take 22 = .ok (.iadd, 1) := by decide +kernel
theorem dX6_take_23 : decode cX6_take 23 = .ok (.iaload, 1) := by decide +kernel
theorem dX6_take_24 : decode cX6_take 24 = .ok (.putfield 29, 3) := by decide +kernel
theorem dX6_take_27 : decode cX6_take 27 = .ok (.aload_n 0, 1) := by decide +kernel
theorem dX6_take_28 : decode cX6_take 28 = .ok (.getfield 23, 3) := by decide +kernel
theorem dX6_take_31 : decode cX6_take 31 = .ok (.iconst 5, 1) := by decide +kernel
theorem dX6_take_32 : decode cX6_take 32 = .ok (.iload_n 1, 1) := by decide +kernel
theorem dX6_take_33 : decode cX6_take 33 = .ok (.imul, 1) := by decide +kernel
theorem dX6_take_34 : decode cX6_take 34 = .ok (.iload_n 2, 1) := by decide +kernel
theorem dX6_take_35 : decode cX6_take 35 = .ok (.iadd, 1) := by decide +kernel
theorem dX6_take_36 : decode cX6_take 36 = .ok (.iconst (-1), 1) := by decide +kernel
theorem dX6_take_37 : decode cX6_take 37 = .ok (.iastore, 1) := by decide +kernel
theorem dX6_take_38 : decode cX6_take 38 = .ok (.iconst 0, 1) := by decide +kernel
theorem dX6_take_39 : decode cX6_take 39 = .ok (.ireturn, 1) := by decide +kernel
theorem dX6_lay_0 : decode cX6_lay 0 = .ok (.aload_n 0, 1) := by decide +kernel
theorem dX6_lay_1 : decode cX6_lay 1 = .ok (.aload_n 0, 1) := by decide +kernel
theorem dX6_lay_2 : decode cX6_lay 2 = .ok (.getfield 29, 3) := by decide +kernel
theorem dX6_lay_5 : decode cX6_lay 5 = .ok (.iload_n 2, 1) := by decide +kernel
theorem dX6_lay_6 : decode cX6_lay 6 = .ok (.invokestatic 92, 3) := by decide +kernel
theorem dX6_lay_9 : decode cX6_lay 9 = .ok (.invokevirtual 110, 3) := by decide +kernel
theorem dX6_lay_12 : decode cX6_lay 12 = .ok (.ifCond .ne 6, 3) := by decide +kernel
theorem dX6_lay_15 : decode cX6_lay 15 = .ok (.bipush (-5), 2) := by decide +kernel
theorem dX6_lay_17 : decode cX6_lay 17 = .ok (.ireturn, 1) := by decide +kernel
theorem dX6_lay_18 : decode cX6_lay 18 = .ok (.iload_n 1, 1) := by decide +kernel
theorem dX6_lay_19 : decode cX6_lay 19 = .ok (.iconst (-1), 1) := by decide +kernel
theorem dX6_lay_20 : decode cX6_lay 20 = .ok (.if_icmp .ne 6, 3) := by decide +kernel
theorem dX6_lay_23 : decode cX6_lay 23 = .ok (.bipush (-4), 2) := by decide +kernel
theorem dX6_lay_25 : decode cX6_lay 25 = .ok (.ireturn, 1) := by decide +kernel
theorem dX6_lay_26 : decode cX6_lay 26 = .ok (.iload_n 3, 1) := by decide +kernel
theorem dX6_lay_27 : decode cX6_lay 27 = .ok (.aload_n 0, 1) := by decide +kernel
theorem dX6_lay_28 : decode cX6_lay 28 = .ok (.getfield 13, 3) := by decide +kernel
theorem dX6_lay_31 : decode cX6_lay 31 = .ok (.iload_n 1, 1) := by decide +kernel
theorem dX6_lay_32 : decode cX6_lay 32 = .ok (.iaload, 1) := by decide +kernel
theorem dX6_lay_33 : decode cX6_lay 33 = .ok (.if_icmp .lt 6, 3) := by decide +kernel
theorem dX6_lay_36 : decode cX6_lay 36 = .ok (.bipush (-6), 2) := by decide +kernel
theorem dX6_lay_38 : decode cX6_lay 38 = .ok (.ireturn, 1) := by decide +kernel
theorem dX6_lay_39 : decode cX6_lay 39 = .ok (.aload_n 0, 1) := by decide +kernel
theorem dX6_lay_40 : decode cX6_lay 40 = .ok (.aload_n 0, 1) := by decide +kernel
theorem dX6_lay_41 : decode cX6_lay 41 = .ok (.getfield 29, 3) := by decide +kernel
theorem dX6_lay_44 : decode cX6_lay 44 = .ok (.aload_n 0, 1) := by decide +kernel
theorem dX6_lay_45 : decode cX6_lay 45 = .ok (.getfield 7, 3) := by decide +kernel
theorem dX6_lay_48 : decode cX6_lay 48 = .ok (.iload_n 1, 1) := by decide +kernel
theorem dX6_lay_49 : decode cX6_lay 49 = .ok (.iaload, 1) := by decide +kernel
theorem dX6_lay_50 : decode cX6_lay 50 = .ok (.invokestatic 92, 3) := by decide +kernel
theorem dX6_lay_53 : decode cX6_lay 53 = .ok (.invokevirtual 110, 3) := by decide +kernel
theorem dX6_lay_56 : decode cX6_lay 56 = .ok (.ifCond .ne 6, 3) := by decide +kernel
theorem dX6_lay_59 : decode cX6_lay 59 = .ok (.bipush (-7), 2) := by decide +kernel
theorem dX6_lay_61 : decode cX6_lay 61 = .ok (.ireturn, 1) := by decide +kernel
theorem dX6_lay_62 : decode cX6_lay 62 = .ok (.aload_n 0, 1) := by decide +kernel
theorem dX6_lay_63 : decode cX6_lay 63 = .ok (.getfield 23, 3) := by decide +kernel
theorem dX6_lay_66 : decode cX6_lay 66 = .ok (.iconst 5, 1) := by decide +kernel
theorem dX6_lay_67 : decode cX6_lay 67 = .ok (.iload_n 1, 1) := by decide +kernel
theorem dX6_lay_68 : decode cX6_lay 68 = .ok (.imul, 1) := by decide +kernel
theorem dX6_lay_69 : decode cX6_lay 69 = .ok (.iload_n 3, 1) := by decide +kernel
theorem dX6_lay_70 : decode cX6_lay 70 = .ok (.iadd, 1) := by decide +kernel
theorem dX6_lay_71 : decode cX6_lay 71 = .ok (.aload_n 0, 1) := by decide +kernel
theorem dX6_lay_72 : decode cX6_lay 72 = .ok (.getfield 29, 3) := by decide +kernel
theorem dX6_lay_75 : decode cX6_lay 75 = .ok (.iastore, 1) := by decide +kernel
theorem dX6_lay_76 : decode cX6_lay 76 = .ok (.aload_n 0, 1) := by decide +kernel
theorem dX6_lay_77 : decode cX6_lay 77 = .ok (.iconst (-1), 1) := by decide +kernel
theorem dX6_lay_78 : decode cX6_lay 78 = .ok (.putfield 29, 3) := by decide +kernel
theorem dX6_lay_81 : decode cX6_lay 81 = .ok (.iconst 0, 1) := by decide +kernel
theorem dX6_lay_82 : decode cX6_lay 82 = .ok (.ireturn, 1) := by decide +kernel
theorem dX6_done_0 : decode cX6_done 0 = .ok (.aload_n 0, 1) := by decide +kernel
theorem dX6_done_1 : decode cX6_done 1 = .ok (.getfield 36, 3) := by decide +kernel
theorem dX6_done_4 : decode cX6_done 4 = .ok (.iload_n 1, 1) := by decide +kernel
theorem dX6_done_5 : decode cX6_done 5 = .ok (.iaload, 1) := by decide +kernel
theorem dX6_done_6 : decode cX6_done 6 = .ok (.istore_n 2, 1) := by decide +kernel
theorem dX6_done_7 : decode cX6_done 7 = .ok (.aload_n 0, 1) := by decide +kernel
theorem dX6_done_8 : decode cX6_done 8 = .ok (.getfield 26, 3) := by decide +kernel
theorem dX6_done_11 : decode cX6_done 11 = .ok (.iload_n 2, 1) := by decide +kernel
theorem dX6_done_12 : decode cX6_done 12 = .ok (.iaload, 1) := by decide +kernel
theorem dX6_done_13 : decode cX6_done 13 = .ok (.istore_n 3, 1) := by decide +kernel
theorem dX6_done_14 : decode cX6_done 14 = .ok (.aload_n 0, 1) := by decide +kernel
theorem dX6_done_15 : decode cX6_done 15 = .ok (.getfield 39, 3) := by decide +kernel
theorem dX6_done_18 : decode cX6_done 18 = .ok (.iload_n 1, 1) := by decide +kernel
theorem dX6_done_19 : decode cX6_done 19 = .ok (.iaload, 1) := by decide +kernel
theorem dX6_done_20 : decode cX6_done 20 = .ok (.istore 4, 2) := by decide +kernel
theorem dX6_done_22 : decode cX6_done 22 = .ok (.aload_n 0, 1) := by decide +kernel
theorem dX6_done_23 : decode cX6_done 23 = .ok (.iload_n 3, 1) := by decide +kernel
theorem dX6_done_24 : decode cX6_done 24 = .ok (.iload 4, 2) := by decide +kernel
theorem dX6_done_26 : decode cX6_done 26 = .ok (.invokevirtual 110, 3) := by decide +kernel
theorem dX6_done_29 : decode cX6_done 29 = .ok (.ifCond .ne 6, 3) := by decide +kernel
theorem dX6_done_32 : decode cX6_done 32 = .ok (.bipush (-5), 2) := by decide +kernel
theorem dX6_done_34 : decode cX6_done 34 = .ok (.ireturn, 1) := by decide +kernel
theorem dX6_done_35 : decode cX6_done 35 = .ok (.iload_n 3, 1) := by decide +kernel
theorem dX6_done_36 : decode cX6_done 36 = .ok (.iconst (-1), 1) := by decide +kernel
theorem dX6_done_37 : decode cX6_done 37 = .ok (.if_icmp .ne 16, 3) := by decide +kernel
theorem dX6_done_40 : decode cX6_done 40 = .ok (.aload_n 0, 1) := by decide +kernel
theorem dX6_done_41 : decode cX6_done 41 = .ok (.getfield 33, 3) := by decide +kernel
theorem dX6_done_44 : decode cX6_done 44 = .ok (.iload_n 1, 1) := by decide +kernel
theorem dX6_done_45 : decode cX6_done 45 = .ok (.iaload, 1) := by decide +kernel
theorem dX6_done_46 : decode cX6_done 46 = .ok (.iconst 3, 1) := by decide +kernel
theorem dX6_done_47 : decode cX6_done 47 = .ok (.if_icmp .ge 6, 3) := by decide +kernel
theorem dX6_done_50 : decode cX6_done 50 = .ok (.bipush (-4), 2) := by decide +kernel
theorem dX6_done_52 : decode cX6_done 52 = .ok (.ireturn, 1) := by decide +kernel
theorem dX6_done_53 : decode cX6_done 53 = .ok (.aload_n 0, 1) := by decide +kernel
theorem dX6_done_54 : decode cX6_done 54 = .ok (.getfield 33, 3) := by decide +kernel
theorem dX6_done_57 : decode cX6_done 57 = .ok (.iload_n 1, 1) := by decide +kernel
theorem dX6_done_58 : decode cX6_done 58 = .ok (.iaload, 1) := by decide +kernel
theorem dX6_done_59 : decode cX6_done 59 = .ok (.tableswitch 101 0 4 #[33, 51, 58, 70, 84], 33) := by decide +kernel
theorem dX6_done_92 : decode cX6_done 92 = .ok (.aload_n 0, 1) := by decide +kernel
theorem dX6_done_93 : decode cX6_done 93 = .ok (.dup, 1) := by decide +kernel
theorem dX6_done_94 : decode cX6_done 94 = .ok (.getfield 113, 3) := by decide +kernel
theorem dX6_done_97 : decode cX6_done 97 = .ok (.aload_n 0, 1) := by decide +kernel
theorem dX6_done_98 : decode cX6_done 98 = .ok (.iload_n 3, 1) := by decide +kernel
theorem dX6_done_99 : decode cX6_done 99 = .ok (.iload 4, 2) := by decide +kernel
theorem dX6_done_101 : decode cX6_done 101 = .ok (.invokevirtual 117, 3) := by decide +kernel
theorem dX6_done_104 : decode cX6_done 104 = .ok (.ladd, 1) := by decide +kernel
theorem dX6_done_105 : decode cX6_done 105 = .ok (.putfield 113, 3) := by decide +kernel
theorem dX6_done_108 : decode cX6_done 108 = .ok (.iconst 0, 1) := by decide +kernel
theorem dX6_done_109 : decode cX6_done 109 = .ok (.ireturn, 1) := by decide +kernel
theorem dX6_done_110 : decode cX6_done 110 = .ok (.aload_n 0, 1) := by decide +kernel
theorem dX6_done_111 : decode cX6_done 111 = .ok (.iload_n 3, 1) := by decide +kernel
theorem dX6_done_112 : decode cX6_done 112 = .ok (.invokevirtual 120, 3) := by decide +kernel
theorem dX6_done_115 : decode cX6_done 115 = .ok (.iconst 0, 1) := by decide +kernel
theorem dX6_done_116 : decode cX6_done 116 = .ok (.ireturn, 1) := by decide +kernel
theorem dX6_done_117 : decode cX6_done 117 = .ok (.aload_n 0, 1) := by decide +kernel
theorem dX6_done_118 : decode cX6_done 118 = .ok (.iload_n 3, 1) := by decide +kernel
theorem dX6_done_119 : decode cX6_done 119 = .ok (.aload_n 0, 1) := by decide +kernel
theorem dX6_done_120 : decode cX6_done 120 = .ok (.getfield 42, 3) := by decide +kernel
theorem dX6_done_123 : decode cX6_done 123 = .ok (.iload_n 1, 1) := by decide +kernel
theorem dX6_done_124 : decode cX6_done 124 = .ok (.iaload, 1) := by decide +kernel
theorem dX6_done_125 : decode cX6_done 125 = .ok (.invokevirtual 123, 3) := by decide +kernel
theorem dX6_done_128 : decode cX6_done 128 = .ok (.ireturn, 1) := by decide +kernel
theorem dX6_done_129 : decode cX6_done 129 = .ok (.aload_n 0, 1) := by decide +kernel
theorem dX6_done_130 : decode cX6_done 130 = .ok (.iload_n 3, 1) := by decide +kernel
theorem dX6_done_131 : decode cX6_done 131 = .ok (.iload 4, 2) := by decide +kernel
theorem dX6_done_133 : decode cX6_done 133 = .ok (.aload_n 0, 1) := by decide +kernel
theorem dX6_done_134 : decode cX6_done 134 = .ok (.getfield 42, 3) := by decide +kernel
theorem dX6_done_137 : decode cX6_done 137 = .ok (.iload_n 1, 1) := by decide +kernel
theorem dX6_done_138 : decode cX6_done 138 = .ok (.iaload, 1) := by decide +kernel
theorem dX6_done_139 : decode cX6_done 139 = .ok (.invokevirtual 127, 3) := by decide +kernel
theorem dX6_done_142 : decode cX6_done 142 = .ok (.ireturn, 1) := by decide +kernel
theorem dX6_done_143 : decode cX6_done 143 = .ok (.aload_n 0, 1) := by decide +kernel
theorem dX6_done_144 : decode cX6_done 144 = .ok (.getfield 26, 3) := by decide +kernel
theorem dX6_done_147 : decode cX6_done 147 = .ok (.iload_n 2, 1) := by decide +kernel
theorem dX6_done_148 : decode cX6_done 148 = .ok (.aload_n 0, 1) := by decide +kernel
theorem dX6_done_149 : decode cX6_done 149 = .ok (.getfield 29, 3) := by decide +kernel
theorem dX6_done_152 : decode cX6_done 152 = .ok (.iastore, 1) := by decide +kernel
theorem dX6_done_153 : decode cX6_done 153 = .ok (.aload_n 0, 1) := by decide +kernel
theorem dX6_done_154 : decode cX6_done 154 = .ok (.iload_n 3, 1) := by decide +kernel
theorem dX6_done_155 : decode cX6_done 155 = .ok (.putfield 29, 3) := by decide +kernel
theorem dX6_done_158 : decode cX6_done 158 = .ok (.iconst 0, 1) := by decide +kernel
theorem dX6_done_159 : decode cX6_done 159 = .ok (.ireturn, 1) := by decide +kernel
theorem dX6_done_160 : decode cX6_done 160 = .ok (.aload_n 0, 1) := by decide +kernel
theorem dX6_done_161 : decode cX6_done 161 = .ok (.getfield 26, 3) := by decide +kernel
theorem dX6_done_164 : decode cX6_done 164 = .ok (.aload_n 0, 1) := by decide +kernel
theorem dX6_done_165 : decode cX6_done 165 = .ok (.getfield 42, 3) := by decide +kernel
theorem dX6_done_168 : decode cX6_done 168 = .ok (.iload_n 1, 1) := by decide +kernel
theorem dX6_done_169 : decode cX6_done 169 = .ok (.iaload, 1) := by decide +kernel
theorem dX6_done_170 : decode cX6_done 170 = .ok (.iload_n 3, 1) := by decide +kernel
theorem dX6_done_171 : decode cX6_done 171 = .ok (.iastore, 1) := by decide +kernel
theorem dX6_done_172 : decode cX6_done 172 = .ok (.iconst 0, 1) := by decide +kernel
theorem dX6_done_173 : decode cX6_done 173 = .ok (.ireturn, 1) := by decide +kernel
theorem dX6_play_0 : decode cX6_play 0 = .ok (.iload_n 1, 1) := by decide +kernel
theorem dX6_play_1 : decode cX6_play 1 = .ok (.iconst 0, 1) := by decide +kernel
theorem dX6_play_2 : decode cX6_play 2 = .ok (.aload_n 0, 1) := by decide +kernel
theorem dX6_play_3 : decode cX6_play 3 = .ok (.getfield 83, 3) := by decide +kernel
theorem dX6_play_6 : decode cX6_play 6 = .ok (.iconst 1, 1) := by decide +kernel
theorem dX6_play_7 : decode cX6_play 7 = .ok (.isub, 1) := by decide +kernel
theorem dX6_play_8 : decode cX6_play 8 = .ok (.invokestatic 51, 3) := by decide +kernel
theorem dX6_play_11 : decode cX6_play 11 = .ok (.ifCond .eq 17, 3) := by decide +kernel
theorem dX6_play_14 : decode cX6_play 14 = .ok (.iload_n 2, 1) := by decide +kernel
theorem dX6_play_15 : decode cX6_play 15 = .ok (.iload_n 1, 1) := by decide +kernel
theorem dX6_play_16 : decode cX6_play 16 = .ok (.aload_n 0, 1) := by decide +kernel
theorem dX6_play_17 : decode cX6_play 17 = .ok (.getfield 83, 3) := by decide +kernel
theorem dX6_play_20 : decode cX6_play 20 = .ok (.iconst 1, 1) := by decide +kernel
theorem dX6_play_21 : decode cX6_play 21 = .ok (.isub, 1) := by decide +kernel
theorem dX6_play_22 : decode cX6_play 22 = .ok (.invokestatic 51, 3) := by decide +kernel
theorem dX6_play_25 : decode cX6_play 25 = .ok (.ifCond .ne 6, 3) := by decide +kernel
theorem dX6_play_28 : decode cX6_play 28 = .ok (.bipush (-2), 2) := by decide +kernel
theorem dX6_play_30 : decode cX6_play 30 = .ok (.ireturn, 1) := by decide +kernel
theorem dX6_play_31 : decode cX6_play 31 = .ok (.aload_n 0, 1) := by decide +kernel
theorem dX6_play_32 : decode cX6_play 32 = .ok (.iconst 0, 1) := by decide +kernel
theorem dX6_play_33 : decode cX6_play 33 = .ok (.putfield 131, 3) := by decide +kernel
theorem dX6_play_36 : decode cX6_play 36 = .ok (.aload_n 0, 1) := by decide +kernel
theorem dX6_play_37 : decode cX6_play 37 = .ok (.iconst (-1), 1) := by decide +kernel
theorem dX6_play_38 : decode cX6_play 38 = .ok (.putfield 45, 3) := by decide +kernel
theorem dX6_play_41 : decode cX6_play 41 = .ok (.iconst 0, 1) := by decide +kernel
theorem dX6_play_42 : decode cX6_play 42 = .ok (.istore_n 3, 1) := by decide +kernel
theorem dX6_play_43 : decode cX6_play 43 = .ok (.iload_n 1, 1) := by decide +kernel
theorem dX6_play_44 : decode cX6_play 44 = .ok (.istore 4, 2) := by decide +kernel
theorem dX6_play_46 : decode cX6_play 46 = .ok (.iload 4, 2) := by decide +kernel
theorem dX6_play_48 : decode cX6_play 48 = .ok (.iload_n 2, 1) := by decide +kernel
theorem dX6_play_49 : decode cX6_play 49 = .ok (.if_icmp .gt 55, 3) := by decide +kernel
theorem dX6_play_52 : decode cX6_play 52 = .ok (.aload_n 0, 1) := by decide +kernel
theorem dX6_play_53 : decode cX6_play 53 = .ok (.getfield 131, 3) := by decide +kernel
theorem dX6_play_56 : decode cX6_play 56 = .ok (.ifCond .ne 48, 3) := by decide +kernel
theorem dX6_play_59 : decode cX6_play 59 = .ok (.aload_n 0, 1) := by decide +kernel
theorem dX6_play_60 : decode cX6_play 60 = .ok (.aload_n 0, 1) := by decide +kernel
theorem dX6_play_61 : decode cX6_play 61 = .ok (.iload 4, 2) := by decide +kernel
theorem dX6_play_63 : decode cX6_play 63 = .ok (.invokevirtual 134, 3) := by decide +kernel
theorem dX6_play_66 : decode cX6_play 66 = .ok (.putfield 131, 3) := by decide +kernel
theorem dX6_play_69 : decode cX6_play 69 = .ok (.aload_n 0, 1) := by decide +kernel
theorem dX6_play_70 : decode cX6_play 70 = .ok (.getfield 131, 3) := by decide +kernel
theorem dX6_play_73 : decode cX6_play 73 = .ok (.ifCond .ne 9, 3) := by decide +kernel
theorem dX6_play_76 : decode cX6_play 76 = .ok (.iinc 3 1, 3) := by decide +kernel
theorem dX6_play_79 : decode cX6_play 79 = .ok (.goto 19, 3) := by decide +kernel
theorem dX6_play_82 : decode cX6_play 82 = .ok (.aload_n 0, 1) := by decide +kernel
theorem dX6_play_83 : decode cX6_play 83 = .ok (.iload 4, 2) := by decide +kernel
theorem dX6_play_85 : decode cX6_play 85 = .ok (.putfield 45, 3) := by decide +kernel
theorem dX6_play_88 : decode cX6_play 88 = .ok (.aload_n 0, 1) := by decide +kernel
theorem dX6_play_89 : decode cX6_play 89 = .ok (.dup, 1) := by decide +kernel
theorem dX6_play_90 : decode cX6_play 90 = .ok (.getfield 137, 3) := by decide +kernel
theorem dX6_play_93 : decode cX6_play 93 = .ok (.iconst 1, 1) := by decide +kernel
theorem dX6_play_94 : decode cX6_play 94 = .ok (.iadd, 1) := by decide +kernel
theorem dX6_play_95 : decode cX6_play 95 = .ok (.putfield 137, 3) := by decide +kernel
theorem dX6_play_98 : decode cX6_play 98 = .ok (.iinc 4 1, 3) := by decide +kernel
theorem dX6_play_101 : decode cX6_play 101 = .ok (.goto (-55), 3) := by decide +kernel
theorem dX6_play_104 : decode cX6_play 104 = .ok (.iload_n 3, 1) := by decide +kernel
theorem dX6_play_105 : decode cX6_play 105 = .ok (.ireturn, 1) := by decide +kernel
theorem dX6_miscue_0 : decode cX6_miscue 0 = .ok (.iload_n 1, 1) := by decide +kernel
theorem dX6_miscue_1 : decode cX6_miscue 1 = .ok (.ifCond .ne 10, 3) := by decide +kernel
theorem dX6_miscue_4 : decode cX6_miscue 4 = .ok (.aload_n 0, 1) := by decide +kernel
theorem dX6_miscue_5 : decode cX6_miscue 5 = .ok (.getfield 131, 3) := by decide +kernel
theorem dX6_miscue_8 : decode cX6_miscue 8 = .ok (.goto 29, 3) := by decide +kernel
theorem dX6_miscue_11 : decode cX6_miscue 11 = .ok (.iload_n 1, 1) := by decide +kernel
theorem dX6_miscue_12 : decode cX6_miscue 12 = .ok (.iconst 1, 1) := by decide +kernel
theorem dX6_miscue_13 : decode cX6_miscue 13 = .ok (.if_icmp .ne 10, 3) := by decide +kernel
theorem dX6_miscue_16 : decode cX6_miscue 16 = .ok (.aload_n 0, 1) := by decide +kernel
theorem dX6_miscue_17 : decode cX6_miscue 17 = .ok (.getfield 45, 3) := by decide +kernel
theorem dX6_miscue_20 : decode cX6_miscue 20 = .ok (.goto 17, 3) := by decide +kernel
theorem dX6_miscue_23 : decode cX6_miscue 23 = .ok (.iload_n 1, 1) := by decide +kernel
theorem dX6_miscue_24 : decode cX6_miscue 24 = .ok (.iconst 2, 1) := by decide +kernel
theorem dX6_miscue_25 : decode cX6_miscue 25 = .ok (.if_icmp .ne 10, 3) := by decide +kernel
theorem dX6_miscue_28 : decode cX6_miscue 28 = .ok (.aload_n 0, 1) := by decide +kernel
theorem dX6_miscue_29 : decode cX6_miscue 29 = .ok (.getfield 137, 3) := by decide +kernel
theorem dX6_miscue_32 : decode cX6_miscue 32 = .ok (.goto 5, 3) := by decide +kernel
theorem dX6_miscue_35 : decode cX6_miscue 35 = .ok (.bipush (-2), 2) := by decide +kernel
theorem dX6_miscue_37 : decode cX6_miscue 37 = .ok (.ireturn, 1) := by decide +kernel
theorem dX6_points_0 : decode cX6_points 0 = .ok (.aload_n 0, 1) := by decide +kernel
theorem dX6_points_1 : decode cX6_points 1 = .ok (.getfield 113, 3) := by decide +kernel
theorem dX6_points_4 : decode cX6_points 4 = .ok (.lreturn, 1) := by decide +kernel
theorem dX6_is_0 : decode cX6_is 0 = .ok (.aload_n 0, 1) := by decide +kernel
theorem dX6_is_1 : decode cX6_is 1 = .ok (.iload_n 1, 1) := by decide +kernel
theorem dX6_is_2 : decode cX6_is 2 = .ok (.invokevirtual 63, 3) := by decide +kernel
theorem dX6_is_5 : decode cX6_is 5 = .ok (.ifCond .eq 10, 3) := by decide +kernel
theorem dX6_is_8 : decode cX6_is 8 = .ok (.iload_n 2, 1) := by decide +kernel
theorem dX6_is_9 : decode cX6_is 9 = .ok (.invokestatic 77, 3) := by decide +kernel
theorem dX6_is_12 : decode cX6_is 12 = .ok (.ifCond .ne 8, 3) := by decide +kernel
theorem dX6_is_15 : decode cX6_is 15 = .ok (.bipush (-2), 2) := by decide +kernel
theorem dX6_is_17 : decode cX6_is 17 = .ok (.goto 21, 3) := by decide +kernel
theorem dX6_is_20 : decode cX6_is 20 = .ok (.aload_n 0, 1) := by decide +kernel
theorem dX6_is_21 : decode cX6_is 21 = .ok (.getfield 7, 3) := by decide +kernel
theorem dX6_is_24 : decode cX6_is 24 = .ok (.iload_n 1, 1) := by decide +kernel
theorem dX6_is_25 : decode cX6_is 25 = .ok (.iaload, 1) := by decide +kernel
theorem dX6_is_26 : decode cX6_is 26 = .ok (.iload_n 2, 1) := by decide +kernel
theorem dX6_is_27 : decode cX6_is 27 = .ok (.invokestatic 55, 3) := by decide +kernel
theorem dX6_is_30 : decode cX6_is 30 = .ok (.ifCond .eq 7, 3) := by decide +kernel
theorem dX6_is_33 : decode cX6_is 33 = .ok (.iconst 1, 1) := by decide +kernel
theorem dX6_is_34 : decode cX6_is 34 = .ok (.goto 4, 3) := by decide +kernel
theorem dX6_is_37 : decode cX6_is 37 = .ok (.iconst 0, 1) := by decide +kernel
theorem dX6_is_38 : decode cX6_is 38 = .ok (.ireturn, 1) := by decide +kernel
theorem dX6_worth_0 : decode cX6_worth 0 = .ok (.aload_n 0, 1) := by decide +kernel
theorem dX6_worth_1 : decode cX6_worth 1 = .ok (.iload_n 1, 1) := by decide +kernel
theorem dX6_worth_2 : decode cX6_worth 2 = .ok (.invokevirtual 63, 3) := by decide +kernel
theorem dX6_worth_5 : decode cX6_worth 5 = .ok (.ifCond .eq 32, 3) := by decide +kernel
theorem dX6_worth_8 : decode cX6_worth 8 = .ok (.iload_n 2, 1) := by decide +kernel
theorem dX6_worth_9 : decode cX6_worth 9 = .ok (.invokestatic 77, 3) := by decide +kernel
theorem dX6_worth_12 : decode cX6_worth 12 = .ok (.ifCond .eq 25, 3) := by decide +kernel
theorem dX6_worth_15 : decode cX6_worth 15 = .ok (.aload_n 0, 1) := by decide +kernel
theorem dX6_worth_16 : decode cX6_worth 16 = .ok (.getfield 7, 3) := by decide +kernel
theorem dX6_worth_19 : decode cX6_worth 19 = .ok (.iload_n 1, 1) := by decide +kernel
theorem dX6_worth_20 : decode cX6_worth 20 = .ok (.iaload, 1) := by decide +kernel
theorem dX6_worth_21 : decode cX6_worth 21 = .ok (.iload_n 2, 1) := by decide +kernel
theorem dX6_worth_22 : decode cX6_worth 22 = .ok (.invokestatic 55, 3) := by decide +kernel
theorem dX6_worth_25 : decode cX6_worth 25 = .ok (.ifCond .eq 12, 3) := by decide +kernel
theorem dX6_worth_28 : decode cX6_worth 28 = .ok (.aload_n 0, 1) := by decide +kernel
theorem dX6_worth_29 : decode cX6_worth 29 = .ok (.iload_n 1, 1) := by decide +kernel
theorem dX6_worth_30 : decode cX6_worth 30 = .ok (.iload_n 2, 1) := by decide +kernel
theorem dX6_worth_31 : decode cX6_worth 31 = .ok (.invokevirtual 117, 3) := by decide +kernel
theorem dX6_worth_34 : decode cX6_worth 34 = .ok (.goto 4, 3) := by decide +kernel
theorem dX6_worth_37 : decode cX6_worth 37 = .ok (.lconst 0, 1) := by decide +kernel
theorem dX6_worth_38 : decode cX6_worth 38 = .ok (.lreturn, 1) := by decide +kernel
theorem dX6_wear_0 : decode cX6_wear 0 = .ok (.aload_n 0, 1) := by decide +kernel
theorem dX6_wear_1 : decode cX6_wear 1 = .ok (.iload_n 1, 1) := by decide +kernel
theorem dX6_wear_2 : decode cX6_wear 2 = .ok (.invokevirtual 63, 3) := by decide +kernel
theorem dX6_wear_5 : decode cX6_wear 5 = .ok (.ifCond .ne 8, 3) := by decide +kernel
theorem dX6_wear_8 : decode cX6_wear 8 = .ok (.bipush (-2), 2) := by decide +kernel
theorem dX6_wear_10 : decode cX6_wear 10 = .ok (.goto 29, 3) := by decide +kernel
theorem dX6_wear_13 : decode cX6_wear 13 = .ok (.aload_n 0, 1) := by decide +kernel
theorem dX6_wear_14 : decode cX6_wear 14 = .ok (.getfield 7, 3) := by decide +kernel
theorem dX6_wear_17 : decode cX6_wear 17 = .ok (.iload_n 1, 1) := by decide +kernel
theorem dX6_wear_18 : decode cX6_wear 18 = .ok (.iaload, 1) := by decide +kernel
theorem dX6_wear_19 : decode cX6_wear 19 = .ok (.iconst 4, 1) := by decide +kernel
theorem dX6_wear_20 : decode cX6_wear 20 = .ok (.bipush 6, 2) := by decide +kernel
theorem dX6_wear_22 : decode cX6_wear 22 = .ok (.invokestatic 51, 3) := by decide +kernel
theorem dX6_wear_25 : decode cX6_wear 25 = .ok (.ifCond .eq 12, 3) := by decide +kernel
theorem dX6_wear_28 : decode cX6_wear 28 = .ok (.aload_n 0, 1) := by decide +kernel
theorem dX6_wear_29 : decode cX6_wear 29 = .ok (.getfield 16, 3) := by decide +kernel
theorem dX6_wear_32 : decode cX6_wear 32 = .ok (.iload_n 1, 1) := by decide +kernel
theorem dX6_wear_33 : decode cX6_wear 33 = .ok (.iaload, 1) := by decide +kernel
theorem dX6_wear_34 : decode cX6_wear 34 = .ok (.goto 5, 3) := by decide +kernel
theorem dX6_wear_37 : decode cX6_wear 37 = .ok (.bipush (-5), 2) := by decide +kernel
theorem dX6_wear_39 : decode cX6_wear 39 = .ok (.ireturn, 1) := by decide +kernel
theorem dX6_at_0 : decode cX6_at 0 = .ok (.aload_n 0, 1) := by decide +kernel
theorem dX6_at_1 : decode cX6_at 1 = .ok (.iload_n 1, 1) := by decide +kernel
theorem dX6_at_2 : decode cX6_at 2 = .ok (.invokevirtual 63, 3) := by decide +kernel
theorem dX6_at_5 : decode cX6_at 5 = .ok (.ifCond .ne 6, 3) := by decide +kernel
theorem dX6_at_8 : decode cX6_at 8 = .ok (.bipush (-2), 2) := by decide +kernel
theorem dX6_at_10 : decode cX6_at 10 = .ok (.ireturn, 1) := by decide +kernel
theorem dX6_at_11 : decode cX6_at 11 = .ok (.aload_n 0, 1) := by decide +kernel
theorem dX6_at_12 : decode cX6_at 12 = .ok (.getfield 7, 3) := by decide +kernel
theorem dX6_at_15 : decode cX6_at 15 = .ok (.iload_n 1, 1) := by decide +kernel
theorem dX6_at_16 : decode cX6_at 16 = .ok (.iaload, 1) := by decide +kernel
theorem dX6_at_17 : decode cX6_at 17 = .ok (.invokestatic 74, 3) := by decide +kernel
theorem dX6_at_20 : decode cX6_at 20 = .ok (.ifCond .ne 6, 3) := by decide +kernel
theorem dX6_at_23 : decode cX6_at 23 = .ok (.bipush (-5), 2) := by decide +kernel
theorem dX6_at_25 : decode cX6_at 25 = .ok (.ireturn, 1) := by decide +kernel
theorem dX6_at_26 : decode cX6_at 26 = .ok (.iload_n 2, 1) := by decide +kernel
theorem dX6_at_27 : decode cX6_at 27 = .ok (.iconst 0, 1) := by decide +kernel
theorem dX6_at_28 : decode cX6_at 28 = .ok (.aload_n 0, 1) := by decide +kernel
theorem dX6_at_29 : decode cX6_at 29 = .ok (.getfield 13, 3) := by decide +kernel
theorem dX6_at_32 : decode cX6_at 32 = .ok (.iload_n 1, 1) := by decide +kernel
theorem dX6_at_33 : decode cX6_at 33 = .ok (.iaload, 1) := by decide +kernel
theorem dX6_at_34 : decode cX6_at 34 = .ok (.iconst 1, 1) := by decide +kernel
theorem dX6_at_35 : decode cX6_at 35 = .ok (.isub, 1) := by decide +kernel
theorem dX6_at_36 : decode cX6_at 36 = .ok (.invokestatic 51, 3) := by decide +kernel
theorem dX6_at_39 : decode cX6_at 39 = .ok (.ifCond .eq 16, 3) := by decide +kernel
theorem dX6_at_42 : decode cX6_at 42 = .ok (.aload_n 0, 1) := by decide +kernel
theorem dX6_at_43 : decode cX6_at 43 = .ok (.getfield 23, 3) := by decide +kernel
theorem dX6_at_46 : decode cX6_at 46 = .ok (.iconst 5, 1) := by decide +kernel
theorem dX6_at_47 : decode cX6_at 47 = .ok (.iload_n 1, 1) := by decide +kernel
theorem dX6_at_48 : decode cX6_at 48 = .ok (.imul, 1) := by decide +kernel
theorem dX6_at_49 : decode cX6_at 49 = .ok (.iload_n 2, 1) := by decide +kernel
theorem dX6_at_50 : decode cX6_at 50 = .ok (.iadd, 1) := by decide +kernel
theorem dX6_at_51 : decode cX6_at 51 = .ok (.iaload, 1) := by decide +kernel
theorem dX6_at_52 : decode cX6_at 52 = .ok (.goto 5, 3) := by decide +kernel
theorem dX6_at_55 : decode cX6_at 55 = .ok (.bipush (-6), 2) := by decide +kernel
theorem dX6_at_57 : decode cX6_at 57 = .ok (.ireturn, 1) := by decide +kernel
theorem dX6_count_0 : decode cX6_count 0 = .ok (.iload_n 1, 1) := by decide +kernel
theorem dX6_count_1 : decode cX6_count 1 = .ok (.ifCond .ne 10, 3) := by decide +kernel
theorem dX6_count_4 : decode cX6_count 4 = .ok (.aload_n 0, 1) := by decide +kernel
theorem dX6_count_5 : decode cX6_count 5 = .ok (.getfield 48, 3) := by decide +kernel
theorem dX6_count_8 : decode cX6_count 8 = .ok (.goto 17, 3) := by decide +kernel
theorem dX6_count_11 : decode cX6_count 11 = .ok (.iload_n 1, 1) := by decide +kernel
theorem dX6_count_12 : decode cX6_count 12 = .ok (.iconst 1, 1) := by decide +kernel
theorem dX6_count_13 : decode cX6_count 13 = .ok (.if_icmp .ne 10, 3) := by decide +kernel
theorem dX6_count_16 : decode cX6_count 16 = .ok (.aload_n 0, 1) := by decide +kernel
theorem dX6_count_17 : decode cX6_count 17 = .ok (.getfield 83, 3) := by decide +kernel
theorem dX6_count_20 : decode cX6_count 20 = .ok (.goto 5, 3) := by decide +kernel
theorem dX6_count_23 : decode cX6_count 23 = .ok (.bipush (-2), 2) := by decide +kernel
theorem dX6_count_25 : decode cX6_count 25 = .ok (.ireturn, 1) := by decide +kernel
theorem dL_law_0 : decode cL_law 0 = .ok (.new 7, 3) := by decide +kernel
theorem dL_law_3 : decode cL_law 3 = .ok (.dup, 1) := by decide +kernel
theorem dL_law_4 : decode cL_law 4 = .ok (.invokespecial 9, 3) := by decide +kernel
theorem dL_law_7 : decode cL_law 7 = .ok (.astore_n 1, 1) := by decide +kernel
theorem dL_law_8 : decode cL_law 8 = .ok (.new 10, 3) := by decide +kernel
theorem dL_law_11 : decode cL_law 11 = .ok (.dup, 1) := by decide +kernel
theorem dL_law_12 : decode cL_law 12 = .ok (.invokespecial 12, 3) := by decide +kernel
theorem dL_law_15 : decode cL_law 15 = .ok (.astore_n 2, 1) := by decide +kernel
theorem dL_law_16 : decode cL_law 16 = .ok (.iconst 0, 1) := by decide +kernel
theorem dL_law_17 : decode cL_law 17 = .ok (.istore_n 3, 1) := by decide +kernel
theorem dL_law_18 : decode cL_law 18 = .ok (.iload_n 3, 1) := by decide +kernel
theorem dL_law_19 : decode cL_law 19 = .ok (.aload_n 0, 1) := by decide +kernel
theorem dL_law_20 : decode cL_law 20 = .ok (.arraylength, 1) := by decide +kernel
theorem dL_law_21 : decode cL_law 21 = .ok (.iconst 5, 1) := by decide +kernel
theorem dL_law_22 : decode cL_law 22 = .ok (.isub, 1) := by decide +kernel
theorem dL_law_23 : decode cL_law 23 = .ok (.if_icmp .gt 518, 3) := by decide +kernel
theorem dL_law_26 : decode cL_law 26 = .ok (.aload_n 0, 1) := by decide +kernel
theorem dL_law_27 : decode cL_law 27 = .ok (.iload_n 3, 1) := by decide +kernel
end
section
theorem dL_law_28 : decode cL_law 28 = .ok (.iaload, 1) := by decide +kernel
theorem dL_law_29 : decode cL_law 29 = .ok (.bipush 15, 2) := by decide +kernel
theorem dL_law_31 : decode cL_law 31 = .ok (.iand, 1) := by decide +kernel
theorem dL_law_32 : decode cL_law 32 = .ok (.tableswitch 503 0 14 #[76, 109, 152, 185, 208, 221, 274, 287, 320, 343, 357, 390, 424, 447, 480], 76) := by decide +kernel
theorem dL_law_108 : decode cL_law 108 = .ok (.aload_n 1, 1) := by decide +kernel
theorem dL_law_109 : decode cL_law 109 = .ok (.aload_n 0, 1) := by decide +kernel
theorem dL_law_110 : decode cL_law 110 = .ok (.iload_n 3, 1) := by decide +kernel
theorem dL_law_111 : decode cL_law 111 = .ok (.iconst 1, 1) := by decide +kernel
theorem dL_law_112 : decode cL_law 112 = .ok (.iadd, 1) := by decide +kernel
theorem dL_law_113 : decode cL_law 113 = .ok (.iaload, 1) := by decide +kernel
theorem dL_law_114 : decode cL_law 114 = .ok (.aload_n 0, 1) := by decide +kernel
theorem dL_law_115 : decode cL_law 115 = .ok (.iload_n 3, 1) := by decide +kernel
theorem dL_law_116 : decode cL_law 116 = .ok (.iconst 2, 1) := by decide +kernel
theorem dL_law_117 : decode cL_law 117 = .ok (.iadd, 1) := by decide +kernel
theorem dL_law_118 : decode cL_law 118 = .ok (.iaload, 1) := by decide +kernel
theorem dL_law_119 : decode cL_law 119 = .ok (.invokevirtual 13, 3) := by decide +kernel
theorem dL_law_122 : decode cL_law 122 = .ok (.aload_n 2, 1) := by decide +kernel
theorem dL_law_123 : decode cL_law 123 = .ok (.aload_n 0, 1) := by decide +kernel
theorem dL_law_124 : decode cL_law 124 = .ok (.iload_n 3, 1) := by decide +kernel
theorem dL_law_125 : decode cL_law 125 = .ok (.iconst 1, 1) := by decide +kernel
theorem dL_law_126 : decode cL_law 126 = .ok (.iadd, 1) := by decide +kernel
theorem dL_law_127 : decode cL_law 127 = .ok (.iaload, 1) := by decide +kernel
theorem dL_law_128 : decode cL_law 128 = .ok (.aload_n 0, 1) := by decide +kernel
theorem dL_law_129 : decode cL_law 129 = .ok (.iload_n 3, 1) := by decide +kernel
theorem dL_law_130 : decode cL_law 130 = .ok (.iconst 2, 1) := by decide +kernel
theorem dL_law_131 : decode cL_law 131 = .ok (.iadd, 1) := by decide +kernel
theorem dL_law_132 : decode cL_law 132 = .ok (.iaload, 1) := by decide +kernel
theorem dL_law_133 : decode cL_law 133 = .ok (.invokevirtual 17, 3) := by decide +kernel
theorem dL_law_136 : decode cL_law 136 = .ok (.if_icmp .eq 399, 3) := by decide +kernel
theorem dL_law_139 : decode cL_law 139 = .ok (.iconst 0, 1) := by decide +kernel
theorem dL_law_140 : decode cL_law 140 = .ok (.ireturn, 1) := by decide +kernel
theorem dL_law_141 : decode cL_law 141 = .ok (.aload_n 1, 1) := by decide +kernel
theorem dL_law_142 : decode cL_law 142 = .ok (.aload_n 0, 1) := by decide +kernel
theorem dL_law_143 : decode cL_law 143 = .ok (.iload_n 3, 1) := by decide +kernel
theorem dL_law_144 : decode cL_law 144 = .ok (.iconst 1, 1) := by decide +kernel
theorem dL_law_145 : decode cL_law 145 = .ok (.iadd, 1) := by decide +kernel
theorem dL_law_146 : decode cL_law 146 = .ok (.iaload, 1) := by decide +kernel
theorem dL_law_147 : decode cL_law 147 = .ok (.aload_n 0, 1) := by decide +kernel
theorem dL_law_148 : decode cL_law 148 = .ok (.iload_n 3, 1) := by decide +kernel
theorem dL_law_149 : decode cL_law 149 = .ok (.iconst 2, 1) := by decide +kernel
theorem dL_law_150 : decode cL_law 150 = .ok (.iadd, 1) := by decide +kernel
theorem dL_law_151 : decode cL_law 151 = .ok (.iaload, 1) := by decide +kernel
theorem dL_law_152 : decode cL_law 152 = .ok (.aload_n 0, 1) := by decide +kernel
theorem dL_law_153 : decode cL_law 153 = .ok (.iload_n 3, 1) := by decide +kernel
theorem dL_law_154 : decode cL_law 154 = .ok (.iconst 3, 1) := by decide +kernel
theorem dL_law_155 : decode cL_law 155 = .ok (.iadd, 1) := by decide +kernel
theorem dL_law_156 : decode cL_law 156 = .ok (.iaload, 1) := by decide +kernel
theorem dL_law_157 : decode cL_law 157 = .ok (.invokevirtual 18, 3) := by decide +kernel
theorem dL_law_160 : decode cL_law 160 = .ok (.aload_n 2, 1) := by decide +kernel
theorem dL_law_161 : decode cL_law 161 = .ok (.aload_n 0, 1) := by decide +kernel
theorem dL_law_162 : decode cL_law 162 = .ok (.iload_n 3, 1) := by decide +kernel
theorem dL_law_163 : decode cL_law 163 = .ok (.iconst 1, 1) := by decide +kernel
theorem dL_law_164 : decode cL_law 164 = .ok (.iadd, 1) := by decide +kernel
theorem dL_law_165 : decode cL_law 165 = .ok (.iaload, 1) := by decide +kernel
theorem dL_law_166 : decode cL_law 166 = .ok (.aload_n 0, 1) := by decide +kernel
theorem dL_law_167 : decode cL_law 167 = .ok (.iload_n 3, 1) := by decide +kernel
theorem dL_law_168 : decode cL_law 168 = .ok (.iconst 2, 1) := by decide +kernel
theorem dL_law_169 : decode cL_law 169 = .ok (.iadd, 1) := by decide +kernel
theorem dL_law_170 : decode cL_law 170 = .ok (.iaload, 1) := by decide +kernel
theorem dL_law_171 : decode cL_law 171 = .ok (.aload_n 0, 1) := by decide +kernel
theorem dL_law_172 : decode cL_law 172 = .ok (.iload_n 3, 1) := by decide +kernel
theorem dL_law_173 : decode cL_law 173 = .ok (.iconst 3, 1) := by decide +kernel
theorem dL_law_174 : decode cL_law 174 = .ok (.iadd, 1) := by decide +kernel
theorem dL_law_175 : decode cL_law 175 = .ok (.iaload, 1) := by decide +kernel
theorem dL_law_176 : decode cL_law 176 = .ok (.invokevirtual 22, 3) := by decide +kernel
theorem dL_law_179 : decode cL_law 179 = .ok (.if_icmp .eq 356, 3) := by decide +kernel
theorem dL_law_182 : decode cL_law 182 = .ok (.iconst 0, 1) := by decide +kernel
theorem dL_law_183 : decode cL_law 183 = .ok (.ireturn, 1) := by decide +kernel
theorem dL_law_184 : decode cL_law 184 = .ok (.aload_n 1, 1) := by decide +kernel
theorem dL_law_185 : decode cL_law 185 = .ok (.aload_n 0, 1) := by decide +kernel
theorem dL_law_186 : decode cL_law 186 = .ok (.iload_n 3, 1) := by decide +kernel
theorem dL_law_187 : decode cL_law 187 = .ok (.iconst 1, 1) := by decide +kernel
theorem dL_law_188 : decode cL_law 188 = .ok (.iadd, 1) := by decide +kernel
theorem dL_law_189 : decode cL_law 189 = .ok (.iaload, 1) := by decide +kernel
theorem dL_law_190 : decode cL_law 190 = .ok (.aload_n 0, 1) := by decide +kernel
theorem dL_law_191 : decode cL_law 191 = .ok (.iload_n 3, 1) := by decide +kernel
theorem dL_law_192 : decode cL_law 192 = .ok (.iconst 2, 1) := by decide +kernel
theorem dL_law_193 : decode cL_law 193 = .ok (.iadd, 1) := by decide +kernel
theorem dL_law_194 : decode cL_law 194 = .ok (.iaload, 1) := by decide +kernel
theorem dL_law_195 : decode cL_law 195 = .ok (.invokevirtual 23, 3) := by decide +kernel
theorem dL_law_198 : decode cL_law 198 = .ok (.aload_n 2, 1) := by decide +kernel
theorem dL_law_199 : decode cL_law 199 = .ok (.aload_n 0, 1) := by decide +kernel
theorem dL_law_200 : decode cL_law 200 = .ok (.iload_n 3, 1) := by decide +kernel
theorem dL_law_201 : decode cL_law 201 = .ok (.iconst 1, 1) := by decide +kernel
theorem dL_law_202 : decode cL_law 202 = .ok (.iadd, 1) := by decide +kernel
theorem dL_law_203 : decode cL_law 203 = .ok (.iaload, 1) := by decide +kernel
theorem dL_law_204 : decode cL_law 204 = .ok (.aload_n 0, 1) := by decide +kernel
theorem dL_law_205 : decode cL_law 205 = .ok (.iload_n 3, 1) := by decide +kernel
theorem dL_law_206 : decode cL_law 206 = .ok (.iconst 2, 1) := by decide +kernel
theorem dL_law_207 : decode cL_law 207 = .ok (.iadd, 1) := by decide +kernel
theorem dL_law_208 : decode cL_law 208 = .ok (.iaload, 1) := by decide +kernel
theorem dL_law_209 : decode cL_law 209 = .ok (.invokevirtual 26, 3) := by decide +kernel
theorem dL_law_212 : decode cL_law 212 = .ok (.if_icmp .eq 323, 3) := by decide +kernel
theorem dL_law_215 : decode cL_law 215 = .ok (.iconst 0, 1) := by decide +kernel
theorem dL_law_216 : decode cL_law 216 = .ok (.ireturn, 1) := by decide +kernel
theorem dL_law_217 : decode cL_law 217 = .ok (.aload_n 1, 1) := by decide +kernel
theorem dL_law_218 : decode cL_law 218 = .ok (.aload_n 0, 1) := by decide +kernel
theorem dL_law_219 : decode cL_law 219 = .ok (.iload_n 3, 1) := by decide +kernel
theorem dL_law_220 : decode cL_law 220 = .ok (.iconst 1, 1) := by decide +kernel
theorem dL_law_221 : decode cL_law 221 = .ok (.iadd, 1) := by decide +kernel
theorem dL_law_222 : decode cL_law 222 = .ok (.iaload, 1) := by decide +kernel
theorem dL_law_223 : decode cL_law 223 = .ok (.invokevirtual 27, 3) := by decide +kernel
theorem dL_law_226 : decode cL_law 226 = .ok (.aload_n 2, 1) := by decide +kernel
theorem dL_law_227 : decode cL_law 227 = .ok (.aload_n 0, 1) := by decide +kernel
theorem dL_law_228 : decode cL_law 228 = .ok (.iload_n 3, 1) := by decide +kernel
theorem dL_law_229 : decode cL_law 229 = .ok (.iconst 1, 1) := by decide +kernel
theorem dL_law_230 : decode cL_law 230 = .ok (.iadd, 1) := by decide +kernel
theorem dL_law_231 : decode cL_law 231 = .ok (.iaload, 1) := by decide +kernel
theorem dL_law_232 : decode cL_law 232 = .ok (.invokevirtual 31, 3) := by decide +kernel
theorem dL_law_235 : decode cL_law 235 = .ok (.if_icmp .eq 300, 3) := by decide +kernel
theorem dL_law_238 : decode cL_law 238 = .ok (.iconst 0, 1) := by decide +kernel
theorem dL_law_239 : decode cL_law 239 = .ok (.ireturn, 1) := by decide +kernel
theorem dL_law_240 : decode cL_law 240 = .ok (.aload_n 1, 1) := by decide +kernel
theorem dL_law_241 : decode cL_law 241 = .ok (.invokevirtual 32, 3) := by decide +kernel
theorem dL_law_244 : decode cL_law 244 = .ok (.aload_n 2, 1) := by decide +kernel
theorem dL_law_245 : decode cL_law 245 = .ok (.invokevirtual 36, 3) := by decide +kernel
theorem dL_law_248 : decode cL_law 248 = .ok (.if_icmp .eq 287, 3) := by decide +kernel
theorem dL_law_251 : decode cL_law 251 = .ok (.iconst 0, 1) := by decide +kernel
theorem dL_law_252 : decode cL_law 252 = .ok (.ireturn, 1) := by decide +kernel
theorem dL_law_253 : decode cL_law 253 = .ok (.aload_n 1, 1) := by decide +kernel
theorem dL_law_254 : decode cL_law 254 = .ok (.aload_n 0, 1) := by decide +kernel
theorem dL_law_255 : decode cL_law 255 = .ok (.iload_n 3, 1) := by decide +kernel
theorem dL_law_256 : decode cL_law 256 = .ok (.iconst 1, 1) := by decide +kernel
theorem dL_law_257 : decode cL_law 257 = .ok (.iadd, 1) := by decide +kernel
theorem dL_law_258 : decode cL_law 258 = .ok (.iaload, 1) := by decide +kernel
theorem dL_law_259 : decode cL_law 259 = .ok (.aload_n 0, 1) := by decide +kernel
theorem dL_law_260 : decode cL_law 260 = .ok (.iload_n 3, 1) := by decide +kernel
theorem dL_law_261 : decode cL_law 261 = .ok (.iconst 2, 1) := by decide +kernel
theorem dL_law_262 : decode cL_law 262 = .ok (.iadd, 1) := by decide +kernel
theorem dL_law_263 : decode cL_law 263 = .ok (.iaload, 1) := by decide +kernel
theorem dL_law_264 : decode cL_law 264 = .ok (.aload_n 0, 1) := by decide +kernel
theorem dL_law_265 : decode cL_law 265 = .ok (.iload_n 3, 1) := by decide +kernel
theorem dL_law_266 : decode cL_law 266 = .ok (.iconst 3, 1) := by decide +kernel
theorem dL_law_267 : decode cL_law 267 = .ok (.iadd, 1) := by decide +kernel
theorem dL_law_268 : decode cL_law 268 = .ok (.iaload, 1) := by decide +kernel
theorem dL_law_269 : decode cL_law 269 = .ok (.aload_n 0, 1) := by decide +kernel
theorem dL_law_270 : decode cL_law 270 = .ok (.iload_n 3, 1) := by decide +kernel
theorem dL_law_271 : decode cL_law 271 = .ok (.iconst 4, 1) := by decide +kernel
theorem dL_law_272 : decode cL_law 272 = .ok (.iadd, 1) := by decide +kernel
theorem dL_law_273 : decode cL_law 273 = .ok (.iaload, 1) := by decide +kernel
theorem dL_law_274 : decode cL_law 274 = .ok (.invokevirtual 37, 3) := by decide +kernel
theorem dL_law_277 : decode cL_law 277 = .ok (.aload_n 2, 1) := by decide +kernel
theorem dL_law_278 : decode cL_law 278 = .ok (.aload_n 0, 1) := by decide +kernel
theorem dL_law_279 : decode cL_law 279 = .ok (.iload_n 3, 1) := by decide +kernel
theorem dL_law_280 : decode cL_law 280 = .ok (.iconst 1, 1) := by decide +kernel
theorem dL_law_281 : decode cL_law 281 = .ok (.iadd, 1) := by decide +kernel
theorem dL_law_282 : decode cL_law 282 = .ok (.iaload, 1) := by decide +kernel
theorem dL_law_283 : decode cL_law 283 = .ok (.aload_n 0, 1) := by decide +kernel
theorem dL_law_284 : decode cL_law 284 = .ok (.iload_n 3, 1) := by decide +kernel
theorem dL_law_285 : decode cL_law 285 = .ok (.iconst 2, 1) := by decide +kernel
theorem dL_law_286 : decode cL_law 286 = .ok (.iadd, 1) := by decide +kernel
theorem dL_law_287 : decode cL_law 287 = .ok (.iaload, 1) := by decide +kernel
theorem dL_law_288 : decode cL_law 288 = .ok (.aload_n 0, 1) := by decide +kernel
theorem dL_law_289 : decode cL_law 289 = .ok (.iload_n 3, 1) := by decide +kernel
theorem dL_law_290 : decode cL_law 290 = .ok (.iconst 3, 1) := by decide +kernel
theorem dL_law_291 : decode cL_law 291 = .ok (.iadd, 1) := by decide +kernel
theorem dL_law_292 : decode cL_law 292 = .ok (.iaload, 1) := by decide +kernel
theorem dL_law_293 : decode cL_law 293 = .ok (.aload_n 0, 1) := by decide +kernel
theorem dL_law_294 : decode cL_law 294 = .ok (.iload_n 3, 1) := by decide +kernel
theorem dL_law_295 : decode cL_law 295 = .ok (.iconst 4, 1) := by decide +kernel
theorem dL_law_296 : decode cL_law 296 = .ok (.iadd, 1) := by decide +kernel
theorem dL_law_297 : decode cL_law 297 = .ok (.iaload, 1) := by decide +kernel
theorem dL_law_298 : decode cL_law 298 = .ok (.invokevirtual 41, 3) := by decide +kernel
theorem dL_law_301 : decode cL_law 301 = .ok (.if_icmp .eq 234, 3) := by decide +kernel
theorem dL_law_304 : decode cL_law 304 = .ok (.iconst 0, 1) := by decide +kernel
theorem dL_law_305 : decode cL_law 305 = .ok (.ireturn, 1) := by decide +kernel
theorem dL_law_306 : decode cL_law 306 = .ok (.aload_n 1, 1) := by decide +kernel
theorem dL_law_307 : decode cL_law 307 = .ok (.invokevirtual 42, 3) := by decide +kernel
theorem dL_law_310 : decode cL_law 310 = .ok (.aload_n 2, 1) := by decide +kernel
theorem dL_law_311 : decode cL_law 311 = .ok (.invokevirtual 45, 3) := by decide +kernel
theorem dL_law_314 : decode cL_law 314 = .ok (.if_icmp .eq 221, 3) := by decide +kernel
theorem dL_law_317 : decode cL_law 317 = .ok (.iconst 0, 1) := by decide +kernel
theorem dL_law_318 : decode cL_law 318 = .ok (.ireturn, 1) := by decide +kernel
theorem dL_law_319 : decode cL_law 319 = .ok (.aload_n 1, 1) := by decide +kernel
theorem dL_law_320 : decode cL_law 320 = .ok (.aload_n 0, 1) := by decide +kernel
theorem dL_law_321 : decode cL_law 321 = .ok (.iload_n 3, 1) := by decide +kernel
theorem dL_law_322 : decode cL_law 322 = .ok (.iconst 1, 1) := by decide +kernel
theorem dL_law_323 : decode cL_law 323 = .ok (.iadd, 1) := by decide +kernel
theorem dL_law_324 : decode cL_law 324 = .ok (.iaload, 1) := by decide +kernel
theorem dL_law_325 : decode cL_law 325 = .ok (.aload_n 0, 1) := by decide +kernel
theorem dL_law_326 : decode cL_law 326 = .ok (.iload_n 3, 1) := by decide +kernel
theorem dL_law_327 : decode cL_law 327 = .ok (.iconst 2, 1) := by decide +kernel
theorem dL_law_328 : decode cL_law 328 = .ok (.iadd, 1) := by decide +kernel
theorem dL_law_329 : decode cL_law 329 = .ok (.iaload, 1) := by decide +kernel
theorem dL_law_330 : decode cL_law 330 = .ok (.invokevirtual 46, 3) := by decide +kernel
theorem dL_law_333 : decode cL_law 333 = .ok (.aload_n 2, 1) := by decide +kernel
theorem dL_law_334 : decode cL_law 334 = .ok (.aload_n 0, 1) := by decide +kernel
theorem dL_law_335 : decode cL_law 335 = .ok (.iload_n 3, 1) := by decide +kernel
theorem dL_law_336 : decode cL_law 336 = .ok (.iconst 1, 1) := by decide +kernel
theorem dL_law_337 : decode cL_law 337 = .ok (.iadd, 1) := by decide +kernel
theorem dL_law_338 : decode cL_law 338 = .ok (.iaload, 1) := by decide +kernel
theorem dL_law_339 : decode cL_law 339 = .ok (.aload_n 0, 1) := by decide +kernel
theorem dL_law_340 : decode cL_law 340 = .ok (.iload_n 3, 1) := by decide +kernel
theorem dL_law_341 : decode cL_law 341 = .ok (.iconst 2, 1) := by decide +kernel
theorem dL_law_342 : decode cL_law 342 = .ok (.iadd, 1) := by decide +kernel
theorem dL_law_343 : decode cL_law 343 = .ok (.iaload, 1) := by decide +kernel
theorem dL_law_344 : decode cL_law 344 = .ok (.invokevirtual 49, 3) := by decide +kernel
theorem dL_law_347 : decode cL_law 347 = .ok (.if_icmp .eq 188, 3) := by decide +kernel
theorem dL_law_350 : decode cL_law 350 = .ok (.iconst 0, 1) := by decide +kernel
theorem dL_law_351 : decode cL_law 351 = .ok (.ireturn, 1) := by decide +kernel
theorem dL_law_352 : decode cL_law 352 = .ok (.aload_n 1, 1) := by decide +kernel
theorem dL_law_353 : decode cL_law 353 = .ok (.aload_n 0, 1) := by decide +kernel
theorem dL_law_354 : decode cL_law 354 = .ok (.iload_n 3, 1) := by decide +kernel
theorem dL_law_355 : decode cL_law 355 = .ok (.iconst 1, 1) := by decide +kernel
theorem dL_law_356 : decode cL_law 356 = .ok (.iadd, 1) := by decide +kernel
theorem dL_law_357 : decode cL_law 357 = .ok (.iaload, 1) := by decide +kernel
theorem dL_law_358 : decode cL_law 358 = .ok (.invokevirtual 50, 3) := by decide +kernel
theorem dL_law_361 : decode cL_law 361 = .ok (.aload_n 2, 1) := by decide +kernel
theorem dL_law_362 : decode cL_law 362 = .ok (.aload_n 0, 1) := by decide +kernel
theorem dL_law_363 : decode cL_law 363 = .ok (.iload_n 3, 1) := by decide +kernel
theorem dL_law_364 : decode cL_law 364 = .ok (.iconst 1, 1) := by decide +kernel
theorem dL_law_365 : decode cL_law 365 = .ok (.iadd, 1) := by decide +kernel
theorem dL_law_366 : decode cL_law 366 = .ok (.iaload, 1) := by decide +kernel
theorem dL_law_367 : decode cL_law 367 = .ok (.invokevirtual 53, 3) := by decide +kernel
theorem dL_law_370 : decode cL_law 370 = .ok (.if_icmp .eq 165, 3) := by decide +kernel
theorem dL_law_373 : decode cL_law 373 = .ok (.iconst 0, 1) := by decide +kernel
theorem dL_law_374 : decode cL_law 374 = .ok (.ireturn, 1) := by decide +kernel
theorem dL_law_375 : decode cL_law 375 = .ok (.aload_n 1, 1) := by decide +kernel
theorem dL_law_376 : decode cL_law 376 = .ok (.invokevirtual 54, 3) := by decide +kernel
theorem dL_law_379 : decode cL_law 379 = .ok (.aload_n 2, 1) := by decide +kernel
theorem dL_law_380 : decode cL_law 380 = .ok (.invokevirtual 58, 3) := by decide +kernel
theorem dL_law_383 : decode cL_law 383 = .ok (.lcmp, 1) := by decide +kernel
theorem dL_law_384 : decode cL_law 384 = .ok (.ifCond .eq 151, 3) := by decide +kernel
theorem dL_law_387 : decode cL_law 387 = .ok (.iconst 0, 1) := by decide +kernel
theorem dL_law_388 : decode cL_law 388 = .ok (.ireturn, 1) := by decide +kernel
theorem dL_law_389 : decode cL_law 389 = .ok (.aload_n 1, 1) := by decide +kernel
theorem dL_law_390 : decode cL_law 390 = .ok (.aload_n 0, 1) := by decide +kernel
theorem dL_law_391 : decode cL_law 391 = .ok (.iload_n 3, 1) := by decide +kernel
theorem dL_law_392 : decode cL_law 392 = .ok (.iconst 1, 1) := by decide +kernel
theorem dL_law_393 : decode cL_law 393 = .ok (.iadd, 1) := by decide +kernel
theorem dL_law_394 : decode cL_law 394 = .ok (.iaload, 1) := by decide +kernel
theorem dL_law_395 : decode cL_law 395 = .ok (.aload_n 0, 1) := by decide +kernel
theorem dL_law_396 : decode cL_law 396 = .ok (.iload_n 3, 1) := by decide +kernel
theorem dL_law_397 : decode cL_law 397 = .ok (.iconst 2, 1) := by decide +kernel
theorem dL_law_398 : decode cL_law 398 = .ok (.iadd, 1) := by decide +kernel
theorem dL_law_399 : decode cL_law 399 = .ok (.iaload, 1) := by decide +kernel
theorem dL_law_400 : decode cL_law 400 = .ok (.invokevirtual 59, 3) := by decide +kernel
theorem dL_law_403 : decode cL_law 403 = .ok (.aload_n 2, 1) := by decide +kernel
theorem dL_law_404 : decode cL_law 404 = .ok (.aload_n 0, 1) := by decide +kernel
theorem dL_law_405 : decode cL_law 405 = .ok (.iload_n 3, 1) := by decide +kernel
theorem dL_law_406 : decode cL_law 406 = .ok (.iconst 1, 1) := by decide +kernel
theorem dL_law_407 : decode cL_law 407 = .ok (.iadd, 1) := by decide +kernel
theorem dL_law_408 : decode cL_law 408 = .ok (.iaload, 1) := by decide +kernel
theorem dL_law_409 : decode cL_law 409 = .ok (.aload_n 0, 1) := by decide +kernel
theorem dL_law_410 : decode cL_law 410 = .ok (.iload_n 3, 1) := by decide +kernel
theorem dL_law_411 : decode cL_law 411 = .ok (.iconst 2, 1) := by decide +kernel
theorem dL_law_412 : decode cL_law 412 = .ok (.iadd, 1) := by decide +kernel
theorem dL_law_413 : decode cL_law 413 = .ok (.iaload, 1) := by decide +kernel
theorem dL_law_414 : decode cL_law 414 = .ok (.invokevirtual 62, 3) := by decide +kernel
theorem dL_law_417 : decode cL_law 417 = .ok (.if_icmp .eq 118, 3) := by decide +kernel
theorem dL_law_420 : decode cL_law 420 = .ok (.iconst 0, 1) := by decide +kernel
theorem dL_law_421 : decode cL_law 421 = .ok (.ireturn, 1) := by decide +kernel
theorem dL_law_422 : decode cL_law 422 = .ok (.aload_n 1, 1) := by decide +kernel
theorem dL_law_423 : decode cL_law 423 = .ok (.aload_n 0, 1) := by decide +kernel
theorem dL_law_424 : decode cL_law 424 = .ok (.iload_n 3, 1) := by decide +kernel
theorem dL_law_425 : decode cL_law 425 = .ok (.iconst 1, 1) := by decide +kernel
theorem dL_law_426 : decode cL_law 426 = .ok (.iadd, 1) := by decide +kernel
theorem dL_law_427 : decode cL_law 427 = .ok (.iaload, 1) := by decide +kernel
theorem dL_law_428 : decode cL_law 428 = .ok (.aload_n 0, 1) := by decide +kernel
theorem dL_law_429 : decode cL_law 429 = .ok (.iload_n 3, 1) := by decide +kernel
theorem dL_law_430 : decode cL_law 430 = .ok (.iconst 2, 1) := by decide +kernel
theorem dL_law_431 : decode cL_law 431 = .ok (.iadd, 1) := by decide +kernel
theorem dL_law_432 : decode cL_law 432 = .ok (.iaload, 1) := by decide +kernel
theorem dL_law_433 : decode cL_law 433 = .ok (.invokevirtual 63, 3) := by decide +kernel
theorem dL_law_436 : decode cL_law 436 = .ok (.aload_n 2, 1) := by decide +kernel
theorem dL_law_437 : decode cL_law 437 = .ok (.aload_n 0, 1) := by decide +kernel
theorem dL_law_438 : decode cL_law 438 = .ok (.iload_n 3, 1) := by decide +kernel
theorem dL_law_439 : decode cL_law 439 = .ok (.iconst 1, 1) := by decide +kernel
theorem dL_law_440 : decode cL_law 440 = .ok (.iadd, 1) := by decide +kernel
theorem dL_law_441 : decode cL_law 441 = .ok (.iaload, 1) := by decide +kernel
theorem dL_law_442 : decode cL_law 442 = .ok (.aload_n 0, 1) := by decide +kernel
theorem dL_law_443 : decode cL_law 443 = .ok (.iload_n 3, 1) := by decide +kernel
theorem dL_law_444 : decode cL_law 444 = .ok (.iconst 2, 1) := by decide +kernel
theorem dL_law_445 : decode cL_law 445 = .ok (.iadd, 1) := by decide +kernel
theorem dL_law_446 : decode cL_law 446 = .ok (.iaload, 1) := by decide +kernel
theorem dL_law_447 : decode cL_law 447 = .ok (.invokevirtual 67, 3) := by decide +kernel
theorem dL_law_450 : decode cL_law 450 = .ok (.lcmp, 1) := by decide +kernel
theorem dL_law_451 : decode cL_law 451 = .ok (.ifCond .eq 84, 3) := by decide +kernel
theorem dL_law_454 : decode cL_law 454 = .ok (.iconst 0, 1) := by decide +kernel
theorem dL_law_455 : decode cL_law 455 = .ok (.ireturn, 1) := by decide +kernel
theorem dL_law_456 : decode cL_law 456 = .ok (.aload_n 1, 1) := by decide +kernel
theorem dL_law_457 : decode cL_law 457 = .ok (.aload_n 0, 1) := by decide +kernel
theorem dL_law_458 : decode cL_law 458 = .ok (.iload_n 3, 1) := by decide +kernel
theorem dL_law_459 : decode cL_law 459 = .ok (.iconst 1, 1) := by decide +kernel
theorem dL_law_460 : decode cL_law 460 = .ok (.iadd, 1) := by decide +kernel
theorem dL_law_461 : decode cL_law 461 = .ok (.iaload, 1) := by decide +kernel
theorem dL_law_462 : decode cL_law 462 = .ok (.invokevirtual 68, 3) := by decide +kernel
theorem dL_law_465 : decode cL_law 465 = .ok (.aload_n 2, 1) := by decide +kernel
theorem dL_law_466 : decode cL_law 466 = .ok (.aload_n 0, 1) := by decide +kernel
theorem dL_law_467 : decode cL_law 467 = .ok (.iload_n 3, 1) := by decide +kernel
theorem dL_law_468 : decode cL_law 468 = .ok (.iconst 1, 1) := by decide +kernel
theorem dL_law_469 : decode cL_law 469 = .ok (.iadd, 1) := by decide +kernel
theorem dL_law_470 : decode cL_law 470 = .ok (.iaload, 1) := by decide +kernel
theorem dL_law_471 : decode cL_law 471 = .ok (.invokevirtual 71, 3) := by decide +kernel
theorem dL_law_474 : decode cL_law 474 = .ok (.if_icmp .eq 61, 3) := by decide +kernel
theorem dL_law_477 : decode cL_law 477 = .ok (.iconst 0, 1) := by decide +kernel
theorem dL_law_478 : decode cL_law 478 = .ok (.ireturn, 1) := by decide +kernel
theorem dL_law_479 : decode cL_law 479 = .ok (.aload_n 1, 1) := by decide +kernel
theorem dL_law_480 : decode cL_law 480 = .ok (.aload_n 0, 1) := by decide +kernel
theorem dL_law_481 : decode cL_law 481 = .ok (.iload_n 3, 1) := by decide +kernel
theorem dL_law_482 : decode cL_law 482 = .ok (.iconst 1, 1) := by decide +kernel
theorem dL_law_483 : decode cL_law 483 = .ok (.iadd, 1) := by decide +kernel
theorem dL_law_484 : decode cL_law 484 = .ok (.iaload, 1) := by decide +kernel
theorem dL_law_485 : decode cL_law 485 = .ok (.aload_n 0, 1) := by decide +kernel
theorem dL_law_486 : decode cL_law 486 = .ok (.iload_n 3, 1) := by decide +kernel
theorem dL_law_487 : decode cL_law 487 = .ok (.iconst 2, 1) := by decide +kernel
theorem dL_law_488 : decode cL_law 488 = .ok (.iadd, 1) := by decide +kernel
theorem dL_law_489 : decode cL_law 489 = .ok (.iaload, 1) := by decide +kernel
theorem dL_law_490 : decode cL_law 490 = .ok (.invokevirtual 72, 3) := by decide +kernel
theorem dL_law_493 : decode cL_law 493 = .ok (.aload_n 2, 1) := by decide +kernel
theorem dL_law_494 : decode cL_law 494 = .ok (.aload_n 0, 1) := by decide +kernel
theorem dL_law_495 : decode cL_law 495 = .ok (.iload_n 3, 1) := by decide +kernel
theorem dL_law_496 : decode cL_law 496 = .ok (.iconst 1, 1) := by decide +kernel
theorem dL_law_497 : decode cL_law 497 = .ok (.iadd, 1) := by decide +kernel
theorem dL_law_498 : decode cL_law 498 = .ok (.iaload, 1) := by decide +kernel
theorem dL_law_499 : decode cL_law 499 = .ok (.aload_n 0, 1) := by decide +kernel
theorem dL_law_500 : decode cL_law 500 = .ok (.iload_n 3, 1) := by decide +kernel
theorem dL_law_501 : decode cL_law 501 = .ok (.iconst 2, 1) := by decide +kernel
theorem dL_law_502 : decode cL_law 502 = .ok (.iadd, 1) := by decide +kernel
theorem dL_law_503 : decode cL_law 503 = .ok (.iaload, 1) := by decide +kernel
theorem dL_law_504 : decode cL_law 504 = .ok (.invokevirtual 75, 3) := by decide +kernel
theorem dL_law_507 : decode cL_law 507 = .ok (.if_icmp .eq 28, 3) := by decide +kernel
theorem dL_law_510 : decode cL_law 510 = .ok (.iconst 0, 1) := by decide +kernel
theorem dL_law_511 : decode cL_law 511 = .ok (.ireturn, 1) := by decide +kernel
theorem dL_law_512 : decode cL_law 512 = .ok (.aload_n 1, 1) := by decide +kernel
theorem dL_law_513 : decode cL_law 513 = .ok (.aload_n 0, 1) := by decide +kernel
theorem dL_law_514 : decode cL_law 514 = .ok (.iload_n 3, 1) := by decide +kernel
theorem dL_law_515 : decode cL_law 515 = .ok (.iconst 1, 1) := by decide +kernel
theorem dL_law_516 : decode cL_law 516 = .ok (.iadd, 1) := by decide +kernel
theorem dL_law_517 : decode cL_law 517 = .ok (.iaload, 1) := by decide +kernel
theorem dL_law_518 : decode cL_law 518 = .ok (.invokevirtual 76, 3) := by decide +kernel
theorem dL_law_521 : decode cL_law 521 = .ok (.aload_n 2, 1) := by decide +kernel
theorem dL_law_522 : decode cL_law 522 = .ok (.aload_n 0, 1) := by decide +kernel
theorem dL_law_523 : decode cL_law 523 = .ok (.iload_n 3, 1) := by decide +kernel
theorem dL_law_524 : decode cL_law 524 = .ok (.iconst 1, 1) := by decide +kernel
theorem dL_law_525 : decode cL_law 525 = .ok (.iadd, 1) := by decide +kernel
theorem dL_law_526 : decode cL_law 526 = .ok (.iaload, 1) := by decide +kernel
theorem dL_law_527 : decode cL_law 527 = .ok (.invokevirtual 79, 3) := by decide +kernel
theorem dL_law_530 : decode cL_law 530 = .ok (.if_icmp .eq 5, 3) := by decide +kernel
theorem dL_law_533 : decode cL_law 533 = .ok (.iconst 0, 1) := by decide +kernel
theorem dL_law_534 : decode cL_law 534 = .ok (.ireturn, 1) := by decide +kernel
theorem dL_law_535 : decode cL_law 535 = .ok (.iinc 3 5, 3) := by decide +kernel
theorem dL_law_538 : decode cL_law 538 = .ok (.goto (-520), 3) := by decide +kernel
theorem dL_law_541 : decode cL_law 541 = .ok (.iconst 1, 1) := by decide +kernel
theorem dL_law_542 : decode cL_law 542 = .ok (.ireturn, 1) := by decide +kernel
end
section
/-! THE LAYER: the world is a map from addresses to cells; a contract is said over such a map. -/
abbrev zm_M : Type := Nat → Option va_E
/-- D, the ids of the array classes (0 int[], 1 long[], 2 Cue[], 3 Prop[]), the addresses of the tables (0 GOES_AS, 1 ACT_VIEWS, 2 PART_VIEWS) -/
abbrev zm_G : Type := va_G × (Nat → ClassId) × (Nat → Nat)
abbrev zm_tys (G : zm_G) : List (ClassId × FieldType) := [(G.2.1 0, .int), (G.2.1 1, .long), (G.2.1 2, .object "PropStore$Cue"), (G.2.1 3, .object "PropStore$Prop")]
abbrev zm_I (G : zm_G) (n : Nat) (f : Nat → Int32) : va_E := .inl (G.2.1 0, n, .inl f)
abbrev zm_J (G : zm_G) (n : Nat) (f : Nat → Int64) : va_E := .inl (G.2.1 1, n, .inr (.inl f))
abbrev zm_C (G : zm_G) (n : Nat) (f : Nat → Option Nat) : va_E := .inl (G.2.1 2, n, .inr (.inr (.inr (.inr f))))
abbrev zm_R (G : zm_G) (n : Nat) (f : Nat → Option Nat) : va_E := .inl (G.2.1 3, n, .inr (.inr (.inr (.inr f))))
def zm_P (G : zm_G) (A : Nat → Prop) (M : zm_M) (H : Heap) : Prop := ∀ (a : Nat) (e : va_E), M a = some e → A a ∧ va_at G.1 vwCl (a, e) H
def zm_up (M : zm_M) (a : Nat) (e : va_E) : zm_M := fun q => if q = a then some e else M q
theorem zm_up_s {M : zm_M} {a : Nat} {e : va_E} : zm_up M a e a = some e := by simp [zm_up]
theorem zm_up_n {M : zm_M} {a q : Nat} {e : va_E} (h : q ≠ a) : zm_up M a e q = M q := by simp [zm_up, h]
theorem zm_up_k {M : zm_M} {a q : Nat} {e x : va_E} (h : q ≠ a) (hq : M q = some x) : zm_up M a e q = some x := by rw [zm_up_n h]; exact hq
theorem zm_ne {M : zm_M} {a b : Nat} {x y : va_E} (h1 : M a = some x) (h2 : M b = some y) (h : x ≠ y) : a ≠ b := fun q => h (by subst q; exact Option.some.inj (h1.symm.trans h2))
theorem zm_neN {M : zm_M} {a b : Nat} {x : va_E} (h1 : M a = some x) (h2 : M b = none) : a ≠ b := fun q => by subst q; rw [h1] at h2; cases h2
theorem zm_P.one {G : zm_G} {A : Nat → Prop} {M : zm_M} {H : Heap} (h : zm_P G A M H) {a : Nat} {e : va_E} (he : M a = some e) : va_P G.1 vwCl [(a, e)] H := by
  intro k q hk
  match k, hk with
  | 0, hk => cases hk; exact (h a e he).2
  | k + 1, hk => simp at hk
theorem zm_P.two {G : zm_G} {A : Nat → Prop} {M : zm_M} {H : Heap} (h : zm_P G A M H) {a b : Nat} {e x : va_E} (he : M a = some e) (hx : M b = some x) : va_P G.1 vwCl [(a, e), (b, x)] H := by
  intro k q hk
  match k, hk with
  | 0, hk => cases hk; exact (h a e he).2
  | 1, hk => cases hk; exact (h b x hx).2
  | k + 2, hk => simp at hk
theorem zm_P.lt {G : zm_G} {A : Nat → Prop} {M : zm_M} {H : Heap} (h : zm_P G A M H) {a : Nat} {e : va_E} (he : M a = some e) : a < H.size := (h a e he).2.lt
theorem zm_P.fresh {G : zm_G} {A : Nat → Prop} {M : zm_M} {H : Heap} (h : zm_P G A M H) : M H.size = none := by
  cases hq : M H.size with
  | none => rfl
  | some e => exact absurd (h.lt hq) (Nat.lt_irrefl _)
theorem zm_P.up {G : zm_G} {A : Nat → Prop} {M : zm_M} {H H1 : Heap} (h : zm_P G A M H) {a : Nat} {e : va_E} (ha : A a) (he : va_at G.1 vwCl (a, e) H1) (oq : ∀ q : Nat, q ≠ a → q < H.size → H1[q]? = H[q]?) : zm_P G A (zm_up M a e) H1 := by
  intro b x hb
  by_cases hq : b = a
  · subst hq
    rw [zm_up_s] at hb
    cases hb
    exact ⟨ha, he⟩
  · rw [zm_up_n hq] at hb
    obtain ⟨h1, h2⟩ := h b x hb
    exact ⟨h1, h2.kept (oq b hq (h.lt hb))⟩
/-- the tables' numbers -/
def zm_tn (k : Nat) : String := match k with
  | 0 => "GOES_AS"
  | 1 => "ACT_VIEWS"
  | _ => "PART_VIEWS"
def zm_tl (k : Nat) : List Int32 := match k with
  | 0 => [1, 2, 4, 8, 16, 48, 65616, 65664, 256, 768, 3328, 2048, 6144, 8192, 57344, 32768]
  | 1 => [131071, 26480, 65280, 65280, 131071, 131071]
  | _ => [4, 5, 6, 16, 7, 8, 10, 11]
def zm_tv (k j : Nat) : Int32 := (zm_tl k).getD j 0
def zm_nws : List Cond := [.castable "PropStore$Numbers" "PropStore$Numbers", .castable "PropStore$Row" "PropStore$Row", .castable "PropStore$Piece" "PropStore$Piece", .castable "PropStore$Numbers" "PropStore$Prop", .castable "PropStore$Piece" "PropStore$Prop", .castable "PropStore$Row" "PropStore$Prop", .declares ⟨"PropStore$Prop", "worthBy", "(I)J"⟩, .declares ⟨"PropStore$Prop", "putOn", "(I)V"⟩, .methodLinkNest "PropStore$Row" 13 ⟨"PropStore", "isRow", "(I)Z"⟩ "PropStore", .methodLinkNest "PropStore$Row" 19 ⟨"PropStore", "partView", "(I)I"⟩ "PropStore"]
def zm_ncs : List (String × String) := [("PropStore$Piece", "PropStore$Numbers"), ("PropStore$Row", "PropStore$Numbers"), ("PropStore$Piece", "PropStore$Row"), ("PropStore$Numbers", "PropStore$Row"), ("PropStore$Row", "PropStore$Piece"), ("PropStore$Numbers", "PropStore$Piece")]
/-- what the start gives for good: the classes, the words that are no table's rows, the tables -/
def zm_E (G : zm_G) (A : Nat → Prop) (U : State) (H : Heap) : Prop := va_K G.1 vwCl (zm_tys G) U ∧ (∀ w ∈ zm_nws, va_Nw w U) ∧ (∀ q ∈ zm_ncs, va_Nc q.1 q.2 U) ∧ (va_AO "PropStore$Cue" U ∧ va_AO "PropStore$Prop" U) ∧ ∀ k, k < 3 → va_Z "PropStore" (zm_tn k) "[I" (.ref (G.2.2 k)) A U H ∧ va_T .int (G.2.2 k) (zm_tl k).length (fun j => .int (zm_tv k j)) A U H
theorem zm_nw_warm {s U : State} (hW : s.WarmedH U.vm) : ∀ w ∈ zm_nws, va_Nw w s → va_Nw w U := by
  intro w hw h
  simp only [zm_nws, List.mem_cons, List.not_mem_nil, or_false] at hw
  rcases hw with rfl | rfl | rfl | rfl | rfl | rfl | rfl | rfl | rfl | rfl
  · exact va_Nw.warmC hW h
  · exact va_Nw.warmC hW h
  · exact va_Nw.warmC hW h
  · exact va_Nw.warmC hW h
  · exact va_Nw.warmC hW h
  · exact va_Nw.warmC hW h
  · exact va_Nw.warmD hW h
  · exact va_Nw.warmD hW h
  · exact va_Nw.warmM hW h
  · exact va_Nw.warmM hW h
theorem zm_nw_tabs : ∀ w ∈ zm_nws, w.onTables = true := by
  intro w hw
  simp only [zm_nws, List.mem_cons, List.not_mem_nil, or_false] at hw
  rcases hw with rfl | rfl | rfl | rfl | rfl | rfl | rfl | rfl | rfl | rfl <;> rfl
theorem zm_E.warm {G : zm_G} {A : Nat → Prop} {s U : State} {H0 H : Heap} {locs : List Loc} (h : zm_E G A s H0) (hW : s.WarmedH U.vm) (hS : va_S A H0 H locs) : zm_E G A U H := by
  obtain ⟨h1, h2, h3, ⟨h4, h5⟩, h6⟩ := h
  refine ⟨va_K.moved hW.alike h1, fun w hw => zm_nw_warm hW w hw (h2 w hw), fun q hq => (h3 q hq).moved hW.alike, ⟨h4.moved hW.alike, h5.moved hW.alike⟩, fun k hk => ?_⟩
  obtain ⟨g1, g2⟩ := h6 k hk
  exact ⟨(g1.moved hW.alike).kept hS.2.1, (g2.moved hW.alike).kept hS.2.1⟩
theorem zm_E.same {G : zm_G} {A : Nat → Prop} {u U : State} {H : Heap} (h : zm_E G A u H) (hv : u.vm = U.vm) : zm_E G A U H := by
  obtain ⟨h1, h2, h3, ⟨h4, h5⟩, h6⟩ := h
  have ha : u.vm.Alike U.vm := by rw [hv]; exact Vm.Alike.refl _
  refine ⟨va_K.moved ha h1, fun w hw => va_Nw.same (zm_nw_tabs w hw) hv (h2 w hw), fun q hq => (h3 q hq).moved ha, ⟨h4.moved ha, h5.moved ha⟩, fun k hk => ?_⟩
  obtain ⟨g1, g2⟩ := h6 k hk
  exact ⟨g1.moved ha, g2.moved ha⟩
/-- a contract's start and end -/
def zm_Pc (G : zm_G) (av : List Value) (A : Nat → Prop) (M : zm_M) : Array Value → State → Prop := fun v U => v = av.toArray ∧ zm_P G A M U.heap ∧ (∀ q : Nat, U.heap.size ≤ q → A q) ∧ zm_E G A U U.heap
def zm_Q (G : zm_G) (post : Option Value → zm_M → Prop) (A : Nat → Prop) : Array Value → State → Outcome → State → Prop := fun _ st oc t => (∃ (r : Option Value) (M' : zm_M), oc = .returned r ∧ post r M' ∧ zm_P G A M' t.heap) ∧ va_F A st t
/-- a method's words: its code, and all the law's -/
def zm_W (y : MethodName) (b : ByteArray) (n : Nat) (r : Option FieldType) : List Cond := .code y b n r :: wsL_law
abbrev zm_rm (k mc ms : Nat) : Room := { frames := k, cells := mc, slots := ms, locals := 40 * k }
set_option maxRecDepth 20000 in
theorem zm_good : wsL_law.all goodWord = true := by decide +kernel
theorem zm_GI {y : MethodName} {b : ByteArray} {n : Nat} {r : Option FieldType} (h : Cond.code y b n r ∈ wsL_law) : GoodIn wsL_law (zm_W y b n r) := fun w hw => by
  have hm : w ∈ wsL_law := by
    rcases List.mem_cons.mp hw with rfl | hw
    · exact h
    · exact hw
  exact ⟨hm, good_of_word (List.all_eq_true.mp zm_good w hm)⟩
theorem zm_start {l : Launch} {G : zm_G} {A : Nat → Prop} {M : zm_M} {post : Option Value → zm_M → Prop} {y : MethodName} {cc : ByteArray} {maxL : Nat} {ret : Option FieldType} {rm : Room} {mc ms : Nat} {av : List Value} (hy : plainName y.cls = true) (hav : (lg_sl av).length ≤ maxL)
    (body : ∀ (p : Program) (e : Env) (s : State) (m : MethodId) (below : List Frame) (meth : Method) (c : Code), p.tables.exec = Jvm.exec → c.code = cc → c.maxLocals = maxL → meth.sig.returnType = ret → (∀ w ∈ wsL_law, w.before av.toArray s = true) → s.vm.findClass y.cls = some m.cls → meth.locks = false → meth.name = y.name → zm_E G A s s.heap → (∀ q : Nat, s.heap.size ≤ q → A q) →
      ∀ ls : Array Slot, lv_has ls maxL (lv_args 0 av) → zm_P G A M s.heap → va_S A s.heap s.heap [] → W p l e rm s m av.toArray below meth c s.heap [] 0 0 (MQ below (zm_Q G post A) av.toArray s mc ms A) (F0 m 0 ls [])) :
    Met l y (zm_W y cc maxL ret) rm (zm_Pc G av A M) (zm_Q G post A) mc ms A := by
  refine Met.ofW (cc := cc) (maxL := maxL) (ret := ret) hy rfl ?_
  intro p e s m args below meth c s₁ B hml hv
  obtain ⟨rfl, hM, hA, hE⟩ := hv
  have hts := atoms_spec (ws := zm_W y cc maxL ret) B.pre
  have hl := lv_entry av (n := maxL) hav
  rw [lg_entry_eq]
  generalize (lg_sl av ++ List.replicate (maxL - (lg_sl av).length) Slot.unset).toArray = ls at hl ⊢
  exact body p e s m below meth c B.exec B.bytes hml B.returns (fun w h => hts w (List.mem_cons_of_mem _ h)) (findClass_of_methodNamed B.named) B.notSynchronized (name_of_methodNamed B.named B.method).1 hE hA ls hl hM va_S.rf
/-- fields: from class own by the pool's entry idx, the field k of class ci -/
def zm_fl (own : String) (idx ci k : Nat) : Prop := ∃ (C : String) (T : u_T) (N : Nat) (ref : String), vwCl[ci]? = some (C, T, N) ∧ (∀ w ∈ u_ws C T N, w ∈ wsL_law) ∧ k < N ∧ Cond.fieldLink own idx ref (T k).2.1 (T k).2.2.1 ∈ wsL_law ∧ (ref = (T k).1 ∨ Cond.sameField ref (T k).1 (T k).2.1 (T k).2.2.1 ∈ wsL_law)
def zm_fp (own : String) (idx ci k : Nat) (ty : FieldType) (fin : Bool) : Prop := ∃ (C : String) (T : u_T) (N : Nat) (ty0 : Nat → FieldType), vwCl[ci]? = some (C, T, N) ∧ (∀ w ∈ u_ws C T N, w ∈ wsL_law) ∧ (∀ k, k < N → parseFieldDescriptor (T k).2.2.1 = some (ty0 k)) ∧ (∀ a, a < N → ∀ b, b < N → a ≠ b → (T a).2.1 ≠ (T b).2.1) ∧ k < N ∧ Cond.fieldLink own idx (T k).1 (T k).2.1 (T k).2.2.1 ∈ wsL_law ∧ (T k).2.2.2 = fin ∧ (fin = true → (T k).1 = own) ∧ parseFieldDescriptor (T k).2.2.1 = some ty
/-- calls: static; of one's own kind; constructors -/
def zm_cd (y : MethodName) (b : ByteArray) (n : Nat) (r : Option FieldType) (np : Nat) : Prop := Cond.code y b n r ∈ wsL_law ∧ Cond.initialized y.cls ∈ wsL_law ∧ (y.cls ≠ "java/lang/invoke/MethodHandle" ∧ y.cls ≠ "java/lang/invoke/VarHandle" ∧ (parseMethodDescriptor y.desc).map (fun d => d.parameters.length) = some np)
end
section
/-! rows over the map -/
section ZROWS
variable {p : Program} {l : Launch} {e : Env} {R : Room} {s : State} {m : MethodId} {args : Array Value} {below : List Frame} {meth : Method} {c : Code} {H : Heap} {locs : List Loc} {cells slots : Nat} {Q : State → Prop}
variable {cc : ByteArray} {pc : Nat} {ls : Array Slot} {rest : List Value} {G : zm_G} {A : Nat → Prop} {M : zm_M} {a : Nat} {own : String}
/-- another name for what lies on top -/
theorem zt_eq {v v' : Value} (h : v = v') (k : W p l e R s m args below meth c H locs cells slots Q (F0 m pc ls (v' :: rest))) : W p l e R s m args below meth c H locs cells slots Q (F0 m pc ls (v :: rest)) := by subst h; exact k
theorem zm_get (hx : p.tables.exec = Jvm.exec) (hb : c.code = cc) (hts : ∀ w ∈ wsL_law, w.before args s = true) (hown : s.vm.findClass own = some m.cls) (hE : zm_E G A s s.heap) (hM : zm_P G A M H) {ci k idx : Nat} {fs : List Value} (he : M a = some (.inr (ci, fs))) (hf : zm_fl own idx ci k) {v : Value} (hv : fs[k]? = some v) (hdg : decode cc pc = .ok (.getfield idx, 3))
    (kk : W p l e R s m args below meth c H locs cells slots Q (F0 m (pc + 3) ls (v :: rest))) : W p l e R s m args below meth c H locs cells slots Q (F0 m pc ls (.ref a :: rest)) := by
  obtain ⟨C, T, N, ref, h1, h2, h3, h4, h5⟩ := hf
  refine va_get (D := G.1) (ws := [(a, .inr (ci, fs))]) hx hb hts h2 hown hE.1 (hM.one he) 0 rfl h1 k h3 (hts _ h4) (fun x hx => ?_) hv hdg kk
  rcases h5 with h5 | h5
  · rw [h5]; exact hx
  · exact u_same (hts _ h5) x hx
theorem zm_put (hx : p.tables.exec = Jvm.exec) (hb : c.code = cc) (hts : ∀ w ∈ wsL_law, w.before args s = true) (hown : s.vm.findClass own = some m.cls) (hE : zm_E G A s s.heap) (hM : zm_P G A M H) (hS : va_S A s.heap H locs) {ci k idx : Nat} {fs : List Value} (he : M a = some (.inr (ci, fs))) {ty : FieldType} (hf : zm_fp own idx ci k ty false) {v : Value} (hn : narrow ty v = v) (hfit : fits ty v = true) (hl : k < fs.length) (hdg : decode cc pc = .ok (.putfield idx, 3))
    (kk : ∀ (H1 : Heap) (locs1 : List Loc), zm_P G A (zm_up M a (.inr (ci, fs.set k v))) H1 → va_S A s.heap H1 locs1 → W p l e R s m args below meth c H1 locs1 cells slots Q (F0 m (pc + 3) ls rest)) : W p l e R s m args below meth c H locs cells slots Q (F0 m pc ls (v :: .ref a :: rest)) := by
  obtain ⟨C, T, N, ty0, hc, hin, hty, hnm, hk, hlink, hfin, -, hd⟩ := hf
  have hap := va_apart (own := own) hts hin ty0 hty hnm hE.1 hc
  obtain ⟨hAa, r, h1, cell, q1, q2, q3, q4⟩ := hM a _ he
  have hr : r = (C, T, N) := Option.some.inj (h1.symm.trans hc)
  subst hr
  obtain ⟨hSl, hfc, kC, hkC, hkind⟩ := hE.1.1 ci _ hc
  obtain ⟨cf, kf, fi, f, hi, hsl⟩ := hSl k hk
  have hlay := hts _ (hin _ (u_in_lay hk))
  unfold u_lay at hlay
  rw [if_neg (by rw [hfin]; decide)] at hlay
  have hst := (u_facts hfc hkC (u_lays hts hin hk) hi).1
  have h6 := u_store hfc hkC hkind hlay hi hd hn hfit
  refine W.putK hx hb (f := f) ⟨hown, hts _ hlink, ⟨_, _, _, hi⟩, hst⟩ (by rw [q2]; exact h6) q1 q3 (by rw [hsl]; exact k2_hasslot (q4 k hk)) rfl rfl hdg fun H' e1 e2 e3 => ?_
  rw [hsl] at e1 ⊢
  exact kk H' _ (hM.up hAa ⟨_, hc, t_OB.to (V := updV (vp_V fs) k v) ⟨_, e1, q2, q3, t_set q4 hap hk v⟩ (fun j _ => vp_updV_set hl v j)⟩ (fun q h _ => e3 q h)) (hS.put e2 e3 hAa)
theorem zm_putF (hx : p.tables.exec = Jvm.exec) (hb : c.code = cc) (hts : ∀ w ∈ wsL_law, w.before args s = true) (hown : s.vm.findClass own = some m.cls) (hname : meth.name = "<init>") (hE : zm_E G A s s.heap) (hM : zm_P G A M H) (hS : va_S A s.heap H locs) {ci k idx : Nat} {fs : List Value} (he : M a = some (.inr (ci, fs))) {ty : FieldType} (hf : zm_fp own idx ci k ty true) {v : Value} (hn : narrow ty v = v) (hfit : fits ty v = true) (hl : k < fs.length) (hdg : decode cc pc = .ok (.putfield idx, 3))
    (kk : ∀ (H1 : Heap) (locs1 : List Loc), zm_P G A (zm_up M a (.inr (ci, fs.set k v))) H1 → va_S A s.heap H1 locs1 → W p l e R s m args below meth c H1 locs1 cells slots Q (F0 m (pc + 3) ls rest)) : W p l e R s m args below meth c H locs cells slots Q (F0 m pc ls (v :: .ref a :: rest)) := by
  obtain ⟨C, T, N, ty0, hc, hin, hty, hnm, hk, hlink, hfin, hdecl, hd⟩ := hf
  have hdecl := hdecl rfl
  have hap := va_apart (own := own) hts hin ty0 hty hnm hE.1 hc
  obtain ⟨hAa, r, h1, cell, q1, q2, q3, q4⟩ := hM a _ he
  have hr : r = (C, T, N) := Option.some.inj (h1.symm.trans hc)
  subst hr
  obtain ⟨hSl, hfc, kC, hkC, hkind⟩ := hE.1.1 ci _ hc
  obtain ⟨cf, kf, fi, f, hi, hsl⟩ := hSl k hk
  have hlay := hts _ (hin _ (u_in_lay hk))
  unfold u_lay at hlay
  rw [if_pos hfin] at hlay
  have hst := (u_facts hfc hkC (u_lays hts hin hk) hi).1
  have hcf : m.cls = cf := by
    obtain ⟨_, _, c', _, _, _, -, -, hf', -, -, -, hown2, -⟩ := Cond.laysFinal_spec hlay
    have e1 : c' = cf := by have := hi.symm.trans hf'; simp at this; exact this.1.symm
    rw [hdecl] at hown2
    rw [← e1]; exact Option.some.inj (hown.symm.trans hown2)
  have h6 := u_fits hfc hkC hkind (Or.inr hlay) hi hd hn hfit
  refine W.putFinK hx hb hown (hts _ hlink) hi hst hcf hname (by rw [q2]; exact h6) q1 q3 (by rw [hsl]; exact k2_hasslot (q4 k hk)) rfl rfl hdg fun H' e1 e2 e3 => ?_
  rw [hsl] at e1 ⊢
  exact kk H' _ (hM.up hAa ⟨_, hc, t_OB.to (V := updV (vp_V fs) k v) ⟨_, e1, q2, q3, t_set q4 hap hk v⟩ (fun j _ => vp_updV_set hl v j)⟩ (fun q h _ => e3 q h)) (hS.put e2 e3 hAa)
theorem zm_iald (hx : p.tables.exec = Jvm.exec) (hb : c.code = cc) (hE : zm_E G A s s.heap) (hM : zm_P G A M H) {n : Nat} {f : Nat → Int32} (he : M a = some (zm_I G n f)) {i : Int32} (hin : vp_in i n) (hdg : decode cc pc = .ok (.iaload, 1))
    (kk : W p l e R s m args below meth c H locs cells slots Q (F0 m (pc + 1) ls (.int (f i.toNatClampNeg) :: rest))) : W p l e R s m args below meth c H locs cells slots Q (F0 m pc ls (.int i :: .ref a :: rest)) :=
  va_iald (D := G.1) hx hb hE.1 (hM.one he) 0 0 rfl rfl hin hdg kk
theorem zm_lald (hx : p.tables.exec = Jvm.exec) (hb : c.code = cc) (hE : zm_E G A s s.heap) (hM : zm_P G A M H) {n : Nat} {f : Nat → Int64} (he : M a = some (zm_J G n f)) {i : Int32} (hin : vp_in i n) (hdg : decode cc pc = .ok (.laload, 1))
    (kk : W p l e R s m args below meth c H locs cells slots Q (F0 m (pc + 1) ls (.long (f i.toNatClampNeg) :: rest))) : W p l e R s m args below meth c H locs cells slots Q (F0 m pc ls (.int i :: .ref a :: rest)) :=
  va_lald (D := G.1) hx hb hE.1 (hM.one he) 0 1 rfl rfl hin hdg kk
theorem zm_aldC (hx : p.tables.exec = Jvm.exec) (hb : c.code = cc) (hE : zm_E G A s s.heap) (hM : zm_P G A M H) {n : Nat} {f : Nat → Option Nat} (he : M a = some (zm_C G n f)) {i : Int32} (hin : vp_in i n) (hdg : decode cc pc = .ok (.aaload, 1))
    (kk : W p l e R s m args below meth c H locs cells slots Q (F0 m (pc + 1) ls (va_rf (f i.toNatClampNeg) :: rest))) : W p l e R s m args below meth c H locs cells slots Q (F0 m pc ls (.int i :: .ref a :: rest)) :=
  va_aldq (D := G.1) hx hb hE.1 (hM.one he) 0 2 rfl rfl hin hdg kk
theorem zm_aldR (hx : p.tables.exec = Jvm.exec) (hb : c.code = cc) (hE : zm_E G A s s.heap) (hM : zm_P G A M H) {n : Nat} {f : Nat → Option Nat} (he : M a = some (zm_R G n f)) {i : Int32} (hin : vp_in i n) (hdg : decode cc pc = .ok (.aaload, 1))
    (kk : W p l e R s m args below meth c H locs cells slots Q (F0 m (pc + 1) ls (va_rf (f i.toNatClampNeg) :: rest))) : W p l e R s m args below meth c H locs cells slots Q (F0 m pc ls (.int i :: .ref a :: rest)) :=
  va_aldq (D := G.1) hx hb hE.1 (hM.one he) 0 3 rfl rfl hin hdg kk
theorem zm_alenJ (hx : p.tables.exec = Jvm.exec) (hb : c.code = cc) (hE : zm_E G A s s.heap) (hM : zm_P G A M H) {n : Nat} {f : Nat → Int64} (he : M a = some (zm_J G n f)) (hdg : decode cc pc = .ok (.arraylength, 1))
    (kk : W p l e R s m args below meth c H locs cells slots Q (F0 m (pc + 1) ls (.int (nI n) :: rest))) : W p l e R s m args below meth c H locs cells slots Q (F0 m pc ls (.ref a :: rest)) :=
  va_alen (D := G.1) hx hb hE.1 (hM.one he) 0 1 rfl rfl rfl hdg kk
theorem zm_alenR (hx : p.tables.exec = Jvm.exec) (hb : c.code = cc) (hE : zm_E G A s s.heap) (hM : zm_P G A M H) {n : Nat} {f : Nat → Option Nat} (he : M a = some (zm_R G n f)) (hdg : decode cc pc = .ok (.arraylength, 1))
    (kk : W p l e R s m args below meth c H locs cells slots Q (F0 m (pc + 1) ls (.int (nI n) :: rest))) : W p l e R s m args below meth c H locs cells slots Q (F0 m pc ls (.ref a :: rest)) :=
  va_alen (D := G.1) hx hb hE.1 (hM.one he) 0 3 rfl rfl rfl hdg kk
theorem zm_iast (hx : p.tables.exec = Jvm.exec) (hb : c.code = cc) (hE : zm_E G A s s.heap) (hM : zm_P G A M H) (hS : va_S A s.heap H locs) {n : Nat} {f : Nat → Int32} (he : M a = some (zm_I G n f)) {i x : Int32} (hin : vp_in i n) (hdg : decode cc pc = .ok (.iastore, 1))
    (kk : ∀ (H1 : Heap) (locs1 : List Loc), zm_P G A (zm_up M a (zm_I G n (upd f i.toNatClampNeg x))) H1 → va_S A s.heap H1 locs1 → W p l e R s m args below meth c H1 locs1 cells slots Q (F0 m (pc + 1) ls rest)) : W p l e R s m args below meth c H locs cells slots Q (F0 m pc ls (.int x :: .int i :: .ref a :: rest)) := by
  obtain ⟨hAa, hc⟩ := hM a _ he
  refine W.iast hx hb hc ((hE.1.2 0 _ rfl).1 n (fun j => .int (f j))) (fun q => by cases q) (by show ¬ (i < 0 ∨ (arrV _ _ _).slots.size ≤ _); rw [arrV_size]; exact hin) rfl rfl hdg fun H1 e z oq => ?_
  refine kk H1 _ (hM.up hAa ?_ (fun q h _ => oq q h)) (hS.put z oq hAa)
  show H1[a]? = some (vp_cell _ _)
  rw [e, vp_cell_i, vp_cell_i, arrV_store]
  congr 2
  funext q
  by_cases hq : q = i.toNatClampNeg
  · subst hq; simp [updV, upd]
  · simp [updV, upd, hq]
theorem zm_last (hx : p.tables.exec = Jvm.exec) (hb : c.code = cc) (hE : zm_E G A s s.heap) (hM : zm_P G A M H) (hS : va_S A s.heap H locs) {n : Nat} {f : Nat → Int64} (he : M a = some (zm_J G n f)) {i : Int32} {x : Int64} (hin : vp_in i n) (hdg : decode cc pc = .ok (.lastore, 1))
    (kk : ∀ (H1 : Heap) (locs1 : List Loc), zm_P G A (zm_up M a (zm_J G n (vp_updL f i.toNatClampNeg x))) H1 → va_S A s.heap H1 locs1 → W p l e R s m args below meth c H1 locs1 cells slots Q (F0 m (pc + 1) ls rest)) : W p l e R s m args below meth c H locs cells slots Q (F0 m pc ls (.long x :: .int i :: .ref a :: rest)) := by
  obtain ⟨hAa, hc⟩ := hM a _ he
  refine W.last hx hb hc ((hE.1.2 1 _ rfl).1 n (fun j => .long (f j))) (fun q => by cases q) (by show ¬ (i < 0 ∨ (arrV _ _ _).slots.size ≤ _); rw [arrV_size]; exact hin) rfl rfl hdg fun H1 e z oq => ?_
  refine kk H1 _ (hM.up hAa ?_ (fun q h _ => oq q h)) (hS.put z oq hAa)
  show H1[a]? = some (vp_cell _ _)
  rw [e, vp_cell_l, vp_cell_l, arrV_store]
  congr 2
  funext q
  by_cases hq : q = i.toNatClampNeg
  · subst hq; simp [updV, vp_updL]
  · simp [updV, vp_updL, hq]
/-- into an array of references: an object whose class can be cast to the array's -/
theorem zm_ast0 (hx : p.tables.exec = Jvm.exec) (hb : c.code = cc) (hE : zm_E G A s s.heap) (hM : zm_P G A M H) (hS : va_S A s.heap H locs) (t0 : Nat) {cA : ClassId} {n v ci : Nat} {E : String} {q : vw_C} {f : Nat → Option Nat} {fs : List Value} (ht : (zm_tys G)[t0]? = some (cA, .object E)) (he : M a = some (.inl (cA, n, .inr (.inr (.inr (.inr f)))))) (hv : M v = some (.inr (ci, fs))) (hc : vwCl[ci]? = some q) (hasg : ∀ c0 c1 : ClassId, s.vm.findClass q.1 = some c0 → s.vm.findClass E = some c1 → s.vm.assignable c0 c1 = true) {i : Int32} (hin : vp_in i n) (hdg : decode cc pc = .ok (.aastore, 1))
    (kk : ∀ (H1 : Heap) (locs1 : List Loc), zm_P G A (zm_up M a (.inl (cA, n, .inr (.inr (.inr (.inr (va_up f i.toNatClampNeg (some v)))))))) H1 → va_S A s.heap H1 locs1 → W p l e R s m args below meth c H1 locs1 cells slots Q (F0 m (pc + 1) ls rest)) : W p l e R s m args below meth c H locs cells slots Q (F0 m pc ls (.ref v :: .int i :: .ref a :: rest)) := by
  have hlt : i.toNatClampNeg < n := Nat.not_le.mp fun q => hin (Or.inr q)
  have h0 : ¬ i < 0 := fun q => hin (Or.inl q)
  obtain ⟨hAa, hca⟩ := hM a _ he
  obtain ⟨-, r', hr', cellV, g1, g2, g3, -⟩ := hM v _ hv
  have hcls := (hE.1.1 ci q hc).2
  obtain ⟨kA, comp, k1, k2, k3, -⟩ := (hE.1.2 t0 _ ht).2
  obtain ⟨kE, hkE, -⟩ := Vm.findClass_spec k3
  obtain ⟨kC, hkC, -⟩ := hcls.2
  have ha2 := hasg _ _ hcls.1 k3
  refine W.aast hx hb hca (fun q h => by cases h) (fun h => by cases h) k1 k2 rfl hkE ⟨h0, by show _ < (arrV _ _ _).slots.size; rw [arrV_size]; exact hlt⟩ g1 (fun q h => by rw [g3] at h; cases h) (by rw [g2]; exact hkC) (by rw [g2]; exact ha2) rfl rfl hdg fun H1 e z oq => ?_
  refine kk H1 _ (hM.up hAa ?_ (fun q h _ => oq q h)) (hS.put z oq hAa)
  show H1[a]? = some (vp_cell _ _)
  rw [e, vp_cell_q, vp_cell_q, arrV_store]
  congr 2
  funext q
  by_cases hq : q = i.toNatClampNeg
  · subst hq; simp [updV, va_up, va_rf]
  · simp [updV, va_up, hq]
theorem zm_astC (hx : p.tables.exec = Jvm.exec) (hb : c.code = cc) (hE : zm_E G A s s.heap) (hM : zm_P G A M H) (hS : va_S A s.heap H locs) {n v : Nat} {f : Nat → Option Nat} {fs : List Value} (he : M a = some (zm_C G n f)) (hv : M v = some (.inr (0, fs))) {i : Int32} (hin : vp_in i n) (hdg : decode cc pc = .ok (.aastore, 1))
    (kk : ∀ (H1 : Heap) (locs1 : List Loc), zm_P G A (zm_up M a (zm_C G n (va_up f i.toNatClampNeg (some v)))) H1 → va_S A s.heap H1 locs1 → W p l e R s m args below meth c H1 locs1 cells slots Q (F0 m (pc + 1) ls rest)) : W p l e R s m args below meth c H locs cells slots Q (F0 m pc ls (.ref v :: .int i :: .ref a :: rest)) := by
  refine zm_ast0 hx hb hE hM hS 2 (q := (RX0, TX0, 4)) rfl he hv rfl (fun c0 c1 h0 h1 => ?_) hin hdg kk
  have e : c0 = c1 := Option.some.inj (h0.symm.trans h1)
  subst e
  obtain ⟨z1, z2⟩ := (hE.1.1 0 _ rfl).2
  have e2 : G.1.1 0 = c0 := Option.some.inj (z1.symm.trans h0)
  subst e2
  exact va_assign ⟨z1, z2⟩
theorem zm_asg {ci : Nat} {q : vw_C} (hE : zm_E G A s s.heap) (h3 : ci = 1 ∨ ci = 2 ∨ ci = 3) (hc : vwCl[ci]? = some q) (c0 c1 : ClassId) (h0 : s.vm.findClass q.1 = some c0) (h1 : s.vm.findClass "PropStore$Prop" = some c1) : s.vm.assignable c0 c1 = true := by
  have key : ∀ C : String, va_Nw (.castable C "PropStore$Prop") s → s.vm.findClass C = some c0 → s.vm.assignable c0 c1 = true := by
    intro C hw hC
    obtain ⟨x0, x1, f1, f2, f3⟩ := Cond.castable_spec (va_Nw.use (A := #[]) rfl hw)
    cases hC.symm.trans f1
    cases h1.symm.trans f2
    exact f3
  rcases h3 with rfl | rfl | rfl
  · cases hc; exact key _ (hE.2.1 (.castable "PropStore$Numbers" "PropStore$Prop") (by simp [zm_nws])) h0
  · cases hc; exact key _ (hE.2.1 (.castable "PropStore$Piece" "PropStore$Prop") (by simp [zm_nws])) h0
  · cases hc; exact key _ (hE.2.1 (.castable "PropStore$Row" "PropStore$Prop") (by simp [zm_nws])) h0
theorem zm_astP (hx : p.tables.exec = Jvm.exec) (hb : c.code = cc) (hE : zm_E G A s s.heap) (hM : zm_P G A M H) (hS : va_S A s.heap H locs) {n v ci : Nat} {f : Nat → Option Nat} {fs : List Value} (he : M a = some (zm_R G n f)) (hv : M v = some (.inr (ci, fs))) (h3 : ci = 1 ∨ ci = 2 ∨ ci = 3) {i : Int32} (hin : vp_in i n) (hdg : decode cc pc = .ok (.aastore, 1))
    (kk : ∀ (H1 : Heap) (locs1 : List Loc), zm_P G A (zm_up M a (zm_R G n (va_up f i.toNatClampNeg (some v)))) H1 → va_S A s.heap H1 locs1 → W p l e R s m args below meth c H1 locs1 cells slots Q (F0 m (pc + 1) ls rest)) : W p l e R s m args below meth c H locs cells slots Q (F0 m pc ls (.ref v :: .int i :: .ref a :: rest)) := by
  have hc : ∃ q, vwCl[ci]? = some q := by rcases h3 with rfl | rfl | rfl <;> exact ⟨_, rfl⟩
  obtain ⟨q, hq⟩ := hc
  exact zm_ast0 hx hb hE hM hS 3 (q := q) rfl he hv hq (zm_asg hE h3 hq) hin hdg kk
theorem zm_astN (hx : p.tables.exec = Jvm.exec) (hb : c.code = cc) (hE : zm_E G A s s.heap) (hM : zm_P G A M H) (hS : va_S A s.heap H locs) {n : Nat} {f : Nat → Option Nat} (he : M a = some (zm_R G n f)) {i : Int32} (hin : vp_in i n) (hdg : decode cc pc = .ok (.aastore, 1))
    (kk : ∀ (H1 : Heap) (locs1 : List Loc), zm_P G A (zm_up M a (zm_R G n (va_up f i.toNatClampNeg none))) H1 → va_S A s.heap H1 locs1 → W p l e R s m args below meth c H1 locs1 cells slots Q (F0 m (pc + 1) ls rest)) : W p l e R s m args below meth c H locs cells slots Q (F0 m pc ls (.null :: .int i :: .ref a :: rest)) := by
  obtain ⟨hAa, hca⟩ := hM a _ he
  refine va_WaastN (C := "PropStore$Prop") hx hb hca ((hE.1.2 3 _ rfl).1 n (fun j => va_rf (f j))) (fun h => by cases h) (by show ¬ (i < 0 ∨ (arrV _ _ _).slots.size ≤ _); rw [arrV_size]; exact hin) rfl rfl hdg fun H1 e z oq => ?_
  refine kk H1 _ (hM.up hAa ?_ (fun q h _ => oq q h)) (hS.put z oq hAa)
  show H1[a]? = some (vp_cell _ _)
  rw [e, vp_cell_q, vp_cell_q, arrV_store]
  congr 2
  funext q
  by_cases hq : q = i.toNatClampNeg
  · subst hq; simp [updV, va_up, va_rf]
  · simp [updV, va_up, hq]
/-- any prop or nothing -/
theorem zm_astO (hx : p.tables.exec = Jvm.exec) (hb : c.code = cc) (hE : zm_E G A s s.heap) (hM : zm_P G A M H) (hS : va_S A s.heap H locs) {n : Nat} {r : Option Nat} {f : Nat → Option Nat} (he : M a = some (zm_R G n f)) (hr : ∀ v, r = some v → ∃ ci fs, M v = some (.inr (ci, fs)) ∧ (ci = 1 ∨ ci = 2 ∨ ci = 3)) {i : Int32} (hin : vp_in i n) (hdg : decode cc pc = .ok (.aastore, 1))
    (kk : ∀ (H1 : Heap) (locs1 : List Loc), zm_P G A (zm_up M a (zm_R G n (va_up f i.toNatClampNeg r))) H1 → va_S A s.heap H1 locs1 → W p l e R s m args below meth c H1 locs1 cells slots Q (F0 m (pc + 1) ls rest)) : W p l e R s m args below meth c H locs cells slots Q (F0 m pc ls (va_rf r :: .int i :: .ref a :: rest)) := by
  cases r with
  | none => exact zm_astN hx hb hE hM hS he hin hdg kk
  | some v =>
    obtain ⟨ci, fs, h1, h2⟩ := hr v rfl
    exact zm_astP hx hb hE hM hS he h1 h2 hin hdg kk
theorem zm_new (hx : p.tables.exec = Jvm.exec) (hb : c.code = cc) (hts : ∀ w ∈ wsL_law, w.before args s = true) (hown : s.vm.findClass own = some m.cls) (hE : zm_E G A s s.heap) (hA : ∀ q : Nat, s.heap.size ≤ q → A q) (hM : zm_P G A M H) (hS : va_S A s.heap H locs) (ci : Nat) {C : String} {T : u_T} {N idx : Nat} (hc : vwCl[ci]? = some (C, T, N)) (hin : ∀ w ∈ u_ws C T N, w ∈ wsL_law) (ty : Nat → FieldType) (hty : ∀ k, k < N → parseFieldDescriptor (T k).2.2.1 = some (ty k)) (hcl : Cond.classLink own idx C ∈ wsL_law) (hinst : Cond.instantiable C N ∈ wsL_law) (hini : Cond.initialized C ∈ wsL_law)
    {fs : List Value} (hfs : ∀ j, j < N → defaultValue (ty j) = vp_V fs j) (hcells : cells + 1 ≤ R.cells) (hslots : slots + N ≤ R.slots) (hdg : decode cc pc = .ok (.new idx, 3))
    (kk : ∀ (q : Nat) (H1 : Heap), M q = none → zm_P G A (zm_up M q (.inr (ci, fs))) H1 → va_S A s.heap H1 locs → W p l e R s m args below meth c H1 locs (cells + 1) (slots + N) Q (F0 m (pc + 3) ls (.ref q :: rest))) : W p l e R s m args below meth c H locs cells slots Q (F0 m pc ls rest) := by
  have hKn := hE.1.1 ci _ hc
  refine W.newcK hx hb hown (hts _ hcl) (hts _ hinst) (hts _ hini) rfl hdg hcells hslots hKn.2.1 rfl fun H1 kC hkC e1 z1 o1 => ?_
  refine kk H.size H1 hM.fresh (hM.up (hA _ hS.1) ⟨_, hc, (u_born ty hts hin hKn hkC e1 hty).to hfs⟩ (fun q _ h => o1 q h)) ⟨Nat.le_trans hS.1 (by omega), fun x h1 h2 => (o1 x (Nat.lt_of_lt_of_le h1 hS.1)).trans (hS.2.1 x h1 h2), hS.2.2⟩
theorem zm_newI (hx : p.tables.exec = Jvm.exec) (hb : c.code = cc) (hts : ∀ w ∈ wsL_law, w.before args s = true) (hE : zm_E G A s s.heap) (hA : ∀ q : Nat, s.heap.size ≤ q → A q) (hM : zm_P G A M H) (hS : va_S A s.heap H locs) {n : Int32} {N : Nat} (hw : Cond.arrayClass .int ∈ wsL_law) (hn : ¬ n < 0) (hN : n.toNatClampNeg = N) (hbytes : N * componentBytes .int ≤ 536870912) (hcells : cells + 1 ≤ R.cells) (hslots : slots + N ≤ R.slots) (hdg : decode cc pc = .ok (.newarray .int, 2))
    (kk : ∀ (q : Nat) (H1 : Heap), M q = none → zm_P G A (zm_up M q (zm_I G N (fun _ => 0))) H1 → va_S A s.heap H1 locs → W p l e R s m args below meth c H1 locs (cells + 1) (slots + N) Q (F0 m (pc + 2) ls (.ref q :: rest))) : W p l e R s m args below meth c H locs cells slots Q (F0 m pc ls (.int n :: rest)) := by
  refine va_newaK (atype := .int) hx hb (hts _ hw) rfl hdg rfl hn hN hbytes hcells hslots rfl fun H1 cA e1 z1 o1 hAr hNm => ?_
  have hid : cA = G.2.1 0 := by
    have h1 := (hE.1.2 0 _ rfl).2
    exact Option.some.inj (hNm.symm.trans h1)
  subst hid
  refine kk H.size H1 hM.fresh (hM.up (hA _ hS.1) ?_ (fun q _ h => o1 q h)) ⟨Nat.le_trans hS.1 (by omega), fun x h1 h2 => (o1 x (Nat.lt_of_lt_of_le h1 hS.1)).trans (hS.2.1 x h1 h2), hS.2.2⟩
  show H1[H.size]? = some (vp_cell _ _)
  rw [vp_cell_i]
  exact e1
theorem zm_newJ (hx : p.tables.exec = Jvm.exec) (hb : c.code = cc) (hts : ∀ w ∈ wsL_law, w.before args s = true) (hE : zm_E G A s s.heap) (hA : ∀ q : Nat, s.heap.size ≤ q → A q) (hM : zm_P G A M H) (hS : va_S A s.heap H locs) {n : Int32} {N : Nat} (hw : Cond.arrayClass .long ∈ wsL_law) (hn : ¬ n < 0) (hN : n.toNatClampNeg = N) (hbytes : N * componentBytes .long ≤ 536870912) (hcells : cells + 1 ≤ R.cells) (hslots : slots + N ≤ R.slots) (hdg : decode cc pc = .ok (.newarray .long, 2))
    (kk : ∀ (q : Nat) (H1 : Heap), M q = none → zm_P G A (zm_up M q (zm_J G N (fun _ => 0))) H1 → va_S A s.heap H1 locs → W p l e R s m args below meth c H1 locs (cells + 1) (slots + N) Q (F0 m (pc + 2) ls (.ref q :: rest))) : W p l e R s m args below meth c H locs cells slots Q (F0 m pc ls (.int n :: rest)) := by
  refine va_newaK (atype := .long) hx hb (hts _ hw) rfl hdg rfl hn hN hbytes hcells hslots rfl fun H1 cA e1 z1 o1 hAr hNm => ?_
  have hid : cA = G.2.1 1 := by
    have h1 := (hE.1.2 1 _ rfl).2
    exact Option.some.inj (hNm.symm.trans h1)
  subst hid
  refine kk H.size H1 hM.fresh (hM.up (hA _ hS.1) ?_ (fun q _ h => o1 q h)) ⟨Nat.le_trans hS.1 (by omega), fun x h1 h2 => (o1 x (Nat.lt_of_lt_of_le h1 hS.1)).trans (hS.2.1 x h1 h2), hS.2.2⟩
  show H1[H.size]? = some (vp_cell _ _)
  rw [vp_cell_l]
  exact e1
theorem zm_newq (hx : p.tables.exec = Jvm.exec) (hb : c.code = cc) (hts : ∀ w ∈ wsL_law, w.before args s = true) (hown : s.vm.findClass own = some m.cls) (hE : zm_E G A s s.heap) (hA : ∀ q : Nat, s.heap.size ≤ q → A q) (hM : zm_P G A M H) (hS : va_S A s.heap H locs) (t0 : Nat) {C : String} {cA : ClassId} {idx : Nat} (ht : (zm_tys G)[t0]? = some (cA, .object C)) (hcl : Cond.classLink own idx C ∈ wsL_law) (hover : va_AO C s) {n : Int32} {N : Nat} (hn : ¬ n < 0) (hN : n.toNatClampNeg = N) (hbytes : N * 4 ≤ 536870912) (hcells : cells + 1 ≤ R.cells) (hslots : slots + N ≤ R.slots) (hdg : decode cc pc = .ok (.anewarray idx, 3))
    (kk : ∀ (q : Nat) (H1 : Heap), M q = none → zm_P G A (zm_up M q (.inl (cA, N, .inr (.inr (.inr (.inr (fun _ => none))))))) H1 → va_S A s.heap H1 locs → W p l e R s m args below meth c H1 locs (cells + 1) (slots + N) Q (F0 m (pc + 3) ls (.ref q :: rest))) : W p l e R s m args below meth c H locs cells slots Q (F0 m pc ls (.int n :: rest)) := by
  subst hN
  refine W.anew hx hb hown (hts _ hcl) (va_AO.use hover) rfl hdg rfl hn hbytes hcells hslots fun cB kA comp f1 f2 f3 f4 => ?_
  have hid : cB = cA := by
    obtain ⟨_, _, _, _, _, h4⟩ := (hE.1.2 t0 _ ht).2
    exact Option.some.inj (f1.symm.trans h4)
  subst hid
  generalize hH1 : H.push ({ cls := cB, slots := Array.replicate n.toNatClampNeg .null, vm := .none } : Cell) = H1
  have z1 : H1.size = H.size + 1 := by rw [← hH1, Array.size_push]
  have e1 : H1[H.size]? = some (arrV cB n.toNatClampNeg (fun _ => .null)) := by rw [← hH1, Array.getElem?_push_size, ← arrV_new]
  have o1 : ∀ q : Nat, q < H.size → H1[q]? = H[q]? := fun q hq => by rw [← hH1, Array.getElem?_push, if_neg (Nat.ne_of_lt hq)]
  refine kk H.size H1 hM.fresh (hM.up (hA _ hS.1) ?_ (fun q _ h => o1 q h)) ⟨Nat.le_trans hS.1 (by omega), fun x h1 h2 => (o1 x (Nat.lt_of_lt_of_le h1 hS.1)).trans (hS.2.1 x h1 h2), hS.2.2⟩
  show H1[H.size]? = some (vp_cell _ _)
  rw [vp_cell_q]
  exact e1
/-- a table's address, and a number of it -/
theorem zm_gets (hx : p.tables.exec = Jvm.exec) (hb : c.code = cc) (hts : ∀ w ∈ wsL_law, w.before args s = true) (hown : s.vm.findClass own = some m.cls) (hE : zm_E G A s s.heap) (hS : va_S A s.heap H locs) (k : Nat) (hk : k < 3) {idx : Nat} (hlink : Cond.fieldLink own idx "PropStore" (zm_tn k) "[I" ∈ wsL_law) (hdg : decode cc pc = .ok (.getstatic idx, 3))
    (kk : W p l e R s m args below meth c H locs cells slots Q (F0 m (pc + 3) ls (.ref (G.2.2 k) :: rest))) : W p l e R s m args below meth c H locs cells slots Q (F0 m pc ls rest) :=
  va_gets hx hb (hE.2.2.2.2 k hk).1 hS hown (hts _ hlink) (fun _ h => h) hdg kk
theorem zm_tab (hx : p.tables.exec = Jvm.exec) (hb : c.code = cc) (hE : zm_E G A s s.heap) (hS : va_S A s.heap H locs) (k : Nat) (hk : k < 3) {i : Int32} (hin : vp_in i (zm_tl k).length) (hdg : decode cc pc = .ok (.iaload, 1))
    (kk : W p l e R s m args below meth c H locs cells slots Q (F0 m (pc + 1) ls (.int (zm_tv k i.toNatClampNeg) :: rest))) : W p l e R s m args below meth c H locs cells slots Q (F0 m pc ls (.int i :: .ref (G.2.2 k) :: rest)) :=
  va_ti hx hb (hE.2.2.2.2 k hk).2 hS hin rfl hdg kk
theorem zm_recv (hE : zm_E G A s s.heap) (hM : zm_P G A M H) {ci : Nat} {fs : List Value} {q : vw_C} (he : M a = some (.inr (ci, fs))) (hc : vwCl[ci]? = some q) : ∃ cell : Cell, H[a]? = some cell ∧ cell.vm.isStatics = false ∧ s.vm.findClass q.1 = some cell.cls :=
  va_recv (q0 := 0) hE.1 (hM.one he) hc rfl
theorem zm_instY (hx : p.tables.exec = Jvm.exec) (hb : c.code = cc) (hts : ∀ w ∈ wsL_law, w.before args s = true) (hown : s.vm.findClass own = some m.cls) (hE : zm_E G A s s.heap) (hM : zm_P G A M H) {ci idx : Nat} {fs : List Value} {q : vw_C} (he : M a = some (.inr (ci, fs))) (hc : vwCl[ci]? = some q) (hw : Cond.castable q.1 q.1 ∈ zm_nws) (hcl : Cond.classLink own idx q.1 ∈ wsL_law) (hdg : decode cc pc = .ok (.instanceof idx, 3))
    (kk : W p l e R s m args below meth c H locs cells slots Q (F0 m (pc + 3) ls (.int 1 :: rest))) : W p l e R s m args below meth c H locs cells slots Q (F0 m pc ls (.ref a :: rest)) :=
  va_instY hx hb hown (hts _ hcl) (hE.2.1 _ hw) (zm_recv hE hM he hc) hdg kk
theorem zm_instN (hx : p.tables.exec = Jvm.exec) (hb : c.code = cc) (hts : ∀ w ∈ wsL_law, w.before args s = true) (hown : s.vm.findClass own = some m.cls) (hE : zm_E G A s s.heap) (hM : zm_P G A M H) {ci idx : Nat} {fs : List Value} {q : vw_C} {nm : String} (he : M a = some (.inr (ci, fs))) (hc : vwCl[ci]? = some q) (hw : (q.1, nm) ∈ zm_ncs) (hcl : Cond.classLink own idx nm ∈ wsL_law) (hdg : decode cc pc = .ok (.instanceof idx, 3))
    (kk : W p l e R s m args below meth c H locs cells slots Q (F0 m (pc + 3) ls (.int 0 :: rest))) : W p l e R s m args below meth c H locs cells slots Q (F0 m pc ls (.ref a :: rest)) :=
  va_instNo hx hb hown (hts _ hcl) (hE.2.2.1 _ hw) (zm_recv hE hM he hc) hdg kk
theorem zm_cast (hx : p.tables.exec = Jvm.exec) (hb : c.code = cc) (hts : ∀ w ∈ wsL_law, w.before args s = true) (hown : s.vm.findClass own = some m.cls) (hE : zm_E G A s s.heap) (hM : zm_P G A M H) {ci idx : Nat} {fs : List Value} {q : vw_C} (he : M a = some (.inr (ci, fs))) (hc : vwCl[ci]? = some q) (hw : Cond.castable q.1 q.1 ∈ zm_nws) (hcl : Cond.classLink own idx q.1 ∈ wsL_law) (hdg : decode cc pc = .ok (.checkcast idx, 3))
    (kk : W p l e R s m args below meth c H locs cells slots Q (F0 m (pc + 3) ls (.ref a :: rest))) : W p l e R s m args below meth c H locs cells slots Q (F0 m pc ls (.ref a :: rest)) :=
  va_castY hx hb hown (hts _ hcl) (hE.2.1 _ hw) (zm_recv hE hM he hc) hdg kk
/-- behind a call -/
theorem zm_go {post : Option Value → zm_M → Prop} {mc ms : Nat} {st0 : List Value} {av : Array Value} (hr : va_Run p l e R s m args below meth c H locs cells slots mc ms (F0 m pc ls st0) rest (zm_Q G post A av) A) (hS : va_S A s.heap H locs)
    (kk : ∀ (r : Option Value) (M' : zm_M) (H1 : Heap) (locs1 : List Loc), post r M' → zm_P G A M' H1 → va_S A s.heap H1 locs1 → W p l e R s m args below meth c H1 locs1 (cells + mc) (slots + ms) Q (F0 m (pc + 3) ls (r.toList ++ rest))) : W p l e R s m args below meth c H locs cells slots Q (F0 m pc ls st0) := by
  intro T hT X
  obtain ⟨v, st₀, t, T', L, h0, X', hL, e1, e2, ⟨⟨r, M', hv, hp, hb⟩, hz, hk⟩, st⟩ := hr T hT X
  cases hv
  rw [h0] at hz hk
  obtain ⟨t2, a1, b1⟩ := kk v M' T'.heap (locs ++ L) hp (by rw [e1]; exact hb)
    ⟨Nat.le_trans hS.1 (by rw [e1]; exact hz), fun q h1 h2 => by rw [e1, hk q (Nat.lt_of_lt_of_le h1 hS.1) h2]; exact hS.2.1 q h1 h2, fun q hq => by
      rcases List.mem_append.mp hq with h | h
      · exact hS.2.2 q h
      · exact hL q h⟩ T' rfl X'
  exact ⟨t2, st t2 a1, b1⟩
theorem zm_pre (hE : zm_E G A s s.heap) (hA : ∀ q : Nat, s.heap.size ≤ q → A q) (hM : zm_P G A M H) (hS : va_S A s.heap H locs) (av : List Value) : PreS s H (zm_Pc G av A M) av :=
  ⟨fun a U g mk q => by obtain ⟨q0, q1, q2, q3⟩ := q; exact ⟨q0, q1, q2, zm_E.same (U := U.calling g mk a) q3 rfl⟩, fun U hU hW => ⟨rfl, by rw [hU]; exact hM, fun q hq => hA q (Nat.le_trans hS.1 (by rw [← hU]; exact hq)), by rw [hU]; exact hE.warm hW hS⟩⟩
variable {post : Option Value → zm_M → Prop} {y : MethodName} {yb : ByteArray} {yl yn mc ms rf idx nL : Nat} {yr : Option FieldType} {As st0 : List Value}
theorem zm_callS (hx : p.tables.exec = Jvm.exec) (hb : c.code = cc) (hml : c.maxLocals = nL) (hts : ∀ w ∈ wsL_law, w.before args s = true) (hown : s.vm.findClass own = some m.cls) (hE : zm_E G A s s.heap) (hA : ∀ q : Nat, s.heap.size ≤ q → A q) (hM : zm_P G A M H) (hS : va_S A s.heap H locs)
    (hc : Met l y (zm_W y yb yl yr) (zm_rm rf mc ms) (zm_Pc G As A M) (zm_Q G post A) mc ms A) (hd : zm_cd y yb yl yr yn) (hk : Cond.methodLink own idx y ∈ wsL_law ∧ Cond.static y ∈ wsL_law) (hst : st0 = As.reverse ++ rest) (hn : As.length = yn) (hsz : ls.size = nL) (hW : (rest.map fun v => v.category).sum ≤ 8) (hR : rf + 1 ≤ R.frames ∧ 8 + (yl + 11) + 40 * rf ≤ R.locals) (hf : cells + mc ≤ R.cells ∧ slots + ms ≤ R.slots) (hdg : decode cc pc = .ok (.invokestatic idx, 3))
    (kk : ∀ (r : Option Value) (M' : zm_M) (H1 : Heap) (locs1 : List Loc), post r M' → zm_P G A M' H1 → va_S A s.heap H1 locs1 → W p l e R s m args below meth c H1 locs1 (cells + mc) (slots + ms) Q (F0 m (pc + 3) ls (r.toList ++ rest))) : W p l e R s m args below meth c H locs cells slots Q (F0 m pc ls st0) := by
  obtain ⟨d1, d2, d3⟩ := hd
  exact zm_go (va_runS (n := yn) ⟨hx, hb, hml, hown, hts⟩ hc ⟨callB_of yn hts (zm_GI d1) rfl rfl rfl (hts _ d2) (hts _ hk.1) d3 hR, hts _ hk.2⟩ (zm_pre hE hA hM hS As) rfl hn hsz hst (lv_room hW) hdg hf) hS kk
theorem zm_callV (hx : p.tables.exec = Jvm.exec) (hb : c.code = cc) (hml : c.maxLocals = nL) (hts : ∀ w ∈ wsL_law, w.before args s = true) (hown : s.vm.findClass own = some m.cls) (hE : zm_E G A s s.heap) (hA : ∀ q : Nat, s.heap.size ≤ q → A q) (hM : zm_P G A M H) (hS : va_S A s.heap H locs) {ci : Nat} {fs : List Value} {q : vw_C} (he : M a = some (.inr (ci, fs))) (hcl : vwCl[ci]? = some q)
    (hc : Met l y (zm_W y yb yl yr) (zm_rm rf mc ms) (zm_Pc G (.ref a :: As) A M) (zm_Q G post A) mc ms A) (hd : zm_cd y yb yl yr yn) (hk : Cond.methodLink own idx y ∈ wsL_law ∧ Cond.instanceMethod y ∈ wsL_law ∧ Cond.selects q.1 y y ∈ wsL_law) (hst : st0 = As.reverse ++ .ref a :: rest) (hn : As.length = yn) (hsz : ls.size = nL) (hW : (rest.map fun v => v.category).sum ≤ 8) (hR : rf + 1 ≤ R.frames ∧ 8 + (yl + 11) + 40 * rf ≤ R.locals) (hf : cells + mc ≤ R.cells ∧ slots + ms ≤ R.slots) (hdg : decode cc pc = .ok (.invokevirtual idx, 3))
    (kk : ∀ (r : Option Value) (M' : zm_M) (H1 : Heap) (locs1 : List Loc), post r M' → zm_P G A M' H1 → va_S A s.heap H1 locs1 → W p l e R s m args below meth c H1 locs1 (cells + mc) (slots + ms) Q (F0 m (pc + 3) ls (r.toList ++ rest))) : W p l e R s m args below meth c H locs cells slots Q (F0 m pc ls st0) := by
  obtain ⟨d1, d2, d3⟩ := hd
  have hp := zm_pre hE hA hM hS (.ref a :: As)
  exact zm_go (va_runV (n := yn) (C := q.1) ⟨hx, hb, hml, hown, hts⟩ hc ⟨callB_of yn hts (zm_GI d1) rfl rfl rfl (hts _ d2) (hts _ hk.1) d3 hR, hts _ hk.2.1, hts _ hk.2.2⟩ ⟨hp.1, zm_recv hE hM he hcl, hp.2⟩ rfl hn hsz hst (lv_room hW) hdg hf) hS kk
theorem zm_callI (hx : p.tables.exec = Jvm.exec) (hb : c.code = cc) (hml : c.maxLocals = nL) (hts : ∀ w ∈ wsL_law, w.before args s = true) (hown : s.vm.findClass own = some m.cls) (hE : zm_E G A s s.heap) (hA : ∀ q : Nat, s.heap.size ≤ q → A q) (hM : zm_P G A M H) (hS : va_S A s.heap H locs)
    (hc : Met l y (zm_W y yb yl none) (zm_rm rf mc ms) (zm_Pc G (.ref a :: As) A M) (zm_Q G post A) mc ms A) (hd : zm_cd y yb yl none yn) (hk : Cond.methodLink own idx y ∈ wsL_law ∧ Cond.instanceMethod y ∈ wsL_law ∧ y.name = "<init>") (hst : st0 = As.reverse ++ .ref a :: rest) (hn : As.length = yn) (hsz : ls.size = nL) (hW : (rest.map fun v => v.category).sum ≤ 8) (hR : rf + 1 ≤ R.frames ∧ 8 + (yl + 11) + 40 * rf ≤ R.locals) (hf : cells + mc ≤ R.cells ∧ slots + ms ≤ R.slots) (hdg : decode cc pc = .ok (.invokespecial idx, 3))
    (kk : ∀ (r : Option Value) (M' : zm_M) (H1 : Heap) (locs1 : List Loc), post r M' → zm_P G A M' H1 → va_S A s.heap H1 locs1 → W p l e R s m args below meth c H1 locs1 (cells + mc) (slots + ms) Q (F0 m (pc + 3) ls (r.toList ++ rest))) : W p l e R s m args below meth c H locs cells slots Q (F0 m pc ls st0) := by
  obtain ⟨d1, d2, d3⟩ := hd
  exact zm_go (va_runI (n := yn) ⟨hx, hb, hml, hown, hts⟩ hc ⟨callB_of yn hts (zm_GI d1) rfl rfl rfl (hts _ d2) (hts _ hk.1) d3 hR, hk.2.2, hts _ hk.2.1⟩ (zm_pre hE hA hM hS (.ref a :: As)) rfl hn hsz hst (lv_room hW) hdg hf) hS kk
/-- of an abstract method x of Prop, on an object of class ci -/
theorem zm_callU (hx : p.tables.exec = Jvm.exec) (hb : c.code = cc) (hml : c.maxLocals = nL) (hts : ∀ w ∈ wsL_law, w.before args s = true) (hown : s.vm.findClass own = some m.cls) (hE : zm_E G A s s.heap) (hA : ∀ q : Nat, s.heap.size ≤ q → A q) (hM : zm_P G A M H) (hS : va_S A s.heap H locs) {ci : Nat} {fs : List Value} {q : vw_C} (he : M a = some (.inr (ci, fs))) (hcl : vwCl[ci]? = some q) {x : MethodName}
    (hc : Met l y (zm_W y yb yl yr) (zm_rm rf mc ms) (zm_Pc G (.ref a :: As) A M) (zm_Q G post A) mc ms A) (hd : zm_cd y yb yl yr yn) (hxc : x.cls = "PropStore$Prop" ∧ y.name = x.name ∧ y.desc = x.desc) (hk : Cond.methodLink own idx x ∈ wsL_law ∧ Cond.sameMethod x.cls "PropStore$Prop" x.name x.desc ∈ wsL_law ∧ Cond.selects q.1 x y ∈ wsL_law ∧ Cond.instanceMethod y ∈ wsL_law ∧ Cond.declares x ∈ zm_nws) (hst : st0 = As.reverse ++ .ref a :: rest) (hn : As.length = yn) (hsz : ls.size = nL) (hW : (rest.map fun v => v.category).sum ≤ 8) (hR : rf + 1 ≤ R.frames ∧ 8 + (yl + 11) + 40 * rf ≤ R.locals) (hf : cells + mc ≤ R.cells ∧ slots + ms ≤ R.slots) (hdg : decode cc pc = .ok (.invokevirtual idx, 3))
    (kk : ∀ (r : Option Value) (M' : zm_M) (H1 : Heap) (locs1 : List Loc), post r M' → zm_P G A M' H1 → va_S A s.heap H1 locs1 → W p l e R s m args below meth c H1 locs1 (cells + mc) (slots + ms) Q (F0 m (pc + 3) ls (r.toList ++ rest))) : W p l e R s m args below meth c H locs cells slots Q (F0 m pc ls st0) := by
  obtain ⟨d1, d2, d3⟩ := hd
  obtain ⟨k1, k2, k3, k4, k5⟩ := hk
  obtain ⟨x1, x2, x3⟩ := hxc
  have hp := zm_pre hE hA hM hS (.ref a :: As)
  have hdecl : va_Nw (.declares ⟨"PropStore$Prop", x.name, x.desc⟩) s := by
    have h := hE.2.1 _ k5
    have e : x = ⟨"PropStore$Prop", x.name, x.desc⟩ := by cases x; cases x1; rfl
    rw [← e]; exact h
  refine zm_go (va_runU (n := yn) (C := q.1) (owner := "PropStore$Prop") (x := x) ⟨hx, hb, hml, hown, hts⟩ hc ⟨⟨rfl, rfl, hR.1, hR.2, pay_in hts (zm_GI d1), List.mem_cons_self⟩, hts _ d1, hts _ d2, ⟨by decide, by decide⟩, fun sig h => ?_, hts _ k1, hts _ k2, va_Decl.abs hdecl, hts _ k3, hts _ k4⟩ ⟨hp.1, zm_recv hE hM he hcl, hp.2⟩ rfl hn hsz hst (lv_room hW) hdg hf) hS kk
  have h2 := d3.2.2
  rw [x3, h] at h2
  exact (Option.some.inj h2).symm
/-- of a nest mate's private static method -/
theorem zm_callSN (hx : p.tables.exec = Jvm.exec) (hb : c.code = cc) (hml : c.maxLocals = nL) (hts : ∀ w ∈ wsL_law, w.before args s = true) (hown : s.vm.findClass own = some m.cls) (hE : zm_E G A s s.heap) (hA : ∀ q : Nat, s.heap.size ≤ q → A q) (hM : zm_P G A M H) (hS : va_S A s.heap H locs)
    (hc : Met l y (zm_W y yb yl yr) (zm_rm rf mc ms) (zm_Pc G As A M) (zm_Q G post A) mc ms A) (hd : zm_cd y yb yl yr yn) {host : String} (hk : Cond.methodLinkNest own idx y host ∈ zm_nws ∧ Cond.static y ∈ wsL_law) (hst : st0 = As.reverse ++ rest) (hn : As.length = yn) (hsz : ls.size = nL) (hW : (rest.map fun v => v.category).sum ≤ 8) (hR : rf + 1 ≤ R.frames ∧ 8 + (yl + 11) + 40 * rf ≤ R.locals) (hf : cells + mc ≤ R.cells ∧ slots + ms ≤ R.slots) (hdg : decode cc pc = .ok (.invokestatic idx, 3))
    (kk : ∀ (r : Option Value) (M' : zm_M) (H1 : Heap) (locs1 : List Loc), post r M' → zm_P G A M' H1 → va_S A s.heap H1 locs1 → W p l e R s m args below meth c H1 locs1 (cells + mc) (slots + ms) Q (F0 m (pc + 3) ls (r.toList ++ rest))) : W p l e R s m args below meth c H locs cells slots Q (F0 m pc ls st0) := by
  obtain ⟨d1, d2, d3⟩ := hd
  exact zm_go (va_runSN (n := yn) ⟨hx, hb, hml, hown, hts⟩ hc ⟨va_cnB yn hts (zm_GI d1) rfl rfl rfl (hE.2.1 _ hk.1) (hts _ d2) d3 hR, hts _ hk.2, trivial⟩ (zm_pre hE hA hM hS As) rfl hn hsz hst (lv_room hW) hdg hf) hS kk
theorem zm_objInit (hx : p.tables.exec = Jvm.exec) (hb : c.code = cc) (hml : c.maxLocals = nL) (hts : ∀ w ∈ wsL_law, w.before args s = true) (hown : s.vm.findClass own = some m.cls) (hk : Cond.methodLink own idx objectInit ∈ wsL_law) (hsz : ls.size = nL) (hR : 1 ≤ R.frames) (hL : (rest.map fun v => v.category).sum + 12 ≤ R.locals) (hdg : decode cc pc = .ok (.invokespecial idx, 3))
    (kk : W p l e R s m args below meth c H locs cells slots Q (F0 m (pc + 3) ls rest)) : W p l e R s m args below meth c H locs cells slots Q (F0 m pc ls (.ref a :: rest)) :=
  W.objInit hx hb hown (hts _ hk) (hts (.instanceMethod objectInit) (by decide +kernel)) (hts (.code objectInit ⟨#[0xb1]⟩ 1 none) (by decide +kernel)) rfl (by rw [hml]; exact hsz) rfl hdg hR (by show 2 * 0 + _ + 12 ≤ _; omega) kk
theorem zm_iret {v : Int32} (hx : p.tables.exec = Jvm.exec) (hb : c.code = cc) (hr : meth.sig.returnType = some .int) (hlk : meth.locks = false) (hM : zm_P G A M H) (hS : va_S A s.heap H locs) (hp : post (some (.int v)) M) (hc : cells ≤ mc ∧ slots ≤ ms) (hdg : decode cc pc = .ok (.ireturn, 1)) : W p l e R s m args below meth c H locs cells slots (MQ below (zm_Q G post A) args s mc ms A) (F0 m pc ls [.int v]) :=
  W.widen hc.1 hc.2 (W.iret hx hb hr (fun t ht hW => ⟨⟨_, M, rfl, hp, by rw [ht]; exact hM⟩, hS.F ht⟩) hS.2.2 hdg hlk)
theorem zm_zret {v : Int32} (hx : p.tables.exec = Jvm.exec) (hb : c.code = cc) (hr : meth.sig.returnType = some .boolean) (hlk : meth.locks = false) (hM : zm_P G A M H) (hS : va_S A s.heap H locs) (hv : v = 0 ∨ v = 1) (hp : post (some (.int v)) M) (hc : cells ≤ mc ∧ slots ≤ ms) (hdg : decode cc pc = .ok (.ireturn, 1)) : W p l e R s m args below meth c H locs cells slots (MQ below (zm_Q G post A) args s mc ms A) (F0 m pc ls [.int v]) :=
  W.widen hc.1 hc.2 (W.zret hx hb hr (by rcases hv with rfl | rfl <;> rfl) (fun t ht hW => ⟨⟨_, M, rfl, hp, by rw [ht]; exact hM⟩, hS.F ht⟩) hS.2.2 hdg hlk)
theorem zm_lret {v : Int64} (hx : p.tables.exec = Jvm.exec) (hb : c.code = cc) (hr : meth.sig.returnType = some .long) (hlk : meth.locks = false) (hM : zm_P G A M H) (hS : va_S A s.heap H locs) (hp : post (some (.long v)) M) (hc : cells ≤ mc ∧ slots ≤ ms) (hdg : decode cc pc = .ok (.lreturn, 1)) : W p l e R s m args below meth c H locs cells slots (MQ below (zm_Q G post A) args s mc ms A) (F0 m pc ls [.long v]) :=
  W.widen hc.1 hc.2 (W.lret hx hb hr (fun t ht hW => ⟨⟨_, M, rfl, hp, by rw [ht]; exact hM⟩, hS.F ht⟩) hS.2.2 hdg hlk)
theorem zm_vret (hx : p.tables.exec = Jvm.exec) (hb : c.code = cc) (hr : meth.sig.returnType = none) (hlk : meth.locks = false) (hM : zm_P G A M H) (hS : va_S A s.heap H locs) (hp : post none M) (hc : cells ≤ mc ∧ slots ≤ ms) (hdg : decode cc pc = .ok (.return_, 1)) : W p l e R s m args below meth c H locs cells slots (MQ below (zm_Q G post A) args s mc ms A) (F0 m pc ls []) :=
  W.widen hc.1 hc.2 (W.vret hx hb hr (fun t ht hW => ⟨⟨_, M, rfl, hp, by rw [ht]; exact hM⟩, hS.F ht⟩) hS.2.2 hdg hlk)
theorem zm_aret {r : Option Nat} {rn : String} (hx : p.tables.exec = Jvm.exec) (hb : c.code = cc) (hr : meth.sig.returnType = some (.object rn)) (hlk : meth.locks = false) (hM : zm_P G A M H) (hS : va_S A s.heap H locs) (hp : post (some (va_rf r)) M) (hc : cells ≤ mc ∧ slots ≤ ms) (hdg : decode cc pc = .ok (.areturn, 1)) : W p l e R s m args below meth c H locs cells slots (MQ below (zm_Q G post A) args s mc ms A) (F0 m pc ls [va_rf r]) := by
  refine W.widen hc.1 hc.2 ?_
  exact W.aret hx hb hr (Or.inl ⟨_, rfl⟩) (va_rf_or r) (fun t ht hW => ⟨⟨_, M, rfl, hp, by rw [ht]; exact hM⟩, hS.F ht⟩) hS.2.2 hdg hlk
end ZROWS
end
section
set_option maxRecDepth 20000 in
theorem clk_L_7 : Cond.classLink RL 7 RX5 ∈ wsL_law := (List.mem_of_getElem? (i := 0) (by decide +kernel))
set_option maxRecDepth 20000 in
theorem ml_L_9 : Cond.methodLink RL 9 yX5_init ∈ wsL_law ∧ Cond.instanceMethod yX5_init ∈ wsL_law ∧ yX5_init.name = "<init>" := ⟨(List.mem_of_getElem? (i := 6) (by decide +kernel)), (List.mem_of_getElem? (i := 7) (by decide +kernel)), rfl⟩
set_option maxRecDepth 20000 in
theorem clk_L_10 : Cond.classLink RL 10 RX6 ∈ wsL_law := (List.mem_of_getElem? (i := 3) (by decide +kernel))
set_option maxRecDepth 20000 in
theorem ml_L_12 : Cond.methodLink RL 12 yX6_init ∈ wsL_law ∧ Cond.instanceMethod yX6_init ∈ wsL_law ∧ yX6_init.name = "<init>" := ⟨(List.mem_of_getElem? (i := 18) (by decide +kernel)), (List.mem_of_getElem? (i := 19) (by decide +kernel)), rfl⟩
set_option maxRecDepth 20000 in
theorem ml_L_13 : Cond.methodLink RL 13 yX5_prop ∈ wsL_law ∧ Cond.instanceMethod yX5_prop ∈ wsL_law ∧ Cond.selects RX5 yX5_prop yX5_prop ∈ wsL_law := ⟨(List.mem_of_getElem? (i := 36) (by decide +kernel)), (List.mem_of_getElem? (i := 37) (by decide +kernel)), (List.mem_of_getElem? (i := 38) (by decide +kernel))⟩
set_option maxRecDepth 20000 in
theorem ml_L_17 : Cond.methodLink RL 17 yX6_prop ∈ wsL_law ∧ Cond.instanceMethod yX6_prop ∈ wsL_law ∧ Cond.selects RX6 yX6_prop yX6_prop ∈ wsL_law := ⟨(List.mem_of_getElem? (i := 84) (by decide +kernel)), (List.mem_of_getElem? (i := 85) (by decide +kernel)), (List.mem_of_getElem? (i := 86) (by decide +kernel))⟩
set_option maxRecDepth 20000 in
theorem ml_L_18 : Cond.methodLink RL 18 yX5_set ∈ wsL_law ∧ Cond.instanceMethod yX5_set ∈ wsL_law ∧ Cond.selects RX5 yX5_set yX5_set ∈ wsL_law := ⟨(List.mem_of_getElem? (i := 95) (by decide +kernel)), (List.mem_of_getElem? (i := 96) (by decide +kernel)), (List.mem_of_getElem? (i := 97) (by decide +kernel))⟩
set_option maxRecDepth 20000 in
theorem ml_L_22 : Cond.methodLink RL 22 yX6_set ∈ wsL_law ∧ Cond.instanceMethod yX6_set ∈ wsL_law ∧ Cond.selects RX6 yX6_set yX6_set ∈ wsL_law := ⟨(List.mem_of_getElem? (i := 114) (by decide +kernel)), (List.mem_of_getElem? (i := 115) (by decide +kernel)), (List.mem_of_getElem? (i := 116) (by decide +kernel))⟩
set_option maxRecDepth 20000 in
theorem ml_L_23 : Cond.methodLink RL 23 yX5_slot ∈ wsL_law ∧ Cond.instanceMethod yX5_slot ∈ wsL_law ∧ Cond.selects RX5 yX5_slot yX5_slot ∈ wsL_law := ⟨(List.mem_of_getElem? (i := 127) (by decide +kernel)), (List.mem_of_getElem? (i := 128) (by decide +kernel)), (List.mem_of_getElem? (i := 129) (by decide +kernel))⟩
set_option maxRecDepth 20000 in
theorem ml_L_26 : Cond.methodLink RL 26 yX6_slot ∈ wsL_law ∧ Cond.instanceMethod yX6_slot ∈ wsL_law ∧ Cond.selects RX6 yX6_slot yX6_slot ∈ wsL_law := ⟨(List.mem_of_getElem? (i := 138) (by decide +kernel)), (List.mem_of_getElem? (i := 139) (by decide +kernel)), (List.mem_of_getElem? (i := 140) (by decide +kernel))⟩
set_option maxRecDepth 20000 in
theorem ml_L_27 : Cond.methodLink RL 27 yX5_held ∈ wsL_law ∧ Cond.instanceMethod yX5_held ∈ wsL_law ∧ Cond.selects RX5 yX5_held yX5_held ∈ wsL_law := ⟨(List.mem_of_getElem? (i := 145) (by decide +kernel)), (List.mem_of_getElem? (i := 146) (by decide +kernel)), (List.mem_of_getElem? (i := 147) (by decide +kernel))⟩
set_option maxRecDepth 20000 in
theorem ml_L_31 : Cond.methodLink RL 31 yX6_held ∈ wsL_law ∧ Cond.instanceMethod yX6_held ∈ wsL_law ∧ Cond.selects RX6 yX6_held yX6_held ∈ wsL_law := ⟨(List.mem_of_getElem? (i := 149) (by decide +kernel)), (List.mem_of_getElem? (i := 150) (by decide +kernel)), (List.mem_of_getElem? (i := 151) (by decide +kernel))⟩
set_option maxRecDepth 20000 in
theorem ml_L_32 : Cond.methodLink RL 32 yX5_hand ∈ wsL_law ∧ Cond.instanceMethod yX5_hand ∈ wsL_law ∧ Cond.selects RX5 yX5_hand yX5_hand ∈ wsL_law := ⟨(List.mem_of_getElem? (i := 153) (by decide +kernel)), (List.mem_of_getElem? (i := 154) (by decide +kernel)), (List.mem_of_getElem? (i := 155) (by decide +kernel))⟩
set_option maxRecDepth 20000 in
theorem ml_L_36 : Cond.methodLink RL 36 yX6_hand ∈ wsL_law ∧ Cond.instanceMethod yX6_hand ∈ wsL_law ∧ Cond.selects RX6 yX6_hand yX6_hand ∈ wsL_law := ⟨(List.mem_of_getElem? (i := 158) (by decide +kernel)), (List.mem_of_getElem? (i := 159) (by decide +kernel)), (List.mem_of_getElem? (i := 160) (by decide +kernel))⟩
set_option maxRecDepth 20000 in
theorem ml_L_37 : Cond.methodLink RL 37 yX5_cue ∈ wsL_law ∧ Cond.instanceMethod yX5_cue ∈ wsL_law ∧ Cond.selects RX5 yX5_cue yX5_cue ∈ wsL_law := ⟨(List.mem_of_getElem? (i := 162) (by decide +kernel)), (List.mem_of_getElem? (i := 163) (by decide +kernel)), (List.mem_of_getElem? (i := 164) (by decide +kernel))⟩
set_option maxRecDepth 20000 in
theorem ml_L_41 : Cond.methodLink RL 41 yX6_cue ∈ wsL_law ∧ Cond.instanceMethod yX6_cue ∈ wsL_law ∧ Cond.selects RX6 yX6_cue yX6_cue ∈ wsL_law := ⟨(List.mem_of_getElem? (i := 184) (by decide +kernel)), (List.mem_of_getElem? (i := 185) (by decide +kernel)), (List.mem_of_getElem? (i := 186) (by decide +kernel))⟩
set_option maxRecDepth 20000 in
theorem ml_L_42 : Cond.methodLink RL 42 yX5_strike ∈ wsL_law ∧ Cond.instanceMethod yX5_strike ∈ wsL_law ∧ Cond.selects RX5 yX5_strike yX5_strike ∈ wsL_law := ⟨(List.mem_of_getElem? (i := 198) (by decide +kernel)), (List.mem_of_getElem? (i := 199) (by decide +kernel)), (List.mem_of_getElem? (i := 200) (by decide +kernel))⟩
set_option maxRecDepth 20000 in
theorem ml_L_45 : Cond.methodLink RL 45 yX6_strike ∈ wsL_law ∧ Cond.instanceMethod yX6_strike ∈ wsL_law ∧ Cond.selects RX6 yX6_strike yX6_strike ∈ wsL_law := ⟨(List.mem_of_getElem? (i := 202) (by decide +kernel)), (List.mem_of_getElem? (i := 203) (by decide +kernel)), (List.mem_of_getElem? (i := 204) (by decide +kernel))⟩
set_option maxRecDepth 20000 in
theorem ml_L_46 : Cond.methodLink RL 46 yX5_play ∈ wsL_law ∧ Cond.instanceMethod yX5_play ∈ wsL_law ∧ Cond.selects RX5 yX5_play yX5_play ∈ wsL_law := ⟨(List.mem_of_getElem? (i := 206) (by decide +kernel)), (List.mem_of_getElem? (i := 207) (by decide +kernel)), (List.mem_of_getElem? (i := 208) (by decide +kernel))⟩
set_option maxRecDepth 20000 in
theorem ml_L_49 : Cond.methodLink RL 49 yX6_play ∈ wsL_law ∧ Cond.instanceMethod yX6_play ∈ wsL_law ∧ Cond.selects RX6 yX6_play yX6_play ∈ wsL_law := ⟨(List.mem_of_getElem? (i := 283) (by decide +kernel)), (List.mem_of_getElem? (i := 284) (by decide +kernel)), (List.mem_of_getElem? (i := 285) (by decide +kernel))⟩
set_option maxRecDepth 20000 in
theorem ml_L_50 : Cond.methodLink RL 50 yX5_miscue ∈ wsL_law ∧ Cond.instanceMethod yX5_miscue ∈ wsL_law ∧ Cond.selects RX5 yX5_miscue yX5_miscue ∈ wsL_law := ⟨(List.mem_of_getElem? (i := 339) (by decide +kernel)), (List.mem_of_getElem? (i := 340) (by decide +kernel)), (List.mem_of_getElem? (i := 341) (by decide +kernel))⟩
set_option maxRecDepth 20000 in
theorem ml_L_53 : Cond.methodLink RL 53 yX6_miscue ∈ wsL_law ∧ Cond.instanceMethod yX6_miscue ∈ wsL_law ∧ Cond.selects RX6 yX6_miscue yX6_miscue ∈ wsL_law := ⟨(List.mem_of_getElem? (i := 343) (by decide +kernel)), (List.mem_of_getElem? (i := 344) (by decide +kernel)), (List.mem_of_getElem? (i := 345) (by decide +kernel))⟩
set_option maxRecDepth 20000 in
theorem ml_L_54 : Cond.methodLink RL 54 yX5_points ∈ wsL_law ∧ Cond.instanceMethod yX5_points ∈ wsL_law ∧ Cond.selects RX5 yX5_points yX5_points ∈ wsL_law := ⟨(List.mem_of_getElem? (i := 347) (by decide +kernel)), (List.mem_of_getElem? (i := 348) (by decide +kernel)), (List.mem_of_getElem? (i := 349) (by decide +kernel))⟩
set_option maxRecDepth 20000 in
theorem ml_L_58 : Cond.methodLink RL 58 yX6_points ∈ wsL_law ∧ Cond.instanceMethod yX6_points ∈ wsL_law ∧ Cond.selects RX6 yX6_points yX6_points ∈ wsL_law := ⟨(List.mem_of_getElem? (i := 351) (by decide +kernel)), (List.mem_of_getElem? (i := 352) (by decide +kernel)), (List.mem_of_getElem? (i := 353) (by decide +kernel))⟩
set_option maxRecDepth 20000 in
theorem ml_L_59 : Cond.methodLink RL 59 yX5_is ∈ wsL_law ∧ Cond.instanceMethod yX5_is ∈ wsL_law ∧ Cond.selects RX5 yX5_is yX5_is ∈ wsL_law := ⟨(List.mem_of_getElem? (i := 355) (by decide +kernel)), (List.mem_of_getElem? (i := 356) (by decide +kernel)), (List.mem_of_getElem? (i := 357) (by decide +kernel))⟩
set_option maxRecDepth 20000 in
theorem ml_L_62 : Cond.methodLink RL 62 yX6_is ∈ wsL_law ∧ Cond.instanceMethod yX6_is ∈ wsL_law ∧ Cond.selects RX6 yX6_is yX6_is ∈ wsL_law := ⟨(List.mem_of_getElem? (i := 359) (by decide +kernel)), (List.mem_of_getElem? (i := 360) (by decide +kernel)), (List.mem_of_getElem? (i := 361) (by decide +kernel))⟩
set_option maxRecDepth 20000 in
theorem ml_L_63 : Cond.methodLink RL 63 yX5_worth ∈ wsL_law ∧ Cond.instanceMethod yX5_worth ∈ wsL_law ∧ Cond.selects RX5 yX5_worth yX5_worth ∈ wsL_law := ⟨(List.mem_of_getElem? (i := 363) (by decide +kernel)), (List.mem_of_getElem? (i := 364) (by decide +kernel)), (List.mem_of_getElem? (i := 365) (by decide +kernel))⟩
set_option maxRecDepth 20000 in
theorem ml_L_67 : Cond.methodLink RL 67 yX6_worth ∈ wsL_law ∧ Cond.instanceMethod yX6_worth ∈ wsL_law ∧ Cond.selects RX6 yX6_worth yX6_worth ∈ wsL_law := ⟨(List.mem_of_getElem? (i := 367) (by decide +kernel)), (List.mem_of_getElem? (i := 368) (by decide +kernel)), (List.mem_of_getElem? (i := 369) (by decide +kernel))⟩
set_option maxRecDepth 20000 in
theorem ml_L_68 : Cond.methodLink RL 68 yX5_wear ∈ wsL_law ∧ Cond.instanceMethod yX5_wear ∈ wsL_law ∧ Cond.selects RX5 yX5_wear yX5_wear ∈ wsL_law := ⟨(List.mem_of_getElem? (i := 371) (by decide +kernel)), (List.mem_of_getElem? (i := 372) (by decide +kernel)), (List.mem_of_getElem? (i := 373) (by decide +kernel))⟩
set_option maxRecDepth 20000 in
theorem ml_L_71 : Cond.methodLink RL 71 yX6_wear ∈ wsL_law ∧ Cond.instanceMethod yX6_wear ∈ wsL_law ∧ Cond.selects RX6 yX6_wear yX6_wear ∈ wsL_law := ⟨(List.mem_of_getElem? (i := 378) (by decide +kernel)), (List.mem_of_getElem? (i := 379) (by decide +kernel)), (List.mem_of_getElem? (i := 380) (by decide +kernel))⟩
set_option maxRecDepth 20000 in
theorem ml_L_72 : Cond.methodLink RL 72 yX5_at ∈ wsL_law ∧ Cond.instanceMethod yX5_at ∈ wsL_law ∧ Cond.selects RX5 yX5_at yX5_at ∈ wsL_law := ⟨(List.mem_of_getElem? (i := 382) (by decide +kernel)), (List.mem_of_getElem? (i := 383) (by decide +kernel)), (List.mem_of_getElem? (i := 384) (by decide +kernel))⟩
set_option maxRecDepth 20000 in
theorem ml_L_75 : Cond.methodLink RL 75 yX6_at ∈ wsL_law ∧ Cond.instanceMethod yX6_at ∈ wsL_law ∧ Cond.selects RX6 yX6_at yX6_at ∈ wsL_law := ⟨(List.mem_of_getElem? (i := 386) (by decide +kernel)), (List.mem_of_getElem? (i := 387) (by decide +kernel)), (List.mem_of_getElem? (i := 388) (by decide +kernel))⟩
set_option maxRecDepth 20000 in
theorem ml_L_76 : Cond.methodLink RL 76 yX5_count ∈ wsL_law ∧ Cond.instanceMethod yX5_count ∈ wsL_law ∧ Cond.selects RX5 yX5_count yX5_count ∈ wsL_law := ⟨(List.mem_of_getElem? (i := 390) (by decide +kernel)), (List.mem_of_getElem? (i := 391) (by decide +kernel)), (List.mem_of_getElem? (i := 392) (by decide +kernel))⟩
set_option maxRecDepth 20000 in
theorem ml_L_79 : Cond.methodLink RL 79 yX6_count ∈ wsL_law ∧ Cond.instanceMethod yX6_count ∈ wsL_law ∧ Cond.selects RX6 yX6_count yX6_count ∈ wsL_law := ⟨(List.mem_of_getElem? (i := 394) (by decide +kernel)), (List.mem_of_getElem? (i := 395) (by decide +kernel)), (List.mem_of_getElem? (i := 396) (by decide +kernel))⟩
set_option maxRecDepth 20000 in
theorem ml_X0_1 : Cond.methodLink RX0 1 objectInit ∈ wsL_law := (List.mem_of_getElem? (i := 179) (by decide +kernel))
set_option maxRecDepth 20000 in
theorem fl_X0_7_0 : zm_fl RX0 7 0 0 := ⟨RX0, TX0, 4, "PropStore$Cue", rfl, inlX0, by decide, (List.mem_of_getElem? (i := 180) (by decide +kernel)), Or.inl rfl⟩
set_option maxRecDepth 20000 in
theorem fp_X0_7_0 : zm_fp RX0 7 0 0 .int true := ⟨RX0, TX0, 4, tyX0, rfl, inlX0, tyX0_ok, nmX0, by decide, (List.mem_of_getElem? (i := 180) (by decide +kernel)), rfl, fun _ => rfl, by decide +kernel⟩
set_option maxRecDepth 20000 in
theorem fl_X0_13_0 : zm_fl RX0 13 0 1 := ⟨RX0, TX0, 4, "PropStore$Cue", rfl, inlX0, by decide, (List.mem_of_getElem? (i := 181) (by decide +kernel)), Or.inl rfl⟩
set_option maxRecDepth 20000 in
theorem fp_X0_13_0 : zm_fp RX0 13 0 1 .int true := ⟨RX0, TX0, 4, tyX0, rfl, inlX0, tyX0_ok, nmX0, by decide, (List.mem_of_getElem? (i := 181) (by decide +kernel)), rfl, fun _ => rfl, by decide +kernel⟩
set_option maxRecDepth 20000 in
theorem fl_X0_16_0 : zm_fl RX0 16 0 2 := ⟨RX0, TX0, 4, "PropStore$Cue", rfl, inlX0, by decide, (List.mem_of_getElem? (i := 182) (by decide +kernel)), Or.inl rfl⟩
set_option maxRecDepth 20000 in
theorem fp_X0_16_0 : zm_fp RX0 16 0 2 .int true := ⟨RX0, TX0, 4, tyX0, rfl, inlX0, tyX0_ok, nmX0, by decide, (List.mem_of_getElem? (i := 182) (by decide +kernel)), rfl, fun _ => rfl, by decide +kernel⟩
set_option maxRecDepth 20000 in
theorem fl_X0_19_0 : zm_fl RX0 19 0 3 := ⟨RX0, TX0, 4, "PropStore$Cue", rfl, inlX0, by decide, (List.mem_of_getElem? (i := 183) (by decide +kernel)), Or.inl rfl⟩
set_option maxRecDepth 20000 in
theorem fp_X0_19_0 : zm_fp RX0 19 0 3 .int true := ⟨RX0, TX0, 4, tyX0, rfl, inlX0, tyX0_ok, nmX0, by decide, (List.mem_of_getElem? (i := 183) (by decide +kernel)), rfl, fun _ => rfl, by decide +kernel⟩
set_option maxRecDepth 20000 in
theorem ml_X1_3 : Cond.methodLink RX1 3 yX3_init ∈ wsL_law ∧ Cond.instanceMethod yX3_init ∈ wsL_law ∧ yX3_init.name = "<init>" := ⟨(List.mem_of_getElem? (i := 83) (by decide +kernel)), (List.mem_of_getElem? (i := 64) (by decide +kernel)), rfl⟩
set_option maxRecDepth 20000 in
theorem fl_X1_9_1 : zm_fl RX1 9 1 2 := ⟨RX1, TX1, 3, "PropStore$Numbers", rfl, inlX1, by decide, (List.mem_of_getElem? (i := 82) (by decide +kernel)), Or.inl rfl⟩
set_option maxRecDepth 20000 in
theorem fp_X1_9_1 : zm_fp RX1 9 1 2 (.array .long) true := ⟨RX1, TX1, 3, tyX1, rfl, inlX1, tyX1_ok, nmX1, by decide, (List.mem_of_getElem? (i := 82) (by decide +kernel)), rfl, fun _ => rfl, by decide +kernel⟩
set_option maxRecDepth 20000 in
theorem ml_X1_15 : Cond.methodLink RX1 15 yX1_cut ∈ wsL_law ∧ Cond.instanceMethod yX1_cut ∈ wsL_law ∧ Cond.selects RX1 yX1_cut yX1_cut ∈ wsL_law := ⟨(List.mem_of_getElem? (i := 108) (by decide +kernel)), (List.mem_of_getElem? (i := 109) (by decide +kernel)), (List.mem_of_getElem? (i := 110) (by decide +kernel))⟩
set_option maxRecDepth 20000 in
theorem fl_X1_19_1 : zm_fl RX1 19 1 1 := ⟨RX1, TX1, 3, "PropStore$Numbers", rfl, inlX1, by decide, (List.mem_of_getElem? (i := 112) (by decide +kernel)), Or.inr (List.mem_of_getElem? (i := 113) (by decide +kernel))⟩
set_option maxRecDepth 20000 in
theorem ml_X2_3 : Cond.methodLink RX2 3 yX3_init ∈ wsL_law ∧ Cond.instanceMethod yX3_init ∈ wsL_law ∧ yX3_init.name = "<init>" := ⟨(List.mem_of_getElem? (i := 63) (by decide +kernel)), (List.mem_of_getElem? (i := 64) (by decide +kernel)), rfl⟩
set_option maxRecDepth 20000 in
theorem fl_X2_9_2 : zm_fl RX2 9 2 2 := ⟨RX2, TX2, 4, "PropStore$Piece", rfl, inlX2, by decide, (List.mem_of_getElem? (i := 62) (by decide +kernel)), Or.inl rfl⟩
set_option maxRecDepth 20000 in
theorem fp_X2_9_2 : zm_fp RX2 9 2 2 .int true := ⟨RX2, TX2, 4, tyX2, rfl, inlX2, tyX2_ok, nmX2, by decide, (List.mem_of_getElem? (i := 62) (by decide +kernel)), rfl, fun _ => rfl, by decide +kernel⟩
set_option maxRecDepth 20000 in
theorem fl_X2_15_2 : zm_fl RX2 15 2 3 := ⟨RX2, TX2, 4, "PropStore$Piece", rfl, inlX2, by decide, (List.mem_of_getElem? (i := 238) (by decide +kernel)), Or.inl rfl⟩
set_option maxRecDepth 20000 in
theorem fp_X2_15_2 : zm_fp RX2 15 2 3 .int false := ⟨RX2, TX2, 4, tyX2, rfl, inlX2, tyX2_ok, nmX2, by decide, (List.mem_of_getElem? (i := 238) (by decide +kernel)), rfl, fun h => (by cases h), by decide +kernel⟩
set_option maxRecDepth 20000 in
theorem fl_X2_22_2 : zm_fl RX2 22 2 1 := ⟨RX2, TX2, 4, "PropStore$Piece", rfl, inlX2, by decide, (List.mem_of_getElem? (i := 241) (by decide +kernel)), Or.inr (List.mem_of_getElem? (i := 242) (by decide +kernel))⟩
set_option maxRecDepth 20000 in
theorem ml_X3_1 : Cond.methodLink RX3 1 objectInit ∈ wsL_law := (List.mem_of_getElem? (i := 67) (by decide +kernel))
set_option maxRecDepth 20000 in
theorem fl_X3_7_1 : zm_fl RX3 7 1 0 := ⟨RX1, TX1, 3, "PropStore$Prop", rfl, inlX1, by decide, (List.mem_of_getElem? (i := 68) (by decide +kernel)), Or.inl rfl⟩
set_option maxRecDepth 20000 in
theorem fp_X3_7_1 : zm_fp RX3 7 1 0 .int true := ⟨RX1, TX1, 3, tyX1, rfl, inlX1, tyX1_ok, nmX1, by decide, (List.mem_of_getElem? (i := 68) (by decide +kernel)), rfl, fun _ => rfl, by decide +kernel⟩
set_option maxRecDepth 20000 in
theorem fl_X3_7_2 : zm_fl RX3 7 2 0 := ⟨RX2, TX2, 4, "PropStore$Prop", rfl, inlX2, by decide, (List.mem_of_getElem? (i := 68) (by decide +kernel)), Or.inl rfl⟩
set_option maxRecDepth 20000 in
theorem fp_X3_7_2 : zm_fp RX3 7 2 0 .int true := ⟨RX2, TX2, 4, tyX2, rfl, inlX2, tyX2_ok, nmX2, by decide, (List.mem_of_getElem? (i := 68) (by decide +kernel)), rfl, fun _ => rfl, by decide +kernel⟩
set_option maxRecDepth 20000 in
theorem fl_X3_7_3 : zm_fl RX3 7 3 0 := ⟨RX4, TX4, 3, "PropStore$Prop", rfl, inlX4, by decide, (List.mem_of_getElem? (i := 68) (by decide +kernel)), Or.inl rfl⟩
set_option maxRecDepth 20000 in
theorem fp_X3_7_3 : zm_fp RX3 7 3 0 .int true := ⟨RX4, TX4, 3, tyX4, rfl, inlX4, tyX4_ok, nmX4, by decide, (List.mem_of_getElem? (i := 68) (by decide +kernel)), rfl, fun _ => rfl, by decide +kernel⟩
set_option maxRecDepth 20000 in
theorem fl_X3_13_1 : zm_fl RX3 13 1 1 := ⟨RX1, TX1, 3, "PropStore$Prop", rfl, inlX1, by decide, (List.mem_of_getElem? (i := 69) (by decide +kernel)), Or.inl rfl⟩
set_option maxRecDepth 20000 in
theorem fp_X3_13_1 : zm_fp RX3 13 1 1 .int true := ⟨RX1, TX1, 3, tyX1, rfl, inlX1, tyX1_ok, nmX1, by decide, (List.mem_of_getElem? (i := 69) (by decide +kernel)), rfl, fun _ => rfl, by decide +kernel⟩
set_option maxRecDepth 20000 in
theorem fl_X3_13_2 : zm_fl RX3 13 2 1 := ⟨RX2, TX2, 4, "PropStore$Prop", rfl, inlX2, by decide, (List.mem_of_getElem? (i := 69) (by decide +kernel)), Or.inl rfl⟩
set_option maxRecDepth 20000 in
theorem fp_X3_13_2 : zm_fp RX3 13 2 1 .int true := ⟨RX2, TX2, 4, tyX2, rfl, inlX2, tyX2_ok, nmX2, by decide, (List.mem_of_getElem? (i := 69) (by decide +kernel)), rfl, fun _ => rfl, by decide +kernel⟩
set_option maxRecDepth 20000 in
theorem fl_X3_13_3 : zm_fl RX3 13 3 1 := ⟨RX4, TX4, 3, "PropStore$Prop", rfl, inlX4, by decide, (List.mem_of_getElem? (i := 69) (by decide +kernel)), Or.inl rfl⟩
set_option maxRecDepth 20000 in
theorem fp_X3_13_3 : zm_fp RX3 13 3 1 .int true := ⟨RX4, TX4, 3, tyX4, rfl, inlX4, tyX4_ok, nmX4, by decide, (List.mem_of_getElem? (i := 69) (by decide +kernel)), rfl, fun _ => rfl, by decide +kernel⟩
set_option maxRecDepth 20000 in
theorem ml_X4_1 : Cond.methodLink RX4 1 yX3_init ∈ wsL_law ∧ Cond.instanceMethod yX3_init ∈ wsL_law ∧ yX3_init.name = "<init>" := ⟨(List.mem_of_getElem? (i := 78) (by decide +kernel)), (List.mem_of_getElem? (i := 64) (by decide +kernel)), rfl⟩
set_option maxRecDepth 20000 in
theorem clk_X4_2 : Cond.classLink RX4 2 RX3 ∈ wsL_law := (List.mem_of_getElem? (i := 76) (by decide +kernel))
set_option maxRecDepth 20000 in
theorem fl_X4_7_3 : zm_fl RX4 7 3 2 := ⟨RX4, TX4, 3, "PropStore$Row", rfl, inlX4, by decide, (List.mem_of_getElem? (i := 77) (by decide +kernel)), Or.inl rfl⟩
set_option maxRecDepth 20000 in
theorem fp_X4_7_3 : zm_fp RX4 7 3 2 (.array (.object "PropStore$Prop")) true := ⟨RX4, TX4, 3, tyX4, rfl, inlX4, tyX4_ok, nmX4, by decide, (List.mem_of_getElem? (i := 77) (by decide +kernel)), rfl, fun _ => rfl, by decide +kernel⟩
set_option maxRecDepth 20000 in
theorem mu_X4_23_1 : Cond.methodLink RX4 23 ⟨"PropStore$Prop", "worthBy", "(I)J"⟩ ∈ wsL_law ∧ Cond.sameMethod "PropStore$Prop" "PropStore$Prop" "worthBy" "(I)J" ∈ wsL_law ∧ Cond.selects RX1 ⟨"PropStore$Prop", "worthBy", "(I)J"⟩ yX1_worthBy ∈ wsL_law ∧ Cond.instanceMethod yX1_worthBy ∈ wsL_law ∧ Cond.declares ⟨"PropStore$Prop", "worthBy", "(I)J"⟩ ∈ zm_nws := ⟨(List.mem_of_getElem? (i := 250) (by decide +kernel)), (List.mem_of_getElem? (i := 231) (by decide +kernel)), (List.mem_of_getElem? (i := 232) (by decide +kernel)), (List.mem_of_getElem? (i := 233) (by decide +kernel)), by decide +kernel⟩
set_option maxRecDepth 20000 in
theorem mu_X4_23_2 : Cond.methodLink RX4 23 ⟨"PropStore$Prop", "worthBy", "(I)J"⟩ ∈ wsL_law ∧ Cond.sameMethod "PropStore$Prop" "PropStore$Prop" "worthBy" "(I)J" ∈ wsL_law ∧ Cond.selects RX2 ⟨"PropStore$Prop", "worthBy", "(I)J"⟩ yX2_worthBy ∈ wsL_law ∧ Cond.instanceMethod yX2_worthBy ∈ wsL_law ∧ Cond.declares ⟨"PropStore$Prop", "worthBy", "(I)J"⟩ ∈ zm_nws := ⟨(List.mem_of_getElem? (i := 250) (by decide +kernel)), (List.mem_of_getElem? (i := 231) (by decide +kernel)), (List.mem_of_getElem? (i := 235) (by decide +kernel)), (List.mem_of_getElem? (i := 236) (by decide +kernel)), by decide +kernel⟩
set_option maxRecDepth 20000 in
theorem mu_X4_23_3 : Cond.methodLink RX4 23 ⟨"PropStore$Prop", "worthBy", "(I)J"⟩ ∈ wsL_law ∧ Cond.sameMethod "PropStore$Prop" "PropStore$Prop" "worthBy" "(I)J" ∈ wsL_law ∧ Cond.selects RX4 ⟨"PropStore$Prop", "worthBy", "(I)J"⟩ yX4_worthBy ∈ wsL_law ∧ Cond.instanceMethod yX4_worthBy ∈ wsL_law ∧ Cond.declares ⟨"PropStore$Prop", "worthBy", "(I)J"⟩ ∈ zm_nws := ⟨(List.mem_of_getElem? (i := 250) (by decide +kernel)), (List.mem_of_getElem? (i := 231) (by decide +kernel)), (List.mem_of_getElem? (i := 244) (by decide +kernel)), (List.mem_of_getElem? (i := 245) (by decide +kernel)), by decide +kernel⟩
set_option maxRecDepth 20000 in
theorem mu_X4_27_1 : Cond.methodLink RX4 27 ⟨"PropStore$Prop", "putOn", "(I)V"⟩ ∈ wsL_law ∧ Cond.sameMethod "PropStore$Prop" "PropStore$Prop" "putOn" "(I)V" ∈ wsL_law ∧ Cond.selects RX1 ⟨"PropStore$Prop", "putOn", "(I)V"⟩ yX1_putOn ∈ wsL_law ∧ Cond.instanceMethod yX1_putOn ∈ wsL_law ∧ Cond.declares ⟨"PropStore$Prop", "putOn", "(I)V"⟩ ∈ zm_nws := ⟨(List.mem_of_getElem? (i := 265) (by decide +kernel)), (List.mem_of_getElem? (i := 255) (by decide +kernel)), (List.mem_of_getElem? (i := 256) (by decide +kernel)), (List.mem_of_getElem? (i := 257) (by decide +kernel)), by decide +kernel⟩
set_option maxRecDepth 20000 in
theorem mu_X4_27_2 : Cond.methodLink RX4 27 ⟨"PropStore$Prop", "putOn", "(I)V"⟩ ∈ wsL_law ∧ Cond.sameMethod "PropStore$Prop" "PropStore$Prop" "putOn" "(I)V" ∈ wsL_law ∧ Cond.selects RX2 ⟨"PropStore$Prop", "putOn", "(I)V"⟩ yX2_putOn ∈ wsL_law ∧ Cond.instanceMethod yX2_putOn ∈ wsL_law ∧ Cond.declares ⟨"PropStore$Prop", "putOn", "(I)V"⟩ ∈ zm_nws := ⟨(List.mem_of_getElem? (i := 265) (by decide +kernel)), (List.mem_of_getElem? (i := 255) (by decide +kernel)), (List.mem_of_getElem? (i := 259) (by decide +kernel)), (List.mem_of_getElem? (i := 260) (by decide +kernel)), by decide +kernel⟩
set_option maxRecDepth 20000 in
theorem mu_X4_27_3 : Cond.methodLink RX4 27 ⟨"PropStore$Prop", "putOn", "(I)V"⟩ ∈ wsL_law ∧ Cond.sameMethod "PropStore$Prop" "PropStore$Prop" "putOn" "(I)V" ∈ wsL_law ∧ Cond.selects RX4 ⟨"PropStore$Prop", "putOn", "(I)V"⟩ yX4_putOn ∈ wsL_law ∧ Cond.instanceMethod yX4_putOn ∈ wsL_law ∧ Cond.declares ⟨"PropStore$Prop", "putOn", "(I)V"⟩ ∈ zm_nws := ⟨(List.mem_of_getElem? (i := 265) (by decide +kernel)), (List.mem_of_getElem? (i := 255) (by decide +kernel)), (List.mem_of_getElem? (i := 262) (by decide +kernel)), (List.mem_of_getElem? (i := 263) (by decide +kernel)), by decide +kernel⟩
set_option maxRecDepth 20000 in
theorem ml_X5_3 : Cond.methodLink RX5 3 objectInit ∈ wsL_law := (List.mem_of_getElem? (i := 9) (by decide +kernel))
set_option maxRecDepth 20000 in
theorem clk_X5_9 : Cond.classLink RX5 9 RX3 ∈ wsL_law := (List.mem_of_getElem? (i := 12) (by decide +kernel))
set_option maxRecDepth 20000 in
theorem fl_X5_11_4 : zm_fl RX5 11 4 0 := ⟨RX5, TX5, 10, "PropStore", rfl, inlX5, by decide, (List.mem_of_getElem? (i := 13) (by decide +kernel)), Or.inl rfl⟩
set_option maxRecDepth 20000 in
theorem fp_X5_11_4 : zm_fp RX5 11 4 0 (.array (.object "PropStore$Prop")) true := ⟨RX5, TX5, 10, tyX5, rfl, inlX5, tyX5_ok, nmX5, by decide, (List.mem_of_getElem? (i := 13) (by decide +kernel)), rfl, fun _ => rfl, by decide +kernel⟩
set_option maxRecDepth 20000 in
theorem fl_X5_15_4 : zm_fl RX5 15 4 2 := ⟨RX5, TX5, 10, "PropStore", rfl, inlX5, by decide, (List.mem_of_getElem? (i := 14) (by decide +kernel)), Or.inl rfl⟩
set_option maxRecDepth 20000 in
theorem fp_X5_15_4 : zm_fp RX5 15 4 2 (.array (.object "PropStore$Prop")) true := ⟨RX5, TX5, 10, tyX5, rfl, inlX5, tyX5_ok, nmX5, by decide, (List.mem_of_getElem? (i := 14) (by decide +kernel)), rfl, fun _ => rfl, by decide +kernel⟩
set_option maxRecDepth 20000 in
theorem clk_X5_18 : Cond.classLink RX5 18 RX0 ∈ wsL_law := (List.mem_of_getElem? (i := 15) (by decide +kernel))
set_option maxRecDepth 20000 in
theorem fl_X5_20_4 : zm_fl RX5 20 4 4 := ⟨RX5, TX5, 10, "PropStore", rfl, inlX5, by decide, (List.mem_of_getElem? (i := 16) (by decide +kernel)), Or.inl rfl⟩
set_option maxRecDepth 20000 in
theorem fp_X5_20_4 : zm_fp RX5 20 4 4 (.array (.object "PropStore$Cue")) true := ⟨RX5, TX5, 10, tyX5, rfl, inlX5, tyX5_ok, nmX5, by decide, (List.mem_of_getElem? (i := 16) (by decide +kernel)), rfl, fun _ => rfl, by decide +kernel⟩
set_option maxRecDepth 20000 in
theorem fl_X5_24_4 : zm_fl RX5 24 4 8 := ⟨RX5, TX5, 10, "PropStore", rfl, inlX5, by decide, (List.mem_of_getElem? (i := 17) (by decide +kernel)), Or.inl rfl⟩
set_option maxRecDepth 20000 in
theorem fp_X5_24_4 : zm_fp RX5 24 4 8 .int false := ⟨RX5, TX5, 10, tyX5, rfl, inlX5, tyX5_ok, nmX5, by decide, (List.mem_of_getElem? (i := 17) (by decide +kernel)), rfl, fun h => (by cases h), by decide +kernel⟩
set_option maxRecDepth 20000 in
theorem ml_X5_28 : Cond.methodLink RX5 28 yX5_mostOf ∈ wsL_law ∧ Cond.static yX5_mostOf ∈ wsL_law := ⟨(List.mem_of_getElem? (i := 41) (by decide +kernel)), (List.mem_of_getElem? (i := 42) (by decide +kernel))⟩
set_option maxRecDepth 20000 in
theorem fl_X5_32_4 : zm_fl RX5 32 4 1 := ⟨RX5, TX5, 10, "PropStore", rfl, inlX5, by decide, (List.mem_of_getElem? (i := 40) (by decide +kernel)), Or.inl rfl⟩
set_option maxRecDepth 20000 in
theorem fp_X5_32_4 : zm_fp RX5 32 4 1 .int false := ⟨RX5, TX5, 10, tyX5, rfl, inlX5, tyX5_ok, nmX5, by decide, (List.mem_of_getElem? (i := 40) (by decide +kernel)), rfl, fun h => (by cases h), by decide +kernel⟩
set_option maxRecDepth 20000 in
theorem ml_X5_35 : Cond.methodLink RX5 35 yX5_newProp ∈ wsL_law ∧ Cond.static yX5_newProp ∈ wsL_law := ⟨(List.mem_of_getElem? (i := 47) (by decide +kernel)), (List.mem_of_getElem? (i := 48) (by decide +kernel))⟩
set_option maxRecDepth 20000 in
theorem ml_X5_39 : Cond.methodLink RX5 39 yX5_find ∈ wsL_law ∧ Cond.instanceMethod yX5_find ∈ wsL_law ∧ Cond.selects RX5 yX5_find yX5_find ∈ wsL_law := ⟨(List.mem_of_getElem? (i := 100) (by decide +kernel)), (List.mem_of_getElem? (i := 101) (by decide +kernel)), (List.mem_of_getElem? (i := 102) (by decide +kernel))⟩
set_option maxRecDepth 20000 in
theorem clk_X5_43 : Cond.classLink RX5 43 RX1 ∈ wsL_law := (List.mem_of_getElem? (i := 56) (by decide +kernel))
set_option maxRecDepth 20000 in
theorem ml_X5_45 : Cond.methodLink RX5 45 yX1_put ∈ wsL_law ∧ Cond.instanceMethod yX1_put ∈ wsL_law ∧ Cond.selects RX1 yX1_put yX1_put ∈ wsL_law := ⟨(List.mem_of_getElem? (i := 104) (by decide +kernel)), (List.mem_of_getElem? (i := 105) (by decide +kernel)), (List.mem_of_getElem? (i := 106) (by decide +kernel))⟩
set_option maxRecDepth 20000 in
theorem ml_X5_49 : Cond.methodLink RX5 49 yX5_isSlot ∈ wsL_law ∧ Cond.static yX5_isSlot ∈ wsL_law := ⟨(List.mem_of_getElem? (i := 131) (by decide +kernel)), (List.mem_of_getElem? (i := 132) (by decide +kernel))⟩
set_option maxRecDepth 20000 in
theorem ml_X5_53 : Cond.methodLink RX5 53 yX5_numberOf ∈ wsL_law ∧ Cond.static yX5_numberOf ∈ wsL_law := ⟨(List.mem_of_getElem? (i := 134) (by decide +kernel)), (List.mem_of_getElem? (i := 135) (by decide +kernel))⟩
set_option maxRecDepth 20000 in
theorem fl_X5_57_4 : zm_fl RX5 57 4 3 := ⟨RX5, TX5, 10, "PropStore", rfl, inlX5, by decide, (List.mem_of_getElem? (i := 157) (by decide +kernel)), Or.inl rfl⟩
set_option maxRecDepth 20000 in
theorem fp_X5_57_4 : zm_fp RX5 57 4 3 (.object "PropStore$Prop") false := ⟨RX5, TX5, 10, tyX5, rfl, inlX5, tyX5_ok, nmX5, by decide, (List.mem_of_getElem? (i := 157) (by decide +kernel)), rfl, fun h => (by cases h), by decide +kernel⟩
set_option maxRecDepth 20000 in
theorem ml_X5_61 : Cond.methodLink RX5 61 yX5_isView ∈ wsL_law ∧ Cond.static yX5_isView ∈ wsL_law := ⟨(List.mem_of_getElem? (i := 170) (by decide +kernel)), (List.mem_of_getElem? (i := 171) (by decide +kernel))⟩
set_option maxRecDepth 20000 in
theorem ml_X5_68 : Cond.methodLink RX5 68 yX5_isAmong ∈ wsL_law ∧ Cond.static yX5_isAmong ∈ wsL_law := ⟨(List.mem_of_getElem? (i := 173) (by decide +kernel)), (List.mem_of_getElem? (i := 174) (by decide +kernel))⟩
set_option maxRecDepth 20000 in
theorem fl_X5_71_4 : zm_fl RX5 71 4 5 := ⟨RX5, TX5, 10, "PropStore", rfl, inlX5, by decide, (List.mem_of_getElem? (i := 167) (by decide +kernel)), Or.inl rfl⟩
set_option maxRecDepth 20000 in
theorem fp_X5_71_4 : zm_fp RX5 71 4 5 .int false := ⟨RX5, TX5, 10, tyX5, rfl, inlX5, tyX5_ok, nmX5, by decide, (List.mem_of_getElem? (i := 167) (by decide +kernel)), rfl, fun h => (by cases h), by decide +kernel⟩
set_option maxRecDepth 20000 in
theorem ml_X5_74 : Cond.methodLink RX5 74 yX0_init ∈ wsL_law ∧ Cond.instanceMethod yX0_init ∈ wsL_law ∧ yX0_init.name = "<init>" := ⟨(List.mem_of_getElem? (i := 176) (by decide +kernel)), (List.mem_of_getElem? (i := 177) (by decide +kernel)), rfl⟩
set_option maxRecDepth 20000 in
theorem fl_X5_77_4 : zm_fl RX5 77 4 7 := ⟨RX5, TX5, 10, "PropStore", rfl, inlX5, by decide, (List.mem_of_getElem? (i := 210) (by decide +kernel)), Or.inl rfl⟩
set_option maxRecDepth 20000 in
theorem fp_X5_77_4 : zm_fp RX5 77 4 7 .int false := ⟨RX5, TX5, 10, tyX5, rfl, inlX5, tyX5_ok, nmX5, by decide, (List.mem_of_getElem? (i := 210) (by decide +kernel)), rfl, fun h => (by cases h), by decide +kernel⟩
set_option maxRecDepth 20000 in
theorem ml_X5_80 : Cond.methodLink RX5 80 yX5_perform ∈ wsL_law ∧ Cond.instanceMethod yX5_perform ∈ wsL_law ∧ Cond.selects RX5 yX5_perform yX5_perform ∈ wsL_law := ⟨(List.mem_of_getElem? (i := 212) (by decide +kernel)), (List.mem_of_getElem? (i := 213) (by decide +kernel)), (List.mem_of_getElem? (i := 214) (by decide +kernel))⟩
set_option maxRecDepth 20000 in
theorem fl_X5_84_4 : zm_fl RX5 84 4 9 := ⟨RX5, TX5, 10, "PropStore", rfl, inlX5, by decide, (List.mem_of_getElem? (i := 211) (by decide +kernel)), Or.inl rfl⟩
set_option maxRecDepth 20000 in
theorem fp_X5_84_4 : zm_fp RX5 84 4 9 .int false := ⟨RX5, TX5, 10, tyX5, rfl, inlX5, tyX5_ok, nmX5, by decide, (List.mem_of_getElem? (i := 211) (by decide +kernel)), rfl, fun h => (by cases h), by decide +kernel⟩
set_option maxRecDepth 20000 in
theorem fl_X5_87_4 : zm_fl RX5 87 4 6 := ⟨RX5, TX5, 10, "PropStore", rfl, inlX5, by decide, (List.mem_of_getElem? (i := 229) (by decide +kernel)), Or.inl rfl⟩
set_option maxRecDepth 20000 in
theorem fp_X5_87_4 : zm_fp RX5 87 4 6 .long false := ⟨RX5, TX5, 10, tyX5, rfl, inlX5, tyX5_ok, nmX5, by decide, (List.mem_of_getElem? (i := 229) (by decide +kernel)), rfl, fun h => (by cases h), by decide +kernel⟩
set_option maxRecDepth 20000 in
theorem ml_X5_91 : Cond.methodLink RX5 91 yX5_goesAs ∈ wsL_law ∧ Cond.static yX5_goesAs ∈ wsL_law := ⟨(List.mem_of_getElem? (i := 220) (by decide +kernel)), (List.mem_of_getElem? (i := 221) (by decide +kernel))⟩
set_option maxRecDepth 20000 in
theorem mu_X5_95_1 : Cond.methodLink RX5 95 ⟨"PropStore$Prop", "worthBy", "(I)J"⟩ ∈ wsL_law ∧ Cond.sameMethod "PropStore$Prop" "PropStore$Prop" "worthBy" "(I)J" ∈ wsL_law ∧ Cond.selects RX1 ⟨"PropStore$Prop", "worthBy", "(I)J"⟩ yX1_worthBy ∈ wsL_law ∧ Cond.instanceMethod yX1_worthBy ∈ wsL_law ∧ Cond.declares ⟨"PropStore$Prop", "worthBy", "(I)J"⟩ ∈ zm_nws := ⟨(List.mem_of_getElem? (i := 230) (by decide +kernel)), (List.mem_of_getElem? (i := 231) (by decide +kernel)), (List.mem_of_getElem? (i := 232) (by decide +kernel)), (List.mem_of_getElem? (i := 233) (by decide +kernel)), by decide +kernel⟩
set_option maxRecDepth 20000 in
theorem mu_X5_95_2 : Cond.methodLink RX5 95 ⟨"PropStore$Prop", "worthBy", "(I)J"⟩ ∈ wsL_law ∧ Cond.sameMethod "PropStore$Prop" "PropStore$Prop" "worthBy" "(I)J" ∈ wsL_law ∧ Cond.selects RX2 ⟨"PropStore$Prop", "worthBy", "(I)J"⟩ yX2_worthBy ∈ wsL_law ∧ Cond.instanceMethod yX2_worthBy ∈ wsL_law ∧ Cond.declares ⟨"PropStore$Prop", "worthBy", "(I)J"⟩ ∈ zm_nws := ⟨(List.mem_of_getElem? (i := 230) (by decide +kernel)), (List.mem_of_getElem? (i := 231) (by decide +kernel)), (List.mem_of_getElem? (i := 235) (by decide +kernel)), (List.mem_of_getElem? (i := 236) (by decide +kernel)), by decide +kernel⟩
set_option maxRecDepth 20000 in
theorem mu_X5_95_3 : Cond.methodLink RX5 95 ⟨"PropStore$Prop", "worthBy", "(I)J"⟩ ∈ wsL_law ∧ Cond.sameMethod "PropStore$Prop" "PropStore$Prop" "worthBy" "(I)J" ∈ wsL_law ∧ Cond.selects RX4 ⟨"PropStore$Prop", "worthBy", "(I)J"⟩ yX4_worthBy ∈ wsL_law ∧ Cond.instanceMethod yX4_worthBy ∈ wsL_law ∧ Cond.declares ⟨"PropStore$Prop", "worthBy", "(I)J"⟩ ∈ zm_nws := ⟨(List.mem_of_getElem? (i := 230) (by decide +kernel)), (List.mem_of_getElem? (i := 231) (by decide +kernel)), (List.mem_of_getElem? (i := 244) (by decide +kernel)), (List.mem_of_getElem? (i := 245) (by decide +kernel)), by decide +kernel⟩
set_option maxRecDepth 20000 in
theorem clk_X5_99 : Cond.classLink RX5 99 RX2 ∈ wsL_law := (List.mem_of_getElem? (i := 50) (by decide +kernel))
set_option maxRecDepth 20000 in
theorem fl_X5_101_2 : zm_fl RX5 101 2 1 := ⟨RX2, TX2, 4, "PropStore$Piece", rfl, inlX2, by decide, (List.mem_of_getElem? (i := 376) (by decide +kernel)), Or.inr (List.mem_of_getElem? (i := 242) (by decide +kernel))⟩
set_option maxRecDepth 20000 in
theorem fl_X5_104_2 : zm_fl RX5 104 2 3 := ⟨RX2, TX2, 4, "PropStore$Piece", rfl, inlX2, by decide, (List.mem_of_getElem? (i := 377) (by decide +kernel)), Or.inl rfl⟩
set_option maxRecDepth 20000 in
theorem clk_X5_107 : Cond.classLink RX5 107 RX4 ∈ wsL_law := (List.mem_of_getElem? (i := 53) (by decide +kernel))
set_option maxRecDepth 20000 in
theorem ml_X5_109 : Cond.methodLink RX5 109 yX4_hasPlace ∈ wsL_law ∧ Cond.instanceMethod yX4_hasPlace ∈ wsL_law ∧ Cond.selects RX4 yX4_hasPlace yX4_hasPlace ∈ wsL_law := ⟨(List.mem_of_getElem? (i := 272) (by decide +kernel)), (List.mem_of_getElem? (i := 273) (by decide +kernel)), (List.mem_of_getElem? (i := 274) (by decide +kernel))⟩
set_option maxRecDepth 20000 in
theorem fl_X5_112_3 : zm_fl RX5 112 3 2 := ⟨RX4, TX4, 3, "PropStore$Row", rfl, inlX4, by decide, (List.mem_of_getElem? (i := 271) (by decide +kernel)), Or.inl rfl⟩
set_option maxRecDepth 20000 in
theorem fl_X5_115_0 : zm_fl RX5 115 0 1 := ⟨RX0, TX0, 4, "PropStore$Cue", rfl, inlX0, by decide, (List.mem_of_getElem? (i := 216) (by decide +kernel)), Or.inl rfl⟩
set_option maxRecDepth 20000 in
theorem fl_X5_118_0 : zm_fl RX5 118 0 2 := ⟨RX0, TX0, 4, "PropStore$Cue", rfl, inlX0, by decide, (List.mem_of_getElem? (i := 217) (by decide +kernel)), Or.inl rfl⟩
set_option maxRecDepth 20000 in
theorem fl_X5_121_0 : zm_fl RX5 121 0 0 := ⟨RX0, TX0, 4, "PropStore$Cue", rfl, inlX0, by decide, (List.mem_of_getElem? (i := 218) (by decide +kernel)), Or.inl rfl⟩
set_option maxRecDepth 20000 in
theorem ml_X5_124 : Cond.methodLink RX5 124 yX5_showProp ∈ wsL_law ∧ Cond.instanceMethod yX5_showProp ∈ wsL_law ∧ Cond.selects RX5 yX5_showProp yX5_showProp ∈ wsL_law := ⟨(List.mem_of_getElem? (i := 225) (by decide +kernel)), (List.mem_of_getElem? (i := 226) (by decide +kernel)), (List.mem_of_getElem? (i := 227) (by decide +kernel))⟩
set_option maxRecDepth 20000 in
theorem ml_X5_128 : Cond.methodLink RX5 128 yX5_wearProp ∈ wsL_law ∧ Cond.static yX5_wearProp ∈ wsL_law := ⟨(List.mem_of_getElem? (i := 251) (by decide +kernel)), (List.mem_of_getElem? (i := 252) (by decide +kernel))⟩
set_option maxRecDepth 20000 in
theorem fl_X5_131_0 : zm_fl RX5 131 0 3 := ⟨RX0, TX0, 4, "PropStore$Cue", rfl, inlX0, by decide, (List.mem_of_getElem? (i := 219) (by decide +kernel)), Or.inl rfl⟩
set_option maxRecDepth 20000 in
theorem ml_X5_134 : Cond.methodLink RX5 134 yX5_takePart ∈ wsL_law ∧ Cond.instanceMethod yX5_takePart ∈ wsL_law ∧ Cond.selects RX5 yX5_takePart yX5_takePart ∈ wsL_law := ⟨(List.mem_of_getElem? (i := 266) (by decide +kernel)), (List.mem_of_getElem? (i := 267) (by decide +kernel)), (List.mem_of_getElem? (i := 268) (by decide +kernel))⟩
set_option maxRecDepth 20000 in
theorem ml_X5_137 : Cond.methodLink RX5 137 yX5_layPart ∈ wsL_law ∧ Cond.instanceMethod yX5_layPart ∈ wsL_law ∧ Cond.selects RX5 yX5_layPart yX5_layPart ∈ wsL_law := ⟨(List.mem_of_getElem? (i := 276) (by decide +kernel)), (List.mem_of_getElem? (i := 277) (by decide +kernel)), (List.mem_of_getElem? (i := 278) (by decide +kernel))⟩
set_option maxRecDepth 20000 in
theorem mu_X5_141_1 : Cond.methodLink RX5 141 ⟨"PropStore$Prop", "putOn", "(I)V"⟩ ∈ wsL_law ∧ Cond.sameMethod "PropStore$Prop" "PropStore$Prop" "putOn" "(I)V" ∈ wsL_law ∧ Cond.selects RX1 ⟨"PropStore$Prop", "putOn", "(I)V"⟩ yX1_putOn ∈ wsL_law ∧ Cond.instanceMethod yX1_putOn ∈ wsL_law ∧ Cond.declares ⟨"PropStore$Prop", "putOn", "(I)V"⟩ ∈ zm_nws := ⟨(List.mem_of_getElem? (i := 254) (by decide +kernel)), (List.mem_of_getElem? (i := 255) (by decide +kernel)), (List.mem_of_getElem? (i := 256) (by decide +kernel)), (List.mem_of_getElem? (i := 257) (by decide +kernel)), by decide +kernel⟩
set_option maxRecDepth 20000 in
theorem mu_X5_141_2 : Cond.methodLink RX5 141 ⟨"PropStore$Prop", "putOn", "(I)V"⟩ ∈ wsL_law ∧ Cond.sameMethod "PropStore$Prop" "PropStore$Prop" "putOn" "(I)V" ∈ wsL_law ∧ Cond.selects RX2 ⟨"PropStore$Prop", "putOn", "(I)V"⟩ yX2_putOn ∈ wsL_law ∧ Cond.instanceMethod yX2_putOn ∈ wsL_law ∧ Cond.declares ⟨"PropStore$Prop", "putOn", "(I)V"⟩ ∈ zm_nws := ⟨(List.mem_of_getElem? (i := 254) (by decide +kernel)), (List.mem_of_getElem? (i := 255) (by decide +kernel)), (List.mem_of_getElem? (i := 259) (by decide +kernel)), (List.mem_of_getElem? (i := 260) (by decide +kernel)), by decide +kernel⟩
set_option maxRecDepth 20000 in
theorem mu_X5_141_3 : Cond.methodLink RX5 141 ⟨"PropStore$Prop", "putOn", "(I)V"⟩ ∈ wsL_law ∧ Cond.sameMethod "PropStore$Prop" "PropStore$Prop" "putOn" "(I)V" ∈ wsL_law ∧ Cond.selects RX4 ⟨"PropStore$Prop", "putOn", "(I)V"⟩ yX4_putOn ∈ wsL_law ∧ Cond.instanceMethod yX4_putOn ∈ wsL_law ∧ Cond.declares ⟨"PropStore$Prop", "putOn", "(I)V"⟩ ∈ zm_nws := ⟨(List.mem_of_getElem? (i := 254) (by decide +kernel)), (List.mem_of_getElem? (i := 255) (by decide +kernel)), (List.mem_of_getElem? (i := 262) (by decide +kernel)), (List.mem_of_getElem? (i := 263) (by decide +kernel)), by decide +kernel⟩
set_option maxRecDepth 20000 in
theorem ml_X5_145 : Cond.methodLink RX5 145 yX5_partView ∈ wsL_law ∧ Cond.static yX5_partView ∈ wsL_law := ⟨(List.mem_of_getElem? (i := 282) (by decide +kernel)), (List.mem_of_getElem? (i := 247) (by decide +kernel))⟩
set_option maxRecDepth 20000 in
theorem fl_X5_148_3 : zm_fl RX5 148 3 1 := ⟨RX4, TX4, 3, "PropStore$Row", rfl, inlX4, by decide, (List.mem_of_getElem? (i := 280) (by decide +kernel)), Or.inr (List.mem_of_getElem? (i := 281) (by decide +kernel))⟩
set_option maxRecDepth 20000 in
theorem ml_X5_149 : Cond.methodLink RX5 149 yX5_isPiece ∈ wsL_law ∧ Cond.static yX5_isPiece ∈ wsL_law := ⟨(List.mem_of_getElem? (i := 44) (by decide +kernel)), (List.mem_of_getElem? (i := 45) (by decide +kernel))⟩
set_option maxRecDepth 20000 in
theorem ml_X5_152 : Cond.methodLink RX5 152 yX2_init ∈ wsL_law ∧ Cond.instanceMethod yX2_init ∈ wsL_law ∧ yX2_init.name = "<init>" := ⟨(List.mem_of_getElem? (i := 59) (by decide +kernel)), (List.mem_of_getElem? (i := 60) (by decide +kernel)), rfl⟩
set_option maxRecDepth 20000 in
theorem ml_X5_155 : Cond.methodLink RX5 155 yX5_isRow ∈ wsL_law ∧ Cond.static yX5_isRow ∈ wsL_law := ⟨(List.mem_of_getElem? (i := 70) (by decide +kernel)), (List.mem_of_getElem? (i := 71) (by decide +kernel))⟩
set_option maxRecDepth 20000 in
theorem ml_X5_158 : Cond.methodLink RX5 158 yX4_init ∈ wsL_law ∧ Cond.instanceMethod yX4_init ∈ wsL_law ∧ yX4_init.name = "<init>" := ⟨(List.mem_of_getElem? (i := 73) (by decide +kernel)), (List.mem_of_getElem? (i := 74) (by decide +kernel)), rfl⟩
set_option maxRecDepth 20000 in
theorem ml_X5_159 : Cond.methodLink RX5 159 yX1_init ∈ wsL_law ∧ Cond.instanceMethod yX1_init ∈ wsL_law ∧ yX1_init.name = "<init>" := ⟨(List.mem_of_getElem? (i := 79) (by decide +kernel)), (List.mem_of_getElem? (i := 80) (by decide +kernel)), rfl⟩
set_option maxRecDepth 20000 in
theorem fl_X5_160_1 : zm_fl RX5 160 1 0 := ⟨RX1, TX1, 3, "PropStore$Prop", rfl, inlX1, by decide, (List.mem_of_getElem? (i := 137) (by decide +kernel)), Or.inl rfl⟩
set_option maxRecDepth 20000 in
theorem fl_X5_160_2 : zm_fl RX5 160 2 0 := ⟨RX2, TX2, 4, "PropStore$Prop", rfl, inlX2, by decide, (List.mem_of_getElem? (i := 137) (by decide +kernel)), Or.inl rfl⟩
set_option maxRecDepth 20000 in
theorem fl_X5_160_3 : zm_fl RX5 160 3 0 := ⟨RX4, TX4, 3, "PropStore$Prop", rfl, inlX4, by decide, (List.mem_of_getElem? (i := 137) (by decide +kernel)), Or.inl rfl⟩
set_option maxRecDepth 20000 in
theorem fl_X5_166_1 : zm_fl RX5 166 1 1 := ⟨RX1, TX1, 3, "PropStore$Prop", rfl, inlX1, by decide, (List.mem_of_getElem? (i := 224) (by decide +kernel)), Or.inl rfl⟩
set_option maxRecDepth 20000 in
theorem fl_X5_166_2 : zm_fl RX5 166 2 1 := ⟨RX2, TX2, 4, "PropStore$Prop", rfl, inlX2, by decide, (List.mem_of_getElem? (i := 224) (by decide +kernel)), Or.inl rfl⟩
set_option maxRecDepth 20000 in
theorem fl_X5_166_3 : zm_fl RX5 166 3 1 := ⟨RX4, TX4, 3, "PropStore$Prop", rfl, inlX4, by decide, (List.mem_of_getElem? (i := 224) (by decide +kernel)), Or.inl rfl⟩
set_option maxRecDepth 20000 in
theorem ml_X6_1 : Cond.methodLink RX6 1 objectInit ∈ wsL_law := (List.mem_of_getElem? (i := 21) (by decide +kernel))
set_option maxRecDepth 20000 in
theorem fl_X6_7_5 : zm_fl RX6 7 5 1 := ⟨RX6, TX6, 17, "PropStoreModel", rfl, inlX6, by decide, (List.mem_of_getElem? (i := 23) (by decide +kernel)), Or.inl rfl⟩
set_option maxRecDepth 20000 in
theorem fp_X6_7_5 : zm_fp RX6 7 5 1 (.array .int) true := ⟨RX6, TX6, 17, tyX6, rfl, inlX6, tyX6_ok, nmX6, by decide, (List.mem_of_getElem? (i := 23) (by decide +kernel)), rfl, fun _ => rfl, by decide +kernel⟩
set_option maxRecDepth 20000 in
theorem fl_X6_13_5 : zm_fl RX6 13 5 2 := ⟨RX6, TX6, 17, "PropStoreModel", rfl, inlX6, by decide, (List.mem_of_getElem? (i := 24) (by decide +kernel)), Or.inl rfl⟩
set_option maxRecDepth 20000 in
theorem fp_X6_13_5 : zm_fp RX6 13 5 2 (.array .int) true := ⟨RX6, TX6, 17, tyX6, rfl, inlX6, tyX6_ok, nmX6, by decide, (List.mem_of_getElem? (i := 24) (by decide +kernel)), rfl, fun _ => rfl, by decide +kernel⟩
set_option maxRecDepth 20000 in
theorem fl_X6_16_5 : zm_fl RX6 16 5 3 := ⟨RX6, TX6, 17, "PropStoreModel", rfl, inlX6, by decide, (List.mem_of_getElem? (i := 25) (by decide +kernel)), Or.inl rfl⟩
set_option maxRecDepth 20000 in
theorem fp_X6_16_5 : zm_fp RX6 16 5 3 (.array .int) true := ⟨RX6, TX6, 17, tyX6, rfl, inlX6, tyX6_ok, nmX6, by decide, (List.mem_of_getElem? (i := 25) (by decide +kernel)), rfl, fun _ => rfl, by decide +kernel⟩
set_option maxRecDepth 20000 in
theorem fl_X6_19_5 : zm_fl RX6 19 5 4 := ⟨RX6, TX6, 17, "PropStoreModel", rfl, inlX6, by decide, (List.mem_of_getElem? (i := 27) (by decide +kernel)), Or.inl rfl⟩
set_option maxRecDepth 20000 in
theorem fp_X6_19_5 : zm_fp RX6 19 5 4 (.array .long) true := ⟨RX6, TX6, 17, tyX6, rfl, inlX6, tyX6_ok, nmX6, by decide, (List.mem_of_getElem? (i := 27) (by decide +kernel)), rfl, fun _ => rfl, by decide +kernel⟩
set_option maxRecDepth 20000 in
theorem fl_X6_23_5 : zm_fl RX6 23 5 5 := ⟨RX6, TX6, 17, "PropStoreModel", rfl, inlX6, by decide, (List.mem_of_getElem? (i := 28) (by decide +kernel)), Or.inl rfl⟩
set_option maxRecDepth 20000 in
theorem fp_X6_23_5 : zm_fp RX6 23 5 5 (.array .int) true := ⟨RX6, TX6, 17, tyX6, rfl, inlX6, tyX6_ok, nmX6, by decide, (List.mem_of_getElem? (i := 28) (by decide +kernel)), rfl, fun _ => rfl, by decide +kernel⟩
set_option maxRecDepth 20000 in
theorem fl_X6_26_5 : zm_fl RX6 26 5 6 := ⟨RX6, TX6, 17, "PropStoreModel", rfl, inlX6, by decide, (List.mem_of_getElem? (i := 29) (by decide +kernel)), Or.inl rfl⟩
set_option maxRecDepth 20000 in
theorem fp_X6_26_5 : zm_fp RX6 26 5 6 (.array .int) true := ⟨RX6, TX6, 17, tyX6, rfl, inlX6, tyX6_ok, nmX6, by decide, (List.mem_of_getElem? (i := 29) (by decide +kernel)), rfl, fun _ => rfl, by decide +kernel⟩
set_option maxRecDepth 20000 in
theorem fl_X6_29_5 : zm_fl RX6 29 5 7 := ⟨RX6, TX6, 17, "PropStoreModel", rfl, inlX6, by decide, (List.mem_of_getElem? (i := 30) (by decide +kernel)), Or.inl rfl⟩
set_option maxRecDepth 20000 in
theorem fp_X6_29_5 : zm_fp RX6 29 5 7 .int false := ⟨RX6, TX6, 17, tyX6, rfl, inlX6, tyX6_ok, nmX6, by decide, (List.mem_of_getElem? (i := 30) (by decide +kernel)), rfl, fun h => (by cases h), by decide +kernel⟩
set_option maxRecDepth 20000 in
theorem fl_X6_33_5 : zm_fl RX6 33 5 9 := ⟨RX6, TX6, 17, "PropStoreModel", rfl, inlX6, by decide, (List.mem_of_getElem? (i := 31) (by decide +kernel)), Or.inl rfl⟩
set_option maxRecDepth 20000 in
theorem fp_X6_33_5 : zm_fp RX6 33 5 9 (.array .int) true := ⟨RX6, TX6, 17, tyX6, rfl, inlX6, tyX6_ok, nmX6, by decide, (List.mem_of_getElem? (i := 31) (by decide +kernel)), rfl, fun _ => rfl, by decide +kernel⟩
set_option maxRecDepth 20000 in
theorem fl_X6_36_5 : zm_fl RX6 36 5 10 := ⟨RX6, TX6, 17, "PropStoreModel", rfl, inlX6, by decide, (List.mem_of_getElem? (i := 32) (by decide +kernel)), Or.inl rfl⟩
set_option maxRecDepth 20000 in
theorem fp_X6_36_5 : zm_fp RX6 36 5 10 (.array .int) true := ⟨RX6, TX6, 17, tyX6, rfl, inlX6, tyX6_ok, nmX6, by decide, (List.mem_of_getElem? (i := 32) (by decide +kernel)), rfl, fun _ => rfl, by decide +kernel⟩
set_option maxRecDepth 20000 in
theorem fl_X6_39_5 : zm_fl RX6 39 5 11 := ⟨RX6, TX6, 17, "PropStoreModel", rfl, inlX6, by decide, (List.mem_of_getElem? (i := 33) (by decide +kernel)), Or.inl rfl⟩
set_option maxRecDepth 20000 in
theorem fp_X6_39_5 : zm_fp RX6 39 5 11 (.array .int) true := ⟨RX6, TX6, 17, tyX6, rfl, inlX6, tyX6_ok, nmX6, by decide, (List.mem_of_getElem? (i := 33) (by decide +kernel)), rfl, fun _ => rfl, by decide +kernel⟩
set_option maxRecDepth 20000 in
theorem fl_X6_42_5 : zm_fl RX6 42 5 12 := ⟨RX6, TX6, 17, "PropStoreModel", rfl, inlX6, by decide, (List.mem_of_getElem? (i := 34) (by decide +kernel)), Or.inl rfl⟩
set_option maxRecDepth 20000 in
theorem fp_X6_42_5 : zm_fp RX6 42 5 12 (.array .int) true := ⟨RX6, TX6, 17, tyX6, rfl, inlX6, tyX6_ok, nmX6, by decide, (List.mem_of_getElem? (i := 34) (by decide +kernel)), rfl, fun _ => rfl, by decide +kernel⟩
set_option maxRecDepth 20000 in
theorem fl_X6_45_5 : zm_fl RX6 45 5 15 := ⟨RX6, TX6, 17, "PropStoreModel", rfl, inlX6, by decide, (List.mem_of_getElem? (i := 35) (by decide +kernel)), Or.inl rfl⟩
set_option maxRecDepth 20000 in
theorem fp_X6_45_5 : zm_fp RX6 45 5 15 .int false := ⟨RX6, TX6, 17, tyX6, rfl, inlX6, tyX6_ok, nmX6, by decide, (List.mem_of_getElem? (i := 35) (by decide +kernel)), rfl, fun h => (by cases h), by decide +kernel⟩
set_option maxRecDepth 20000 in
theorem fl_X6_48_5 : zm_fl RX6 48 5 0 := ⟨RX6, TX6, 17, "PropStoreModel", rfl, inlX6, by decide, (List.mem_of_getElem? (i := 88) (by decide +kernel)), Or.inl rfl⟩
set_option maxRecDepth 20000 in
theorem fp_X6_48_5 : zm_fp RX6 48 5 0 .int false := ⟨RX6, TX6, 17, tyX6, rfl, inlX6, tyX6_ok, nmX6, by decide, (List.mem_of_getElem? (i := 88) (by decide +kernel)), rfl, fun h => (by cases h), by decide +kernel⟩
set_option maxRecDepth 20000 in
theorem ml_X6_51 : Cond.methodLink RX6 51 yX6_isIn ∈ wsL_law ∧ Cond.static yX6_isIn ∈ wsL_law := ⟨(List.mem_of_getElem? (i := 89) (by decide +kernel)), (List.mem_of_getElem? (i := 90) (by decide +kernel))⟩
set_option maxRecDepth 20000 in
theorem ml_X6_55 : Cond.methodLink RX6 55 yX6_goesAs ∈ wsL_law ∧ Cond.static yX6_goesAs ∈ wsL_law := ⟨(List.mem_of_getElem? (i := 298) (by decide +kernel)), (List.mem_of_getElem? (i := 299) (by decide +kernel))⟩
set_option maxRecDepth 20000 in
theorem ml_X6_59 : Cond.methodLink RX6 59 yX6_isSingle ∈ wsL_law ∧ Cond.static yX6_isSingle ∈ wsL_law := ⟨(List.mem_of_getElem? (i := 92) (by decide +kernel)), (List.mem_of_getElem? (i := 93) (by decide +kernel))⟩
set_option maxRecDepth 20000 in
theorem ml_X6_63 : Cond.methodLink RX6 63 yX6_isProp ∈ wsL_law ∧ Cond.instanceMethod yX6_isProp ∈ wsL_law ∧ Cond.selects RX6 yX6_isProp yX6_isProp ∈ wsL_law := ⟨(List.mem_of_getElem? (i := 119) (by decide +kernel)), (List.mem_of_getElem? (i := 120) (by decide +kernel)), (List.mem_of_getElem? (i := 121) (by decide +kernel))⟩
set_option maxRecDepth 20000 in
theorem ml_X6_66 : Cond.methodLink RX6 66 yX6_many ∈ wsL_law ∧ Cond.instanceMethod yX6_many ∈ wsL_law ∧ Cond.selects RX6 yX6_many yX6_many ∈ wsL_law := ⟨(List.mem_of_getElem? (i := 123) (by decide +kernel)), (List.mem_of_getElem? (i := 124) (by decide +kernel)), (List.mem_of_getElem? (i := 125) (by decide +kernel))⟩
set_option maxRecDepth 20000 in
theorem ml_X6_71 : Cond.methodLink RX6 71 yX6_isSlot ∈ wsL_law ∧ Cond.static yX6_isSlot ∈ wsL_law := ⟨(List.mem_of_getElem? (i := 142) (by decide +kernel)), (List.mem_of_getElem? (i := 143) (by decide +kernel))⟩
set_option maxRecDepth 20000 in
theorem ml_X6_74 : Cond.methodLink RX6 74 yX6_isRow ∈ wsL_law ∧ Cond.static yX6_isRow ∈ wsL_law := ⟨(List.mem_of_getElem? (i := 195) (by decide +kernel)), (List.mem_of_getElem? (i := 196) (by decide +kernel))⟩
set_option maxRecDepth 20000 in
theorem ml_X6_77 : Cond.methodLink RX6 77 yX6_isView ∈ wsL_law ∧ Cond.static yX6_isView ∈ wsL_law := ⟨(List.mem_of_getElem? (i := 189) (by decide +kernel)), (List.mem_of_getElem? (i := 190) (by decide +kernel))⟩
set_option maxRecDepth 20000 in
theorem ml_X6_80 : Cond.methodLink RX6 80 yX6_has ∈ wsL_law ∧ Cond.static yX6_has ∈ wsL_law := ⟨(List.mem_of_getElem? (i := 192) (by decide +kernel)), (List.mem_of_getElem? (i := 193) (by decide +kernel))⟩
set_option maxRecDepth 20000 in
theorem fl_X6_83_5 : zm_fl RX6 83 5 8 := ⟨RX6, TX6, 17, "PropStoreModel", rfl, inlX6, by decide, (List.mem_of_getElem? (i := 188) (by decide +kernel)), Or.inl rfl⟩
set_option maxRecDepth 20000 in
theorem fp_X6_83_5 : zm_fp RX6 83 5 8 .int false := ⟨RX6, TX6, 17, tyX6, rfl, inlX6, tyX6_ok, nmX6, by decide, (List.mem_of_getElem? (i := 188) (by decide +kernel)), rfl, fun h => (by cases h), by decide +kernel⟩
set_option maxRecDepth 20000 in
theorem ml_X6_92 : Cond.methodLink RX6 92 yX6_inner ∈ wsL_law ∧ Cond.static yX6_inner ∈ wsL_law := ⟨(List.mem_of_getElem? (i := 320) (by decide +kernel)), (List.mem_of_getElem? (i := 321) (by decide +kernel))⟩
set_option maxRecDepth 20000 in
theorem ml_X6_95 : Cond.methodLink RX6 95 yX6_worthOfOne ∈ wsL_law ∧ Cond.instanceMethod yX6_worthOfOne ∈ wsL_law ∧ Cond.selects RX6 yX6_worthOfOne yX6_worthOfOne ∈ wsL_law := ⟨(List.mem_of_getElem? (i := 309) (by decide +kernel)), (List.mem_of_getElem? (i := 310) (by decide +kernel)), (List.mem_of_getElem? (i := 311) (by decide +kernel))⟩
set_option maxRecDepth 20000 in
theorem ml_X6_99 : Cond.methodLink RX6 99 yX6_worthOfNumbers ∈ wsL_law ∧ Cond.instanceMethod yX6_worthOfNumbers ∈ wsL_law ∧ Cond.selects RX6 yX6_worthOfNumbers yX6_worthOfNumbers ∈ wsL_law := ⟨(List.mem_of_getElem? (i := 305) (by decide +kernel)), (List.mem_of_getElem? (i := 306) (by decide +kernel)), (List.mem_of_getElem? (i := 307) (by decide +kernel))⟩
set_option maxRecDepth 20000 in
theorem ml_X6_103 : Cond.methodLink RX6 103 yX6_worthOfRow ∈ wsL_law ∧ Cond.instanceMethod yX6_worthOfRow ∈ wsL_law ∧ Cond.selects RX6 yX6_worthOfRow yX6_worthOfRow ∈ wsL_law := ⟨(List.mem_of_getElem? (i := 316) (by decide +kernel)), (List.mem_of_getElem? (i := 317) (by decide +kernel)), (List.mem_of_getElem? (i := 318) (by decide +kernel))⟩
set_option maxRecDepth 20000 in
theorem ml_X6_106 : Cond.methodLink RX6 106 yX6_wearRow ∈ wsL_law ∧ Cond.instanceMethod yX6_wearRow ∈ wsL_law ∧ Cond.selects RX6 yX6_wearRow yX6_wearRow ∈ wsL_law := ⟨(List.mem_of_getElem? (i := 327) (by decide +kernel)), (List.mem_of_getElem? (i := 328) (by decide +kernel)), (List.mem_of_getElem? (i := 329) (by decide +kernel))⟩
set_option maxRecDepth 20000 in
theorem ml_X6_110 : Cond.methodLink RX6 110 yX6_goes ∈ wsL_law ∧ Cond.instanceMethod yX6_goes ∈ wsL_law ∧ Cond.selects RX6 yX6_goes yX6_goes ∈ wsL_law := ⟨(List.mem_of_getElem? (i := 294) (by decide +kernel)), (List.mem_of_getElem? (i := 295) (by decide +kernel)), (List.mem_of_getElem? (i := 296) (by decide +kernel))⟩
set_option maxRecDepth 20000 in
theorem fl_X6_113_5 : zm_fl RX6 113 5 13 := ⟨RX6, TX6, 17, "PropStoreModel", rfl, inlX6, by decide, (List.mem_of_getElem? (i := 293) (by decide +kernel)), Or.inl rfl⟩
set_option maxRecDepth 20000 in
theorem fp_X6_113_5 : zm_fp RX6 113 5 13 .long false := ⟨RX6, TX6, 17, tyX6, rfl, inlX6, tyX6_ok, nmX6, by decide, (List.mem_of_getElem? (i := 293) (by decide +kernel)), rfl, fun h => (by cases h), by decide +kernel⟩
set_option maxRecDepth 20000 in
theorem ml_X6_117 : Cond.methodLink RX6 117 yX6_worthOf ∈ wsL_law ∧ Cond.instanceMethod yX6_worthOf ∈ wsL_law ∧ Cond.selects RX6 yX6_worthOf yX6_worthOf ∈ wsL_law := ⟨(List.mem_of_getElem? (i := 301) (by decide +kernel)), (List.mem_of_getElem? (i := 302) (by decide +kernel)), (List.mem_of_getElem? (i := 303) (by decide +kernel))⟩
set_option maxRecDepth 20000 in
theorem ml_X6_120 : Cond.methodLink RX6 120 yX6_wearAll ∈ wsL_law ∧ Cond.instanceMethod yX6_wearAll ∈ wsL_law ∧ Cond.selects RX6 yX6_wearAll yX6_wearAll ∈ wsL_law := ⟨(List.mem_of_getElem? (i := 323) (by decide +kernel)), (List.mem_of_getElem? (i := 324) (by decide +kernel)), (List.mem_of_getElem? (i := 325) (by decide +kernel))⟩
set_option maxRecDepth 20000 in
theorem ml_X6_123 : Cond.methodLink RX6 123 yX6_take ∈ wsL_law ∧ Cond.instanceMethod yX6_take ∈ wsL_law ∧ Cond.selects RX6 yX6_take yX6_take ∈ wsL_law := ⟨(List.mem_of_getElem? (i := 331) (by decide +kernel)), (List.mem_of_getElem? (i := 332) (by decide +kernel)), (List.mem_of_getElem? (i := 333) (by decide +kernel))⟩
set_option maxRecDepth 20000 in
theorem ml_X6_127 : Cond.methodLink RX6 127 yX6_lay ∈ wsL_law ∧ Cond.instanceMethod yX6_lay ∈ wsL_law ∧ Cond.selects RX6 yX6_lay yX6_lay ∈ wsL_law := ⟨(List.mem_of_getElem? (i := 335) (by decide +kernel)), (List.mem_of_getElem? (i := 336) (by decide +kernel)), (List.mem_of_getElem? (i := 337) (by decide +kernel))⟩
set_option maxRecDepth 20000 in
theorem fl_X6_131_5 : zm_fl RX6 131 5 14 := ⟨RX6, TX6, 17, "PropStoreModel", rfl, inlX6, by decide, (List.mem_of_getElem? (i := 287) (by decide +kernel)), Or.inl rfl⟩
set_option maxRecDepth 20000 in
theorem fp_X6_131_5 : zm_fp RX6 131 5 14 .int false := ⟨RX6, TX6, 17, tyX6, rfl, inlX6, tyX6_ok, nmX6, by decide, (List.mem_of_getElem? (i := 287) (by decide +kernel)), rfl, fun h => (by cases h), by decide +kernel⟩
set_option maxRecDepth 20000 in
theorem ml_X6_134 : Cond.methodLink RX6 134 yX6_done ∈ wsL_law ∧ Cond.instanceMethod yX6_done ∈ wsL_law ∧ Cond.selects RX6 yX6_done yX6_done ∈ wsL_law := ⟨(List.mem_of_getElem? (i := 289) (by decide +kernel)), (List.mem_of_getElem? (i := 290) (by decide +kernel)), (List.mem_of_getElem? (i := 291) (by decide +kernel))⟩
set_option maxRecDepth 20000 in
theorem fl_X6_137_5 : zm_fl RX6 137 5 16 := ⟨RX6, TX6, 17, "PropStoreModel", rfl, inlX6, by decide, (List.mem_of_getElem? (i := 288) (by decide +kernel)), Or.inl rfl⟩
set_option maxRecDepth 20000 in
theorem fp_X6_137_5 : zm_fp RX6 137 5 16 .int false := ⟨RX6, TX6, 17, tyX6, rfl, inlX6, tyX6_ok, nmX6, by decide, (List.mem_of_getElem? (i := 288) (by decide +kernel)), rfl, fun h => (by cases h), by decide +kernel⟩
set_option maxRecDepth 20000 in
theorem cd_X5_init : zm_cd yX5_init cX5_init 1 none 0 := ⟨(List.mem_of_getElem? (i := 8) (by decide +kernel)), (List.mem_of_getElem? (i := 2) (by decide +kernel)), by decide +kernel⟩
set_option maxRecDepth 20000 in
theorem cd_X6_init : zm_cd yX6_init cX6_init 2 none 0 := ⟨(List.mem_of_getElem? (i := 20) (by decide +kernel)), (List.mem_of_getElem? (i := 5) (by decide +kernel)), by decide +kernel⟩
set_option maxRecDepth 20000 in
theorem cd_X5_prop : zm_cd yX5_prop cX5_prop 3 (some .int) 2 := ⟨(List.mem_of_getElem? (i := 39) (by decide +kernel)), (List.mem_of_getElem? (i := 2) (by decide +kernel)), by decide +kernel⟩
set_option maxRecDepth 20000 in
theorem cd_X5_mostOf : zm_cd yX5_mostOf cX5_mostOf 1 (some .int) 1 := ⟨(List.mem_of_getElem? (i := 43) (by decide +kernel)), (List.mem_of_getElem? (i := 2) (by decide +kernel)), by decide +kernel⟩
set_option maxRecDepth 20000 in
theorem cd_X5_isPiece : zm_cd yX5_isPiece cX5_isPiece 1 (some .boolean) 1 := ⟨(List.mem_of_getElem? (i := 46) (by decide +kernel)), (List.mem_of_getElem? (i := 2) (by decide +kernel)), by decide +kernel⟩
set_option maxRecDepth 20000 in
theorem cd_X5_newProp : zm_cd yX5_newProp cX5_newProp 3 (some (.object "PropStore$Prop")) 3 := ⟨(List.mem_of_getElem? (i := 49) (by decide +kernel)), (List.mem_of_getElem? (i := 2) (by decide +kernel)), by decide +kernel⟩
set_option maxRecDepth 20000 in
theorem cd_X2_init : zm_cd yX2_init cX2_init 4 none 3 := ⟨(List.mem_of_getElem? (i := 61) (by decide +kernel)), (List.mem_of_getElem? (i := 52) (by decide +kernel)), by decide +kernel⟩
set_option maxRecDepth 20000 in
theorem cd_X3_init : zm_cd yX3_init cX3_init 3 none 2 := ⟨(List.mem_of_getElem? (i := 66) (by decide +kernel)), (List.mem_of_getElem? (i := 65) (by decide +kernel)), by decide +kernel⟩
set_option maxRecDepth 20000 in
theorem cd_X5_isRow : zm_cd yX5_isRow cX5_isRow 1 (some .boolean) 1 := ⟨(List.mem_of_getElem? (i := 72) (by decide +kernel)), (List.mem_of_getElem? (i := 2) (by decide +kernel)), by decide +kernel⟩
set_option maxRecDepth 20000 in
theorem cd_X4_init : zm_cd yX4_init cX4_init 4 none 3 := ⟨(List.mem_of_getElem? (i := 75) (by decide +kernel)), (List.mem_of_getElem? (i := 55) (by decide +kernel)), by decide +kernel⟩
set_option maxRecDepth 20000 in
theorem cd_X1_init : zm_cd yX1_init cX1_init 4 none 3 := ⟨(List.mem_of_getElem? (i := 81) (by decide +kernel)), (List.mem_of_getElem? (i := 58) (by decide +kernel)), by decide +kernel⟩
set_option maxRecDepth 20000 in
theorem cd_X6_prop : zm_cd yX6_prop cX6_prop 4 (some .int) 2 := ⟨(List.mem_of_getElem? (i := 87) (by decide +kernel)), (List.mem_of_getElem? (i := 5) (by decide +kernel)), by decide +kernel⟩
set_option maxRecDepth 20000 in
theorem cd_X6_isIn : zm_cd yX6_isIn cX6_isIn 3 (some .boolean) 3 := ⟨(List.mem_of_getElem? (i := 91) (by decide +kernel)), (List.mem_of_getElem? (i := 5) (by decide +kernel)), by decide +kernel⟩
set_option maxRecDepth 20000 in
theorem cd_X6_isSingle : zm_cd yX6_isSingle cX6_isSingle 1 (some .boolean) 1 := ⟨(List.mem_of_getElem? (i := 94) (by decide +kernel)), (List.mem_of_getElem? (i := 5) (by decide +kernel)), by decide +kernel⟩
set_option maxRecDepth 20000 in
theorem cd_X5_set : zm_cd yX5_set cX5_set 6 (some .int) 3 := ⟨(List.mem_of_getElem? (i := 98) (by decide +kernel)), (List.mem_of_getElem? (i := 2) (by decide +kernel)), by decide +kernel⟩
set_option maxRecDepth 20000 in
theorem cd_X5_find : zm_cd yX5_find cX5_find 2 (some (.object "PropStore$Prop")) 1 := ⟨(List.mem_of_getElem? (i := 103) (by decide +kernel)), (List.mem_of_getElem? (i := 2) (by decide +kernel)), by decide +kernel⟩
set_option maxRecDepth 20000 in
theorem cd_X1_put : zm_cd yX1_put cX1_put 3 (some .boolean) 2 := ⟨(List.mem_of_getElem? (i := 107) (by decide +kernel)), (List.mem_of_getElem? (i := 58) (by decide +kernel)), by decide +kernel⟩
set_option maxRecDepth 20000 in
theorem cd_X1_cut : zm_cd yX1_cut cX1_cut 2 (some .long) 1 := ⟨(List.mem_of_getElem? (i := 111) (by decide +kernel)), (List.mem_of_getElem? (i := 58) (by decide +kernel)), by decide +kernel⟩
set_option maxRecDepth 20000 in
theorem cd_X6_set : zm_cd yX6_set cX6_set 4 (some .int) 3 := ⟨(List.mem_of_getElem? (i := 117) (by decide +kernel)), (List.mem_of_getElem? (i := 5) (by decide +kernel)), by decide +kernel⟩
set_option maxRecDepth 20000 in
theorem cd_X6_isProp : zm_cd yX6_isProp cX6_isProp 2 (some .boolean) 1 := ⟨(List.mem_of_getElem? (i := 122) (by decide +kernel)), (List.mem_of_getElem? (i := 5) (by decide +kernel)), by decide +kernel⟩
set_option maxRecDepth 20000 in
theorem cd_X6_many : zm_cd yX6_many cX6_many 2 (some .int) 1 := ⟨(List.mem_of_getElem? (i := 126) (by decide +kernel)), (List.mem_of_getElem? (i := 5) (by decide +kernel)), by decide +kernel⟩
set_option maxRecDepth 20000 in
theorem cd_X5_slot : zm_cd yX5_slot cX5_slot 5 (some .int) 2 := ⟨(List.mem_of_getElem? (i := 130) (by decide +kernel)), (List.mem_of_getElem? (i := 2) (by decide +kernel)), by decide +kernel⟩
set_option maxRecDepth 20000 in
theorem cd_X5_isSlot : zm_cd yX5_isSlot cX5_isSlot 1 (some .boolean) 1 := ⟨(List.mem_of_getElem? (i := 133) (by decide +kernel)), (List.mem_of_getElem? (i := 2) (by decide +kernel)), by decide +kernel⟩
set_option maxRecDepth 20000 in
theorem cd_X5_numberOf : zm_cd yX5_numberOf cX5_numberOf 1 (some .int) 1 := ⟨(List.mem_of_getElem? (i := 136) (by decide +kernel)), (List.mem_of_getElem? (i := 2) (by decide +kernel)), by decide +kernel⟩
set_option maxRecDepth 20000 in
theorem cd_X6_slot : zm_cd yX6_slot cX6_slot 4 (some .int) 2 := ⟨(List.mem_of_getElem? (i := 141) (by decide +kernel)), (List.mem_of_getElem? (i := 5) (by decide +kernel)), by decide +kernel⟩
set_option maxRecDepth 20000 in
theorem cd_X6_isSlot : zm_cd yX6_isSlot cX6_isSlot 1 (some .boolean) 1 := ⟨(List.mem_of_getElem? (i := 144) (by decide +kernel)), (List.mem_of_getElem? (i := 5) (by decide +kernel)), by decide +kernel⟩
set_option maxRecDepth 20000 in
theorem cd_X5_held : zm_cd yX5_held cX5_held 2 (some .int) 1 := ⟨(List.mem_of_getElem? (i := 148) (by decide +kernel)), (List.mem_of_getElem? (i := 2) (by decide +kernel)), by decide +kernel⟩
set_option maxRecDepth 20000 in
theorem cd_X6_held : zm_cd yX6_held cX6_held 2 (some .int) 1 := ⟨(List.mem_of_getElem? (i := 152) (by decide +kernel)), (List.mem_of_getElem? (i := 5) (by decide +kernel)), by decide +kernel⟩
set_option maxRecDepth 20000 in
theorem cd_X5_hand : zm_cd yX5_hand cX5_hand 1 (some .int) 0 := ⟨(List.mem_of_getElem? (i := 156) (by decide +kernel)), (List.mem_of_getElem? (i := 2) (by decide +kernel)), by decide +kernel⟩
set_option maxRecDepth 20000 in
theorem cd_X6_hand : zm_cd yX6_hand cX6_hand 1 (some .int) 0 := ⟨(List.mem_of_getElem? (i := 161) (by decide +kernel)), (List.mem_of_getElem? (i := 5) (by decide +kernel)), by decide +kernel⟩
set_option maxRecDepth 20000 in
theorem cd_X5_cue : zm_cd yX5_cue cX5_cue 5 (some .int) 4 := ⟨(List.mem_of_getElem? (i := 165) (by decide +kernel)), (List.mem_of_getElem? (i := 2) (by decide +kernel)), by decide +kernel⟩
set_option maxRecDepth 20000 in
theorem cd_X5_isView : zm_cd yX5_isView cX5_isView 1 (some .boolean) 1 := ⟨(List.mem_of_getElem? (i := 172) (by decide +kernel)), (List.mem_of_getElem? (i := 2) (by decide +kernel)), by decide +kernel⟩
set_option maxRecDepth 20000 in
theorem cd_X5_isAmong : zm_cd yX5_isAmong cX5_isAmong 2 (some .boolean) 2 := ⟨(List.mem_of_getElem? (i := 175) (by decide +kernel)), (List.mem_of_getElem? (i := 2) (by decide +kernel)), by decide +kernel⟩
set_option maxRecDepth 20000 in
theorem cd_X0_init : zm_cd yX0_init cX0_init 5 none 4 := ⟨(List.mem_of_getElem? (i := 178) (by decide +kernel)), (List.mem_of_getElem? (i := 169) (by decide +kernel)), by decide +kernel⟩
set_option maxRecDepth 20000 in
theorem cd_X6_cue : zm_cd yX6_cue cX6_cue 5 (some .int) 4 := ⟨(List.mem_of_getElem? (i := 187) (by decide +kernel)), (List.mem_of_getElem? (i := 5) (by decide +kernel)), by decide +kernel⟩
set_option maxRecDepth 20000 in
theorem cd_X6_isView : zm_cd yX6_isView cX6_isView 1 (some .boolean) 1 := ⟨(List.mem_of_getElem? (i := 191) (by decide +kernel)), (List.mem_of_getElem? (i := 5) (by decide +kernel)), by decide +kernel⟩
set_option maxRecDepth 20000 in
theorem cd_X6_has : zm_cd yX6_has cX6_has 2 (some .boolean) 2 := ⟨(List.mem_of_getElem? (i := 194) (by decide +kernel)), (List.mem_of_getElem? (i := 5) (by decide +kernel)), by decide +kernel⟩
set_option maxRecDepth 20000 in
theorem cd_X6_isRow : zm_cd yX6_isRow cX6_isRow 1 (some .boolean) 1 := ⟨(List.mem_of_getElem? (i := 197) (by decide +kernel)), (List.mem_of_getElem? (i := 5) (by decide +kernel)), by decide +kernel⟩
set_option maxRecDepth 20000 in
theorem cd_X5_strike : zm_cd yX5_strike cX5_strike 2 (some .int) 0 := ⟨(List.mem_of_getElem? (i := 201) (by decide +kernel)), (List.mem_of_getElem? (i := 2) (by decide +kernel)), by decide +kernel⟩
set_option maxRecDepth 20000 in
theorem cd_X6_strike : zm_cd yX6_strike cX6_strike 2 (some .int) 0 := ⟨(List.mem_of_getElem? (i := 205) (by decide +kernel)), (List.mem_of_getElem? (i := 5) (by decide +kernel)), by decide +kernel⟩
set_option maxRecDepth 20000 in
theorem cd_X5_play : zm_cd yX5_play cX5_play 5 (some .int) 2 := ⟨(List.mem_of_getElem? (i := 209) (by decide +kernel)), (List.mem_of_getElem? (i := 2) (by decide +kernel)), by decide +kernel⟩
set_option maxRecDepth 20000 in
theorem cd_X5_perform : zm_cd yX5_perform cX5_perform 3 (some .int) 1 := ⟨(List.mem_of_getElem? (i := 215) (by decide +kernel)), (List.mem_of_getElem? (i := 2) (by decide +kernel)), by decide +kernel⟩
set_option maxRecDepth 20000 in
theorem cd_X5_goesAs : zm_cd yX5_goesAs cX5_goesAs 2 (some .boolean) 2 := ⟨(List.mem_of_getElem? (i := 222) (by decide +kernel)), (List.mem_of_getElem? (i := 2) (by decide +kernel)), by decide +kernel⟩
set_option maxRecDepth 20000 in
theorem cd_X5_showProp : zm_cd yX5_showProp cX5_showProp 3 (some .int) 2 := ⟨(List.mem_of_getElem? (i := 228) (by decide +kernel)), (List.mem_of_getElem? (i := 2) (by decide +kernel)), by decide +kernel⟩
set_option maxRecDepth 20000 in
theorem cd_X1_worthBy : zm_cd yX1_worthBy cX1_worthBy 5 (some .long) 1 := ⟨(List.mem_of_getElem? (i := 234) (by decide +kernel)), (List.mem_of_getElem? (i := 58) (by decide +kernel)), by decide +kernel⟩
set_option maxRecDepth 20000 in
theorem cd_X2_worthBy : zm_cd yX2_worthBy cX2_worthBy 2 (some .long) 1 := ⟨(List.mem_of_getElem? (i := 237) (by decide +kernel)), (List.mem_of_getElem? (i := 52) (by decide +kernel)), by decide +kernel⟩
set_option maxRecDepth 20000 in
theorem cd_X4_worthBy : zm_cd yX4_worthBy cX4_worthBy 6 (some .long) 1 := ⟨(List.mem_of_getElem? (i := 246) (by decide +kernel)), (List.mem_of_getElem? (i := 55) (by decide +kernel)), by decide +kernel⟩
set_option maxRecDepth 20000 in
theorem cd_X5_partView : zm_cd yX5_partView cX5_partView 1 (some .int) 1 := ⟨(List.mem_of_getElem? (i := 248) (by decide +kernel)), (List.mem_of_getElem? (i := 2) (by decide +kernel)), by decide +kernel⟩
set_option maxRecDepth 20000 in
theorem cd_X5_wearProp : zm_cd yX5_wearProp cX5_wearProp 2 (some .int) 2 := ⟨(List.mem_of_getElem? (i := 253) (by decide +kernel)), (List.mem_of_getElem? (i := 2) (by decide +kernel)), by decide +kernel⟩
set_option maxRecDepth 20000 in
theorem cd_X1_putOn : zm_cd yX1_putOn cX1_putOn 2 none 1 := ⟨(List.mem_of_getElem? (i := 258) (by decide +kernel)), (List.mem_of_getElem? (i := 58) (by decide +kernel)), by decide +kernel⟩
set_option maxRecDepth 20000 in
theorem cd_X2_putOn : zm_cd yX2_putOn cX2_putOn 2 none 1 := ⟨(List.mem_of_getElem? (i := 261) (by decide +kernel)), (List.mem_of_getElem? (i := 52) (by decide +kernel)), by decide +kernel⟩
set_option maxRecDepth 20000 in
theorem cd_X4_putOn : zm_cd yX4_putOn cX4_putOn 4 none 1 := ⟨(List.mem_of_getElem? (i := 264) (by decide +kernel)), (List.mem_of_getElem? (i := 55) (by decide +kernel)), by decide +kernel⟩
set_option maxRecDepth 20000 in
theorem cd_X5_takePart : zm_cd yX5_takePart cX5_takePart 4 (some .int) 2 := ⟨(List.mem_of_getElem? (i := 269) (by decide +kernel)), (List.mem_of_getElem? (i := 2) (by decide +kernel)), by decide +kernel⟩
set_option maxRecDepth 20000 in
theorem cd_X4_hasPlace : zm_cd yX4_hasPlace cX4_hasPlace 2 (some .boolean) 1 := ⟨(List.mem_of_getElem? (i := 275) (by decide +kernel)), (List.mem_of_getElem? (i := 55) (by decide +kernel)), by decide +kernel⟩
set_option maxRecDepth 20000 in
theorem cd_X5_layPart : zm_cd yX5_layPart cX5_layPart 5 (some .int) 3 := ⟨(List.mem_of_getElem? (i := 279) (by decide +kernel)), (List.mem_of_getElem? (i := 2) (by decide +kernel)), by decide +kernel⟩
set_option maxRecDepth 20000 in
theorem cd_X6_play : zm_cd yX6_play cX6_play 5 (some .int) 2 := ⟨(List.mem_of_getElem? (i := 286) (by decide +kernel)), (List.mem_of_getElem? (i := 5) (by decide +kernel)), by decide +kernel⟩
set_option maxRecDepth 20000 in
theorem cd_X6_done : zm_cd yX6_done cX6_done 5 (some .int) 1 := ⟨(List.mem_of_getElem? (i := 292) (by decide +kernel)), (List.mem_of_getElem? (i := 5) (by decide +kernel)), by decide +kernel⟩
set_option maxRecDepth 20000 in
theorem cd_X6_goes : zm_cd yX6_goes cX6_goes 3 (some .boolean) 2 := ⟨(List.mem_of_getElem? (i := 297) (by decide +kernel)), (List.mem_of_getElem? (i := 5) (by decide +kernel)), by decide +kernel⟩
set_option maxRecDepth 20000 in
theorem cd_X6_goesAs : zm_cd yX6_goesAs cX6_goesAs 2 (some .boolean) 2 := ⟨(List.mem_of_getElem? (i := 300) (by decide +kernel)), (List.mem_of_getElem? (i := 5) (by decide +kernel)), by decide +kernel⟩
set_option maxRecDepth 20000 in
theorem cd_X6_worthOf : zm_cd yX6_worthOf cX6_worthOf 7 (some .long) 2 := ⟨(List.mem_of_getElem? (i := 304) (by decide +kernel)), (List.mem_of_getElem? (i := 5) (by decide +kernel)), by decide +kernel⟩
set_option maxRecDepth 20000 in
theorem cd_X6_worthOfNumbers : zm_cd yX6_worthOfNumbers cX6_worthOfNumbers 5 (some .long) 1 := ⟨(List.mem_of_getElem? (i := 308) (by decide +kernel)), (List.mem_of_getElem? (i := 5) (by decide +kernel)), by decide +kernel⟩
set_option maxRecDepth 20000 in
theorem cd_X6_worthOfOne : zm_cd yX6_worthOfOne cX6_worthOfOne 5 (some .long) 2 := ⟨(List.mem_of_getElem? (i := 312) (by decide +kernel)), (List.mem_of_getElem? (i := 5) (by decide +kernel)), by decide +kernel⟩
set_option maxRecDepth 20000 in
theorem cd_X6_worthOfRow : zm_cd yX6_worthOfRow cX6_worthOfRow 7 (some .long) 2 := ⟨(List.mem_of_getElem? (i := 319) (by decide +kernel)), (List.mem_of_getElem? (i := 5) (by decide +kernel)), by decide +kernel⟩
set_option maxRecDepth 20000 in
theorem cd_X6_inner : zm_cd yX6_inner cX6_inner 1 (some .int) 1 := ⟨(List.mem_of_getElem? (i := 322) (by decide +kernel)), (List.mem_of_getElem? (i := 5) (by decide +kernel)), by decide +kernel⟩
set_option maxRecDepth 20000 in
theorem cd_X6_wearAll : zm_cd yX6_wearAll cX6_wearAll 4 none 1 := ⟨(List.mem_of_getElem? (i := 326) (by decide +kernel)), (List.mem_of_getElem? (i := 5) (by decide +kernel)), by decide +kernel⟩
set_option maxRecDepth 20000 in
theorem cd_X6_wearRow : zm_cd yX6_wearRow cX6_wearRow 4 none 1 := ⟨(List.mem_of_getElem? (i := 330) (by decide +kernel)), (List.mem_of_getElem? (i := 5) (by decide +kernel)), by decide +kernel⟩
set_option maxRecDepth 20000 in
theorem cd_X6_take : zm_cd yX6_take cX6_take 3 (some .int) 2 := ⟨(List.mem_of_getElem? (i := 334) (by decide +kernel)), (List.mem_of_getElem? (i := 5) (by decide +kernel)), by decide +kernel⟩
set_option maxRecDepth 20000 in
theorem cd_X6_lay : zm_cd yX6_lay cX6_lay 4 (some .int) 3 := ⟨(List.mem_of_getElem? (i := 338) (by decide +kernel)), (List.mem_of_getElem? (i := 5) (by decide +kernel)), by decide +kernel⟩
set_option maxRecDepth 20000 in
theorem cd_X5_miscue : zm_cd yX5_miscue cX5_miscue 2 (some .int) 1 := ⟨(List.mem_of_getElem? (i := 342) (by decide +kernel)), (List.mem_of_getElem? (i := 2) (by decide +kernel)), by decide +kernel⟩
set_option maxRecDepth 20000 in
theorem cd_X6_miscue : zm_cd yX6_miscue cX6_miscue 2 (some .int) 1 := ⟨(List.mem_of_getElem? (i := 346) (by decide +kernel)), (List.mem_of_getElem? (i := 5) (by decide +kernel)), by decide +kernel⟩
set_option maxRecDepth 20000 in
theorem cd_X5_points : zm_cd yX5_points cX5_points 1 (some .long) 0 := ⟨(List.mem_of_getElem? (i := 350) (by decide +kernel)), (List.mem_of_getElem? (i := 2) (by decide +kernel)), by decide +kernel⟩
set_option maxRecDepth 20000 in
theorem cd_X6_points : zm_cd yX6_points cX6_points 1 (some .long) 0 := ⟨(List.mem_of_getElem? (i := 354) (by decide +kernel)), (List.mem_of_getElem? (i := 5) (by decide +kernel)), by decide +kernel⟩
set_option maxRecDepth 20000 in
theorem cd_X5_is : zm_cd yX5_is cX5_is 4 (some .int) 2 := ⟨(List.mem_of_getElem? (i := 358) (by decide +kernel)), (List.mem_of_getElem? (i := 2) (by decide +kernel)), by decide +kernel⟩
set_option maxRecDepth 20000 in
theorem cd_X6_is : zm_cd yX6_is cX6_is 3 (some .int) 2 := ⟨(List.mem_of_getElem? (i := 362) (by decide +kernel)), (List.mem_of_getElem? (i := 5) (by decide +kernel)), by decide +kernel⟩
set_option maxRecDepth 20000 in
theorem cd_X5_worth : zm_cd yX5_worth cX5_worth 4 (some .long) 2 := ⟨(List.mem_of_getElem? (i := 366) (by decide +kernel)), (List.mem_of_getElem? (i := 2) (by decide +kernel)), by decide +kernel⟩
set_option maxRecDepth 20000 in
theorem cd_X6_worth : zm_cd yX6_worth cX6_worth 3 (some .long) 2 := ⟨(List.mem_of_getElem? (i := 370) (by decide +kernel)), (List.mem_of_getElem? (i := 5) (by decide +kernel)), by decide +kernel⟩
set_option maxRecDepth 20000 in
theorem cd_X5_wear : zm_cd yX5_wear cX5_wear 4 (some .int) 1 := ⟨(List.mem_of_getElem? (i := 374) (by decide +kernel)), (List.mem_of_getElem? (i := 2) (by decide +kernel)), by decide +kernel⟩
set_option maxRecDepth 20000 in
theorem cd_X6_wear : zm_cd yX6_wear cX6_wear 2 (some .int) 1 := ⟨(List.mem_of_getElem? (i := 381) (by decide +kernel)), (List.mem_of_getElem? (i := 5) (by decide +kernel)), by decide +kernel⟩
set_option maxRecDepth 20000 in
theorem cd_X5_at : zm_cd yX5_at cX5_at 5 (some .int) 2 := ⟨(List.mem_of_getElem? (i := 385) (by decide +kernel)), (List.mem_of_getElem? (i := 2) (by decide +kernel)), by decide +kernel⟩
set_option maxRecDepth 20000 in
theorem cd_X6_at : zm_cd yX6_at cX6_at 3 (some .int) 2 := ⟨(List.mem_of_getElem? (i := 389) (by decide +kernel)), (List.mem_of_getElem? (i := 5) (by decide +kernel)), by decide +kernel⟩
set_option maxRecDepth 20000 in
theorem cd_X5_count : zm_cd yX5_count cX5_count 2 (some .int) 1 := ⟨(List.mem_of_getElem? (i := 393) (by decide +kernel)), (List.mem_of_getElem? (i := 2) (by decide +kernel)), by decide +kernel⟩
set_option maxRecDepth 20000 in
theorem cd_X6_count : zm_cd yX6_count cX6_count 2 (some .int) 1 := ⟨(List.mem_of_getElem? (i := 397) (by decide +kernel)), (List.mem_of_getElem? (i := 5) (by decide +kernel)), by decide +kernel⟩
set_option maxRecDepth 20000 in
theorem cst_X6_70 : Cond.constant RX6 70 (65535) ∈ wsL_law := (List.mem_of_getElem? (i := 118) (by decide +kernel))
set_option maxRecDepth 20000 in
theorem cst_X2_18 : Cond.constantLong RX2 18 (2) ∈ wsL_law := (List.mem_of_getElem? (i := 239) (by decide +kernel))
set_option maxRecDepth 20000 in
theorem cst_X2_20 : Cond.constantLong RX2 20 (3) ∈ wsL_law := (List.mem_of_getElem? (i := 240) (by decide +kernel))
set_option maxRecDepth 20000 in
theorem cst_X2_25 : Cond.constantLong RX2 25 (5) ∈ wsL_law := (List.mem_of_getElem? (i := 243) (by decide +kernel))
set_option maxRecDepth 20000 in
theorem cst_X6_86 : Cond.constantLong RX6 86 (2) ∈ wsL_law := (List.mem_of_getElem? (i := 313) (by decide +kernel))
set_option maxRecDepth 20000 in
theorem cst_X6_88 : Cond.constantLong RX6 88 (3) ∈ wsL_law := (List.mem_of_getElem? (i := 314) (by decide +kernel))
set_option maxRecDepth 20000 in
theorem cst_X6_90 : Cond.constantLong RX6 90 (5) ∈ wsL_law := (List.mem_of_getElem? (i := 315) (by decide +kernel))
set_option maxRecDepth 20000 in
theorem in_X0 : Cond.instantiable RX0 4 ∈ wsL_law ∧ Cond.initialized RX0 ∈ wsL_law := ⟨(List.mem_of_getElem? (i := 168) (by decide +kernel)), (List.mem_of_getElem? (i := 169) (by decide +kernel))⟩
set_option maxRecDepth 20000 in
theorem in_X1 : Cond.instantiable RX1 3 ∈ wsL_law ∧ Cond.initialized RX1 ∈ wsL_law := ⟨(List.mem_of_getElem? (i := 57) (by decide +kernel)), (List.mem_of_getElem? (i := 58) (by decide +kernel))⟩
set_option maxRecDepth 20000 in
theorem in_X2 : Cond.instantiable RX2 4 ∈ wsL_law ∧ Cond.initialized RX2 ∈ wsL_law := ⟨(List.mem_of_getElem? (i := 51) (by decide +kernel)), (List.mem_of_getElem? (i := 52) (by decide +kernel))⟩
set_option maxRecDepth 20000 in
theorem in_X4 : Cond.instantiable RX4 3 ∈ wsL_law ∧ Cond.initialized RX4 ∈ wsL_law := ⟨(List.mem_of_getElem? (i := 54) (by decide +kernel)), (List.mem_of_getElem? (i := 55) (by decide +kernel))⟩
set_option maxRecDepth 20000 in
theorem in_X5 : Cond.instantiable RX5 10 ∈ wsL_law ∧ Cond.initialized RX5 ∈ wsL_law := ⟨(List.mem_of_getElem? (i := 1) (by decide +kernel)), (List.mem_of_getElem? (i := 2) (by decide +kernel))⟩
set_option maxRecDepth 20000 in
theorem in_X6 : Cond.instantiable RX6 17 ∈ wsL_law ∧ Cond.initialized RX6 ∈ wsL_law := ⟨(List.mem_of_getElem? (i := 4) (by decide +kernel)), (List.mem_of_getElem? (i := 5) (by decide +kernel))⟩
set_option maxRecDepth 20000 in
theorem st_X5_64 : Cond.fieldLink RX5 64 "PropStore" "ACT_VIEWS" "[I" ∈ wsL_law := (List.mem_of_getElem? (i := 166) (by decide +kernel))
set_option maxRecDepth 20000 in
theorem st_X5_163 : Cond.fieldLink RX5 163 "PropStore" "GOES_AS" "[I" ∈ wsL_law := (List.mem_of_getElem? (i := 223) (by decide +kernel))
set_option maxRecDepth 20000 in
theorem st_X5_167 : Cond.fieldLink RX5 167 "PropStore" "PART_VIEWS" "[I" ∈ wsL_law := (List.mem_of_getElem? (i := 249) (by decide +kernel))
set_option maxRecDepth 20000 in
theorem aw_int : Cond.arrayClass .int ∈ wsL_law := (List.mem_of_getElem? (i := 22) (by decide +kernel))
set_option maxRecDepth 20000 in
theorem aw_long : Cond.arrayClass .long ∈ wsL_law := (List.mem_of_getElem? (i := 26) (by decide +kernel))
end
section
/-! THE STATE, as numbers and lists; what each call answers and does to it -/
abbrev zS : Type := (Nat × Nat) × ((Nat → Nat) × (Nat → Nat) × (Nat → Int32)) × ((Nat → Nat → Int64) × (Nat → Nat → Option Nat)) × ((Nat → Option Nat) × Option Nat) × (Nat → Nat × Nat × Nat × Nat) × (Int64 × Int32 × Int32 × Int32)
abbrev s_np (S : zS) : Nat := S.1.1
abbrev s_nc (S : zS) : Nat := S.1.2
abbrev s_kd (S : zS) : Nat → Nat := S.2.1.1
abbrev s_sz (S : zS) : Nat → Nat := S.2.1.2.1
abbrev s_wr (S : zS) : Nat → Int32 := S.2.1.2.2
abbrev s_nu (S : zS) : Nat → Nat → Int64 := S.2.2.1.1
abbrev s_th (S : zS) : Nat → Nat → Option Nat := S.2.2.1.2
abbrev s_sl (S : zS) : Nat → Option Nat := S.2.2.2.1.1
abbrev s_hd (S : zS) : Option Nat := S.2.2.2.1.2
abbrev s_cu (S : zS) : Nat → Nat × Nat × Nat × Nat := S.2.2.2.2.1
abbrev s_po (S : zS) : Int64 := S.2.2.2.2.2.1
abbrev s_wy (S : zS) : Int32 := S.2.2.2.2.2.2.1
abbrev s_at (S : zS) : Int32 := S.2.2.2.2.2.2.2.1
abbrev s_of (S : zS) : Int32 := S.2.2.2.2.2.2.2.2
abbrev w_wr (S : zS) (v : Nat → Int32) : zS := (S.1, (S.2.1.1, S.2.1.2.1, v), S.2.2)
abbrev w_nu (S : zS) (v : Nat → Nat → Int64) : zS := (S.1, S.2.1, (v, S.2.2.1.2), S.2.2.2)
abbrev w_th (S : zS) (v : Nat → Nat → Option Nat) : zS := (S.1, S.2.1, (S.2.2.1.1, v), S.2.2.2)
abbrev w_sl (S : zS) (v : Nat → Option Nat) : zS := (S.1, S.2.1, S.2.2.1, (v, S.2.2.2.1.2), S.2.2.2.2)
abbrev w_hd (S : zS) (v : Option Nat) : zS := (S.1, S.2.1, S.2.2.1, (S.2.2.2.1.1, v), S.2.2.2.2)
abbrev w_po (S : zS) (v : Int64) : zS := (S.1, S.2.1, S.2.2.1, S.2.2.2.1, S.2.2.2.2.1, (v, S.2.2.2.2.2.2))
abbrev w_ms (S : zS) (y a o : Int32) : zS := (S.1, S.2.1, S.2.2.1, S.2.2.2.1, S.2.2.2.2.1, (S.2.2.2.2.2.1, y, a, o))
abbrev w_nc (S : zS) (n : Nat) : zS := ((S.1.1, n), S.2)
abbrev w_cu (S : zS) (n : Nat) (v : Nat → Nat × Nat × Nat × Nat) : zS := ((S.1.1, n), S.2.1, S.2.2.1, S.2.2.2.1, v, S.2.2.2.2.2)
def s_0 : zS := ((0, 0), (fun _ => 0, fun _ => 0, fun _ => 0), (fun _ _ => 0, fun _ _ => none), (fun _ => none, none), (fun _ => (0, 0, 0, 0)), (0, 0, -1, 0))
def oI (o : Option Nat) : Int32 := match o with
  | none => -1
  | some j => nI j
def bI (b : Bool) : Int32 := if b = true then 1 else 0
theorem bI_0 {b : Bool} : bI b = 0 ↔ b = false := by cases b <;> simp [bI]
theorem bI_n {b : Bool} : ¬ bI b = 0 ↔ b = true := by cases b <;> simp [bI]
theorem bI_01 (b : Bool) : bI b = 0 ∨ bI b = 1 := by cases b <;> simp [bI]
def ix (n : Nat) (x : Int32) : Option Nat := if x < 0 ∨ nI n ≤ x then none else some x.toNatClampNeg
theorem ix_some {n j : Nat} {x : Int32} (hn : n < 2 ^ 31) (h : ix n x = some j) : j < n ∧ x = nI j := by
  unfold ix at h
  split at h
  · cases h
  · rename_i hc
    rcases pk_ix x hn with h1 | h1 | ⟨k, h1, rfl⟩
    · exact absurd (Or.inl h1) hc
    · exact absurd (Or.inr h1) hc
    · rw [nI_clamp (by omega)] at h
      cases h
      exact ⟨h1, rfl⟩
theorem ix_nI {n j : Nat} (hn : n < 2 ^ 31) (h : j < n) : ix n (nI j) = some j := by
  unfold ix
  rw [if_neg, nI_clamp (by omega)]
  rintro (q | q)
  · exact nI_pos (by omega) q
  · exact nI_ge h hn q
theorem ix_lt {n : Nat} {x : Int32} (h : x < 0) : ix n x = none := by unfold ix; rw [if_pos (Or.inl h)]
theorem ix_ge {n : Nat} {x : Int32} (h : nI n ≤ x) : ix n x = none := by unfold ix; rw [if_pos (Or.inr h)]
theorem ix_in {n : Nat} {x : Int32} (hn : n < 2 ^ 31) (h : ¬ x < 0) (h2 : ¬ nI n ≤ x) : ∃ j, j < n ∧ x = nI j ∧ ix n x = some j := by
  rcases pk_ix x hn with h1 | h1 | ⟨k, h1, rfl⟩
  · exact absurd h1 h
  · exact absurd h1 h2
  · exact ⟨k, h1, rfl, ix_nI hn h1⟩
theorem ix_none {n : Nat} {x : Int32} (h : ix n x = none) : x < 0 ∨ nI n ≤ x := by
  unfold ix at h
  split at h
  · assumption
  · cases h
theorem oI_nI {j : Nat} (h : j < 2 ^ 31) : ¬ nI j = -1 := by
  intro q
  have := nI_toInt h
  rw [q] at this
  simp at this
theorem oI_m1 {o : Option Nat} (h : ∀ j, o = some j → j < 2 ^ 31) : oI o = -1 ↔ o = none := by
  cases o with
  | none => simp [oI]
  | some j => simp only [oI, reduceCtorEq, iff_false]; exact oI_nI (h j rfl)
def gA (k v : Nat) : Bool := k == v || (match k with
  | 5 => v == 4
  | 6 => v == 4 || v == 16
  | 7 => v == 16
  | 9 => v == 8
  | 10 => v == 8 || v == 11
  | 12 => v == 11
  | 14 => v == 13 || v == 15
  | _ => false)
def inn (v : Nat) : Nat := match v with
  | 8 => 4
  | 9 => 5
  | 10 => 6
  | 11 => 16
  | 12 => 7
  | 13 => 8
  | 14 => 10
  | _ => 11
def hasV (a v : Nat) : Bool := match a with
  | 1 => (decide (4 ≤ v) && decide (v ≤ 6)) || (decide (8 ≤ v) && decide (v ≤ 10)) || (decide (13 ≤ v) && decide (v ≤ 14))
  | 2 => decide (8 ≤ v) && decide (v ≤ 15)
  | 3 => decide (8 ≤ v) && decide (v ≤ 15)
  | _ => true
def goS (S : zS) (o : Option Nat) (v : Nat) : Bool := match o with
  | none => true
  | some j => gA (s_kd S j) v
def many (S : zS) (j : Nat) : Nat := if s_kd S j = 3 then 3 * s_sz S j else s_sz S j
def isPc (k : Nat) : Bool := decide (4 ≤ k) && decide (k ≤ 7)
def isRw (k : Nat) : Bool := decide (8 ≤ k) && decide (k ≤ 15)
def cutV (k : Nat) (v : Int32) : Int64 := match k with
  | 0 => (v &&& 65535).toInt64
  | 1 => v.toInt16.toInt32.toInt64
  | 2 => v.toInt64
  | _ => v.toInt8.toInt32.toInt64
def zsum (f : Nat → Int64) : Nat → Int64
  | 0 => 0
  | n + 1 => zsum f n + f n
def wOne (S : zS) (j v : Nat) : Int64 := match v with
  | 4 => (nI (s_sz S j)).toInt64 + (s_wr S j).toInt64
  | 5 => 2 * (s_wr S j).toInt64
  | 6 => 3 * (nI (s_sz S j)).toInt64
  | 7 => (nI (s_sz S j)).toInt64
  | _ => if s_kd S j = 6 then (nI (s_sz S j)).toInt64 + 5 else 2 * (nI (s_sz S j)).toInt64
def wAt (f : Nat → Int64) (o : Option Nat) : Int64 := match o with
  | none => 0
  | some t => f t
def wRow (S : zS) (j v : Nat) : Int64 := zsum (fun i => wAt (fun t => wOne S t (inn v)) (s_th S j i)) (s_sz S j)
def wOf (S : zS) (j v : Nat) : Int64 :=
  if v < 4 then zsum (s_nu S j) (many S j)
  else if v < 8 ∨ v = 16 then wOne S j v
  else if v < 13 then wRow S j v
  else zsum (fun i => wAt (fun t => wRow S t (inn v)) (s_th S j i)) (s_sz S j)
def wInc (w : Nat → Int32) (o : Option Nat) : Nat → Int32 := match o with
  | none => w
  | some t => upd w t (w t + 1)
/-- the wear of a row's parts, n of them -/
def wrR (S : zS) (j : Nat) (w : Nat → Int32) : Nat → (Nat → Int32)
  | 0 => w
  | n + 1 => wInc (wrR S j w n) (s_th S j n)
def wrO (S : zS) (w : Nat → Int32) (o : Option Nat) : Nat → Int32 := match o with
  | none => w
  | some t => wrR S t w (s_sz S t)
def wrS (S : zS) (j : Nat) (w : Nat → Int32) : Nat → (Nat → Int32)
  | 0 => w
  | n + 1 => wrO S (wrS S j w n) (s_th S j n)
def wAll (S : zS) (j : Nat) : Nat → Int32 :=
  if s_kd S j < 8 then upd (s_wr S) j (s_wr S j + 1)
  else if s_kd S j < 13 then wrR S j (s_wr S) (s_sz S j)
  else wrS S j (s_wr S) (s_sz S j)
def up2 {α : Type} (f : Nat → Nat → α) (j i : Nat) (v : α) : Nat → Nat → α := fun a b => if a = j ∧ b = i then v else f a b
def stp (S : zS) (c : Nat) : Int32 × zS :=
  if goS S (s_sl S (s_cu S c).2.1) (s_cu S c).2.2.1 = false then (-5, S)
  else match (s_cu S c).1 with
    | 0 => (match s_sl S (s_cu S c).2.1 with
      | none => (-4, S)
      | some j => (0, w_po S (s_po S + wOf S j (s_cu S c).2.2.1)))
    | 1 => (match s_sl S (s_cu S c).2.1 with
      | none => (-4, S)
      | some j => (0, w_wr S (wAll S j)))
    | 2 => (match s_sl S (s_cu S c).2.1 with
      | none => (-4, S)
      | some j => if (s_cu S c).2.2.2 < s_sz S j then (0, w_th (w_hd S (s_th S j (s_cu S c).2.2.2)) (up2 (s_th S) j (s_cu S c).2.2.2 none)) else (-6, S))
    | 3 => if goS S (s_hd S) (inn (s_cu S c).2.2.1) = false then (-5, S)
      else (match s_sl S (s_cu S c).2.1 with
      | none => (-4, S)
      | some j => if (s_cu S c).2.2.2 < s_sz S j then (if goS S (s_hd S) (inn (s_kd S j)) = false then (-7, S) else (0, w_th (w_hd S none) (up2 (s_th S) j (s_cu S c).2.2.2 (s_hd S)))) else (-6, S))
    | 4 => (0, w_hd (w_sl S (va_up (s_sl S) (s_cu S c).2.1 (s_hd S))) (s_sl S (s_cu S c).2.1))
    | _ => (0, w_sl S (va_up (s_sl S) (s_cu S c).2.2.2 (s_sl S (s_cu S c).2.1)))
def pls : Nat → Nat → zS → Nat × zS
  | 0, _, S => (0, S)
  | n + 1, c, S => if (stp S c).1 = 0 then ((pls n (c + 1) (stp S c).2).1 + 1, (pls n (c + 1) (stp S c).2).2) else (0, w_ms S (stp S c).1 (nI c) (s_of S + 1))
def sp_prop (S : zS) (k n : Int32) : Int32 × zS := match ix 16 k with
  | none => (-2, S)
  | some kk => match ix (if isPc kk = true then 101 else 6) n with
    | none => (-2, S)
    | some nn => if s_np S = 50 then (-3, S) else (nI (s_np S), ((s_np S + 1, s_nc S), (va_up (s_kd S) (s_np S) kk, va_up (s_sz S) (s_np S) nn, upd (s_wr S) (s_np S) 0), (va_up (s_nu S) (s_np S) (fun _ => 0), va_up (s_th S) (s_np S) (fun _ => none)), S.2.2.2))
def sp_set (S : zS) (p i v : Int32) : Int32 × zS := match ix (s_np S) p with
  | none => (-2, S)
  | some j => if 3 < s_kd S j then (-5, S) else match ix (many S j) i with
    | none => (-6, S)
    | some ii => (1, w_nu S (up2 (s_nu S) j ii (cutV (s_kd S j) v)))
def px (S : zS) (p : Int32) : Option (Option Nat) := if p = -1 then some none else (ix (s_np S) p).map some
def sp_slot (S : zS) (x p : Int32) : Int32 × zS := match ix 10 x, px S p with
  | some j, some o => (oI (s_sl S j), w_sl S (va_up (s_sl S) j o))
  | _, _ => (-2, S)
def sp_held (S : zS) (x : Int32) : Int32 := match ix 10 x with
  | none => -2
  | some j => oI (s_sl S j)
def sp_cue (S : zS) (a x v i : Int32) : Int32 × zS := match ix 6 a, ix 10 x, ix 17 v, ix 10 i with
  | some aa, some xx, some vv, some ii => if hasV aa vv = false then (-2, S) else if s_nc S = 30 then (-3, S) else (nI (s_nc S), w_cu S (s_nc S + 1) (va_up (s_cu S) (s_nc S) (aa, xx, vv, ii)))
  | _, _, _, _ => (-2, S)
def sp_play (S : zS) (a b : Int32) : Int32 × zS := match ix (s_nc S) a, ix (s_nc S) b with
  | some x, some y => if x ≤ y then (nI (pls (y + 1 - x) x (w_ms S 0 (-1) (s_of S))).1, (pls (y + 1 - x) x (w_ms S 0 (-1) (s_of S))).2) else (-2, S)
  | _, _ => (-2, S)
def sp_miscue (S : zS) (w : Int32) : Int32 := if w = 0 then s_wy S else if w = 1 then s_at S else if w = 2 then s_of S else -2
def sp_is (S : zS) (p v : Int32) : Int32 := match ix (s_np S) p, ix 17 v with
  | some j, some w => bI (gA (s_kd S j) w)
  | _, _ => -2
def sp_worth (S : zS) (p v : Int32) : Int64 := match ix (s_np S) p, ix 17 v with
  | some j, some w => if gA (s_kd S j) w = true then wOf S j w else 0
  | _, _ => 0
def sp_wear (S : zS) (p : Int32) : Int32 := match ix (s_np S) p with
  | none => -2
  | some j => if 4 ≤ s_kd S j ∧ s_kd S j ≤ 6 then s_wr S j else -5
def sp_at (S : zS) (p i : Int32) : Int32 := match ix (s_np S) p with
  | none => -2
  | some j => if isRw (s_kd S j) = true then (match ix (s_sz S j) i with
    | none => -6
    | some ii => oI (s_th S j ii)) else -5
def sp_count (S : zS) (w : Int32) : Int32 := if w = 0 then nI (s_np S) else if w = 1 then nI (s_nc S) else -2
/-- what holds of every state -/
def zInv (S : zS) : Prop := s_np S ≤ 50 ∧ s_nc S ≤ 30 ∧ (∀ j, j < s_np S → s_kd S j < 16 ∧ s_sz S j ≤ 100 ∧ (isPc (s_kd S j) = false → s_sz S j ≤ 5)) ∧ (∀ j, j < s_np S → 8 ≤ s_kd S j → ∀ i t, i < s_sz S j → s_th S j i = some t → t < s_np S ∧ gA (s_kd S t) (inn (s_kd S j)) = true) ∧ (∀ i t, i < 10 → s_sl S i = some t → t < s_np S) ∧ (∀ t, s_hd S = some t → t < s_np S) ∧ ∀ c, c < s_nc S → (s_cu S c).1 < 6 ∧ (s_cu S c).2.1 < 10 ∧ (s_cu S c).2.2.1 < 17 ∧ (s_cu S c).2.2.2 < 10 ∧ hasV (s_cu S c).1 (s_cu S c).2.2.1 = true
end
section
/-! THE PICTURES: the class's cells, the reference's cells -/
/-- addresses: this, props[], slots[], cues[]; the props, their arrays, the cues -/
abbrev zB : Type := (Nat × Nat × Nat × Nat) × (Nat → Nat) × (Nat → Nat) × (Nat → Nat)
def oA (B : zB) (o : Option Nat) : Option Nat := o.map B.2.1
def pcell (B : zB) (S : zS) (j : Nat) : va_E := if isPc (s_kd S j) = true then .inr (2, [.int (nI j), .int (nI (s_kd S j)), .int (nI (s_sz S j)), .int (s_wr S j)]) else if isRw (s_kd S j) = true then .inr (3, [.int (nI j), .int (nI (s_kd S j)), .ref (B.2.2.1 j)]) else .inr (1, [.int (nI j), .int (nI (s_kd S j)), .ref (B.2.2.1 j)])
abbrev objC (B : zB) (S : zS) : List Value := [.ref B.1.2.1, .int (nI (s_np S)), .ref B.1.2.2.1, va_rf (oA B (s_hd S)), .ref B.1.2.2.2, .int (nI (s_nc S)), .long (s_po S), .int (s_wy S), .int (s_at S), .int (s_of S)]
abbrev cueC (S : zS) (c : Nat) : List Value := [.int (nI (s_cu S c).1), .int (nI (s_cu S c).2.1), .int (nI (s_cu S c).2.2.1), .int (nI (s_cu S c).2.2.2)]
def RepC (G : zm_G) (B : zB) (S : zS) (M : zm_M) : Prop := M B.1.1 = some (.inr (4, objC B S)) ∧ (∃ f, M B.1.2.1 = some (zm_R G 50 f) ∧ ∀ j, j < s_np S → f j = some (B.2.1 j)) ∧ (∃ f, M B.1.2.2.1 = some (zm_R G 10 f) ∧ ∀ i, i < 10 → f i = oA B (s_sl S i)) ∧ (∃ f, M B.1.2.2.2 = some (zm_C G 30 f) ∧ ∀ c, c < s_nc S → f c = some (B.2.2.2 c)) ∧ (∀ c, c < s_nc S → M (B.2.2.2 c) = some (.inr (0, cueC S c))) ∧ (∀ j, j < s_np S → M (B.2.1 j) = some (pcell B S j)) ∧ (∀ j, j < s_np S → isRw (s_kd S j) = true → ∃ f, M (B.2.2.1 j) = some (zm_R G (s_sz S j) f) ∧ ∀ i, i < s_sz S j → f i = oA B (s_th S j i)) ∧ (∀ j, j < s_np S → s_kd S j < 4 → ∃ f, M (B.2.2.1 j) = some (zm_J G (many S j) f) ∧ ∀ i, i < many S j → f i = s_nu S j i) ∧ ∀ j k, j < s_np S → k < s_np S → isPc (s_kd S j) = false → isPc (s_kd S k) = false → B.2.2.1 j = B.2.2.1 k → j = k
abbrev zln (k : Nat) : Nat := match k with
  | 1 => 50
  | 2 => 50
  | 3 => 50
  | 5 => 250
  | 6 => 10
  | _ => 30
abbrev objR (q : Nat → Nat) (S : zS) : List Value := [.int (nI (s_np S)), .ref (q 1), .ref (q 2), .ref (q 3), .ref (q 4), .ref (q 5), .ref (q 6), .int (oI (s_hd S)), .int (nI (s_nc S)), .ref (q 7), .ref (q 8), .ref (q 9), .ref (q 10), .long (s_po S), .int (s_wy S), .int (s_at S), .int (s_of S)]
def zRA (G : zm_G) (q : Nat → Nat) (xs : List Value) (f : Nat → Nat → Int32) (g : Nat → Int64) (N : zm_M) : Prop := (∀ i j, i < 11 → j < 11 → q i = q j → i = j) ∧ N (q 0) = some (.inr (5, xs)) ∧ (∀ k, 1 ≤ k → k < 11 → k ≠ 4 → N (q k) = some (zm_I G (zln k) (f k))) ∧ N (q 4) = some (zm_J G 750 g)
def zAbs (S : zS) (f : Nat → Nat → Int32) (g : Nat → Int64) : Prop := (∀ j, j < s_np S → f 1 j = nI (s_kd S j) ∧ f 2 j = nI (s_sz S j) ∧ f 3 j = s_wr S j) ∧ (∀ j i, j < s_np S → i < 15 → g (15 * j + i) = s_nu S j i) ∧ (∀ j i, j < s_np S → i < 5 → f 5 (5 * j + i) = oI (s_th S j i)) ∧ (∀ i, i < 10 → f 6 i = oI (s_sl S i)) ∧ ∀ c, c < s_nc S → f 7 c = nI (s_cu S c).1 ∧ f 8 c = nI (s_cu S c).2.1 ∧ f 9 c = nI (s_cu S c).2.2.1 ∧ f 10 c = nI (s_cu S c).2.2.2
def RepR (G : zm_G) (q : Nat → Nat) (S : zS) (N : zm_M) : Prop := ∃ f g, zRA G q (objR q S) f g N ∧ zAbs S f g
theorem zRA.ar {G : zm_G} {q : Nat → Nat} {xs : List Value} {f : Nat → Nat → Int32} {g : Nat → Int64} {N : zm_M} (h : zRA G q xs f g N) (k : Nat) (h1 : 1 ≤ k := by decide) (h2 : k < 11 := by decide) (h3 : k ≠ 4 := by decide) : N (q k) = some (zm_I G (zln k) (f k)) := h.2.2.1 k h1 h2 h3
theorem zRA.arr {G : zm_G} {q : Nat → Nat} {xs : List Value} {f : Nat → Nat → Int32} {g : Nat → Int64} {N : zm_M} (h : zRA G q xs f g N) (k : Nat) (u : Nat → Int32) (h1 : 1 ≤ k := by decide) (h2 : k < 11 := by decide) (h3 : k ≠ 4 := by decide) : zRA G q xs (va_up f k u) g (zm_up N (q k) (zm_I G (zln k) u)) := by
  obtain ⟨hi, h0, ha, hn⟩ := h
  refine ⟨hi, zm_up_k (fun e => ?_) h0, fun j j1 j2 j3 => ?_, zm_up_k (fun e => ?_) hn⟩
  · have := hi 0 k (by omega) h2 e; omega
  · by_cases hj : j = k
    · subst hj; rw [zm_up_s, va_up_self]
    · rw [va_up_ne _ _ hj]; exact zm_up_k (fun e => hj (hi j k j2 h2 e)) (ha j j1 j2 j3)
  · exact h3 (hi 4 k (by omega) h2 e).symm
theorem zRA.num {G : zm_G} {q : Nat → Nat} {xs : List Value} {f : Nat → Nat → Int32} {g : Nat → Int64} {N : zm_M} (h : zRA G q xs f g N) (u : Nat → Int64) : zRA G q xs f u (zm_up N (q 4) (zm_J G 750 u)) := by
  obtain ⟨hi, h0, ha, hn⟩ := h
  refine ⟨hi, zm_up_k (fun e => ?_) h0, fun j j1 j2 j3 => zm_up_k (fun e => j3 (hi j 4 j2 (by omega) e)) (ha j j1 j2 j3), zm_up_s⟩
  have := hi 0 4 (by omega) (by omega) e; omega
theorem zRA.fld {G : zm_G} {q : Nat → Nat} {xs : List Value} {f : Nat → Nat → Int32} {g : Nat → Int64} {N : zm_M} (h : zRA G q xs f g N) (ys : List Value) : zRA G q ys f g (zm_up N (q 0) (.inr (5, ys))) := by
  obtain ⟨hi, h0, ha, hn⟩ := h
  refine ⟨hi, zm_up_s, fun j j1 j2 j3 => zm_up_k (fun e => ?_) (ha j j1 j2 j3), zm_up_k (fun e => ?_) hn⟩
  · have := hi j 0 j2 (by omega) e; omega
  · have := hi 4 0 (by omega) (by omega) e; omega
/-! rows on references that may be null -/
section ZQ
variable {p : Program} {l : Launch} {e : Env} {R : Room} {s : State} {m : MethodId} {args : Array Value} {below : List Frame} {meth : Method} {c : Code} {H : Heap} {locs : List Loc} {cells slots : Nat} {Q : State → Prop}
variable {cc : ByteArray} {pc : Nat} {ls : Array Slot} {rest : List Value} {r : Option Nat}
theorem zq_aload_n (hexec : p.tables.exec = Jvm.exec) (hb : c.code = cc) {k : Fin 4} {i : Nat} (hdg : decode cc pc = .ok (.aload_n k, 1)) (hi : (k : Nat) = i) (hl : ls[i]? = some (.val (va_rf r)))
    (kk : W p l e R s m args below meth c H locs cells slots Q (F0 m (pc + 1) ls (va_rf r :: rest))) : W p l e R s m args below meth c H locs cells slots Q (F0 m pc ls rest) := by
  cases r with
  | none => exact lv_aload_nN hexec hb hdg hi hl kk
  | some v => exact lv_aload_n hexec hb hdg hi hl kk
theorem zq_aload (hexec : p.tables.exec = Jvm.exec) (hb : c.code = cc) {i : Nat} (hdg : decode cc pc = .ok (.aload i, 2)) (hl : ls[i]? = some (.val (va_rf r)))
    (kk : W p l e R s m args below meth c H locs cells slots Q (F0 m (pc + 2) ls (va_rf r :: rest))) : W p l e R s m args below meth c H locs cells slots Q (F0 m pc ls rest) := by
  cases r with
  | none => exact lv_aloadN hexec hb hdg hl kk
  | some v => exact lv_aload hexec hb hdg hl kk
theorem zq_astore_n (hexec : p.tables.exec = Jvm.exec) (hb : c.code = cc) {k : Fin 4} {i nL : Nat} {lv lv' : List (Nat × Value)} (hdg : decode cc pc = .ok (.astore_n k, 1)) (hi : (k : Nat) = i) (h : lv_has ls nL lv) (hn : i < nL) (hl : (i, va_rf r) :: lv.filter (fun q => !(q.1 == i) && !(q.1 + 1 == i && q.2.category == 2)) = lv')
    (kk : ∀ ls' : Array Slot, lv_has ls' nL lv' → W p l e R s m args below meth c H locs cells slots Q (F0 m (pc + 1) ls' rest)) : W p l e R s m args below meth c H locs cells slots Q (F0 m pc ls (va_rf r :: rest)) := by
  cases r with
  | none => exact lv_astore_nN hexec hb hdg hi h hn hl kk
  | some v => exact lv_astore_n hexec hb hdg hi h hn hl kk
theorem zq_astore (hexec : p.tables.exec = Jvm.exec) (hb : c.code = cc) {i nL : Nat} {lv lv' : List (Nat × Value)} (hdg : decode cc pc = .ok (.astore i, 2)) (h : lv_has ls nL lv) (hn : i < nL) (hl : (i, va_rf r) :: lv.filter (fun q => !(q.1 == i) && !(q.1 + 1 == i && q.2.category == 2)) = lv')
    (kk : ∀ ls' : Array Slot, lv_has ls' nL lv' → W p l e R s m args below meth c H locs cells slots Q (F0 m (pc + 2) ls' rest)) : W p l e R s m args below meth c H locs cells slots Q (F0 m pc ls (va_rf r :: rest)) := by
  cases r with
  | none => exact lv_astoreN hexec hb hdg h hn hl kk
  | some v => exact lv_astore hexec hb hdg h hn hl kk
theorem zq_ifnull (hexec : p.tables.exec = Jvm.exec) (hb : c.code = cc) {off : Int} {tgt : Nat} (hdg : decode cc pc = .ok (.ifnull off, 3)) (ht : (pc : Int) + off = (tgt : Int)) (kt : r = none → W p l e R s m args below meth c H locs cells slots Q (F0 m tgt ls rest)) (kf : ∀ v, r = some v → W p l e R s m args below meth c H locs cells slots Q (F0 m (pc + 3) ls rest)) : W p l e R s m args below meth c H locs cells slots Q (F0 m pc ls (va_rf r :: rest)) := by
  cases r with
  | none => exact lv_ifnullN hexec hb hdg ht (kt rfl)
  | some v => exact lv_ifnull hexec hb hdg (kf v rfl)
theorem zq_ifnonnull (hexec : p.tables.exec = Jvm.exec) (hb : c.code = cc) {off : Int} {tgt : Nat} (hdg : decode cc pc = .ok (.ifnonnull off, 3)) (ht : (pc : Int) + off = (tgt : Int)) (kt : ∀ v, r = some v → W p l e R s m args below meth c H locs cells slots Q (F0 m tgt ls rest)) (kf : r = none → W p l e R s m args below meth c H locs cells slots Q (F0 m (pc + 3) ls rest)) : W p l e R s m args below meth c H locs cells slots Q (F0 m pc ls (va_rf r :: rest)) := by
  cases r with
  | none => exact lv_ifnonnullN hexec hb hdg (kf rfl)
  | some v => exact lv_ifnonnull hexec hb hdg ht (kt v rfl)
end ZQ
end
section
theorem zq_cat (r : Option Nat) : (va_rf r).category = 1 := by cases r <;> rfl
theorem zq_nar {C : String} (r : Option Nat) : narrow (.object C) (va_rf r) = va_rf r := by cases r <;> rfl
theorem zq_fit {C : String} (r : Option Nat) : fits (.object C) (va_rf r) = true := by cases r <;> rfl
theorem nl_X4_13 : Cond.methodLinkNest RX4 13 yX5_isRow "PropStore" ∈ zm_nws ∧ Cond.static yX5_isRow ∈ wsL_law := ⟨by decide +kernel, ml_X5_155.2⟩
theorem nl_X4_19 : Cond.methodLinkNest RX4 19 yX5_partView "PropStore" ∈ zm_nws ∧ Cond.static yX5_partView ∈ wsL_law := ⟨by decide +kernel, ml_X5_145.2⟩
theorem isSlot_t {x : Int32} (h : ¬ x < 0) (h2 : ¬ 10 ≤ x) : (ix 10 x).isSome = true := by obtain ⟨j, -, -, e⟩ := ix_in (n := 10) (by decide) h h2; rw [e]; rfl
theorem isSlot_f1 {x : Int32} (h : x < 0) : (ix 10 x).isSome = false := by rw [ix_lt h]; rfl
theorem isSlot_f2 {x : Int32} (h : 10 ≤ x) : (ix 10 x).isSome = false := by rw [ix_ge h]; rfl
theorem le_pred {x y z : Int32} (hz : y.toInt + 1 = z.toInt) : ¬ y < x ↔ ¬ z ≤ x := by rw [Int32.lt_iff_toInt_lt, Int32.le_iff_toInt_le]; omega
theorem lt_pred {x y z : Int32} (hz : y.toInt + 1 = z.toInt) : y < x ↔ z ≤ x := by rw [Int32.lt_iff_toInt_lt, Int32.le_iff_toInt_le]; omega
theorem isView_t {x : Int32} (h : ¬ x < 0) (h2 : ¬ 16 < x) : (ix 17 x).isSome = true := by obtain ⟨j, -, -, e⟩ := ix_in (n := 17) (by decide) h ((le_pred (z := 17) (by decide)).mp h2); rw [e]; rfl
theorem isView_f1 {x : Int32} (h : x < 0) : (ix 17 x).isSome = false := by rw [ix_lt h]; rfl
theorem isView_f2 {x : Int32} (h : 16 < x) : (ix 17 x).isSome = false := by rw [ix_ge ((lt_pred (z := 17) (by decide)).mp h)]; rfl
def zbt (a b x : Int32) : Bool := decide (¬ x < a) && decide (¬ b < x)
theorem isPiece_t {x : Int32} (h : ¬ x < 4) (h2 : ¬ 7 < x) : zbt 4 7 x = true := by simp only [zbt, h, h2]; rfl
theorem isPiece_f1 {x : Int32} (h : x < 4) : zbt 4 7 x = false := by simp [zbt, h]
theorem isPiece_f2 {x : Int32} (h : 7 < x) : zbt 4 7 x = false := by simp [zbt, h]
theorem isRow_t {x : Int32} (h : ¬ x < 8) (h2 : ¬ 15 < x) : zbt 8 15 x = true := by simp only [zbt, h, h2]; rfl
theorem isRow_f1 {x : Int32} (h : x < 8) : zbt 8 15 x = false := by simp [zbt, h]
theorem isRow_f2 {x : Int32} (h : 15 < x) : zbt 8 15 x = false := by simp [zbt, h]
set_option maxRecDepth 100000 in
set_option maxHeartbeats 4000000 in
theorem c_X5_isSlot (l : Launch) (G : zm_G) (A : Nat → Prop) (M : zm_M) (x : Int32) : Met l yX5_isSlot (zm_W yX5_isSlot cX5_isSlot 1 (some .boolean)) (zm_rm 0 0 0) (zm_Pc G [.int x] A M) (zm_Q G (fun r M' => r = some (.int (bI ((ix 10 x).isSome))) ∧ M' = M) A) 0 0 A := by
  refine zm_start (by decide) (Nat.le_of_ble_eq_true rfl) ?_
  intro p e s m below meth c hx hb hml hr hts hown hlk hnm hE hA ls hl hM hS
  have hl : lv_has ls 1 [(0, .int x)] := hl
  refine lv_iload_n hx hb dX5_isSlot_0 rfl (lv_at hl 0 rfl) ?_
  refine lv_if_lt (tgt := 14) hx hb dX5_isSlot_1 (by decide) (fun c1 => ?_) (fun c1 => ?_)
  · refine lv_iconst (v := 0) hx hb dX5_isSlot_14 (by decide) ?_
    refine zm_zret hx hb hr hlk hM hS (by first | exact Or.inl rfl | exact Or.inr rfl | exact bI_01 _) ?_ ⟨Nat.le_refl _, Nat.le_refl _⟩ dX5_isSlot_15
    refine ⟨?_, rfl⟩
    first | (rw [isSlot_t (by assumption) (by assumption)]; rfl) | (rw [isSlot_f1 (by assumption)]; rfl) | (rw [isSlot_f2 (by assumption)]; rfl)
  · refine lv_iload_n hx hb dX5_isSlot_4 rfl (lv_at hl 0 rfl) ?_
    refine lv_bipush (v := 10) hx hb dX5_isSlot_5 (by decide) ?_
    refine lv_icmp_ge (tgt := 14) hx hb dX5_isSlot_7 (by decide) (fun c7 => ?_) (fun c7 => ?_)
    · refine lv_iconst (v := 0) hx hb dX5_isSlot_14 (by decide) ?_
      refine zm_zret hx hb hr hlk hM hS (by first | exact Or.inl rfl | exact Or.inr rfl | exact bI_01 _) ?_ ⟨Nat.le_refl _, Nat.le_refl _⟩ dX5_isSlot_15
      refine ⟨?_, rfl⟩
      first | (rw [isSlot_t (by assumption) (by assumption)]; rfl) | (rw [isSlot_f1 (by assumption)]; rfl) | (rw [isSlot_f2 (by assumption)]; rfl)
    · refine lv_iconst (v := 1) hx hb dX5_isSlot_10 (by decide) ?_
      refine lv_goto (tgt := 15) hx hb dX5_isSlot_11 (by decide) ?_
      refine zm_zret hx hb hr hlk hM hS (by first | exact Or.inl rfl | exact Or.inr rfl | exact bI_01 _) ?_ ⟨Nat.le_refl _, Nat.le_refl _⟩ dX5_isSlot_15
      refine ⟨?_, rfl⟩
      first | (rw [isSlot_t (by assumption) (by assumption)]; rfl) | (rw [isSlot_f1 (by assumption)]; rfl) | (rw [isSlot_f2 (by assumption)]; rfl)
set_option maxRecDepth 100000 in
set_option maxHeartbeats 4000000 in
theorem c_X5_isView (l : Launch) (G : zm_G) (A : Nat → Prop) (M : zm_M) (x : Int32) : Met l yX5_isView (zm_W yX5_isView cX5_isView 1 (some .boolean)) (zm_rm 0 0 0) (zm_Pc G [.int x] A M) (zm_Q G (fun r M' => r = some (.int (bI ((ix 17 x).isSome))) ∧ M' = M) A) 0 0 A := by
  refine zm_start (by decide) (Nat.le_of_ble_eq_true rfl) ?_
  intro p e s m below meth c hx hb hml hr hts hown hlk hnm hE hA ls hl hM hS
  have hl : lv_has ls 1 [(0, .int x)] := hl
  refine lv_iload_n hx hb dX5_isView_0 rfl (lv_at hl 0 rfl) ?_
  refine lv_if_lt (tgt := 14) hx hb dX5_isView_1 (by decide) (fun c1 => ?_) (fun c1 => ?_)
  · refine lv_iconst (v := 0) hx hb dX5_isView_14 (by decide) ?_
    refine zm_zret hx hb hr hlk hM hS (by first | exact Or.inl rfl | exact Or.inr rfl | exact bI_01 _) ?_ ⟨Nat.le_refl _, Nat.le_refl _⟩ dX5_isView_15
    refine ⟨?_, rfl⟩
    first | (rw [isView_t (by assumption) (by assumption)]; rfl) | (rw [isView_f1 (by assumption)]; rfl) | (rw [isView_f2 (by assumption)]; rfl)
  · refine lv_iload_n hx hb dX5_isView_4 rfl (lv_at hl 0 rfl) ?_
    refine lv_bipush (v := 16) hx hb dX5_isView_5 (by decide) ?_
    refine lv_icmp_gt (tgt := 14) hx hb dX5_isView_7 (by decide) (fun c7 => ?_) (fun c7 => ?_)
    · refine lv_iconst (v := 0) hx hb dX5_isView_14 (by decide) ?_
      refine zm_zret hx hb hr hlk hM hS (by first | exact Or.inl rfl | exact Or.inr rfl | exact bI_01 _) ?_ ⟨Nat.le_refl _, Nat.le_refl _⟩ dX5_isView_15
      refine ⟨?_, rfl⟩
      first | (rw [isView_t (by assumption) (by assumption)]; rfl) | (rw [isView_f1 (by assumption)]; rfl) | (rw [isView_f2 (by assumption)]; rfl)
    · refine lv_iconst (v := 1) hx hb dX5_isView_10 (by decide) ?_
      refine lv_goto (tgt := 15) hx hb dX5_isView_11 (by decide) ?_
      refine zm_zret hx hb hr hlk hM hS (by first | exact Or.inl rfl | exact Or.inr rfl | exact bI_01 _) ?_ ⟨Nat.le_refl _, Nat.le_refl _⟩ dX5_isView_15
      refine ⟨?_, rfl⟩
      first | (rw [isView_t (by assumption) (by assumption)]; rfl) | (rw [isView_f1 (by assumption)]; rfl) | (rw [isView_f2 (by assumption)]; rfl)
set_option maxRecDepth 100000 in
set_option maxHeartbeats 4000000 in
theorem c_X5_isPiece (l : Launch) (G : zm_G) (A : Nat → Prop) (M : zm_M) (x : Int32) : Met l yX5_isPiece (zm_W yX5_isPiece cX5_isPiece 1 (some .boolean)) (zm_rm 0 0 0) (zm_Pc G [.int x] A M) (zm_Q G (fun r M' => r = some (.int (bI (zbt 4 7 x))) ∧ M' = M) A) 0 0 A := by
  refine zm_start (by decide) (Nat.le_of_ble_eq_true rfl) ?_
  intro p e s m below meth c hx hb hml hr hts hown hlk hnm hE hA ls hl hM hS
  have hl : lv_has ls 1 [(0, .int x)] := hl
  refine lv_iload_n hx hb dX5_isPiece_0 rfl (lv_at hl 0 rfl) ?_
  refine lv_iconst (v := 4) hx hb dX5_isPiece_1 (by decide) ?_
  refine lv_icmp_lt (tgt := 15) hx hb dX5_isPiece_2 (by decide) (fun c2 => ?_) (fun c2 => ?_)
  · refine lv_iconst (v := 0) hx hb dX5_isPiece_15 (by decide) ?_
    refine zm_zret hx hb hr hlk hM hS (by first | exact Or.inl rfl | exact Or.inr rfl | exact bI_01 _) ?_ ⟨Nat.le_refl _, Nat.le_refl _⟩ dX5_isPiece_16
    refine ⟨?_, rfl⟩
    first | (rw [isPiece_t (by assumption) (by assumption)]; rfl) | (rw [isPiece_f1 (by assumption)]; rfl) | (rw [isPiece_f2 (by assumption)]; rfl)
  · refine lv_iload_n hx hb dX5_isPiece_5 rfl (lv_at hl 0 rfl) ?_
    refine lv_bipush (v := 7) hx hb dX5_isPiece_6 (by decide) ?_
    refine lv_icmp_gt (tgt := 15) hx hb dX5_isPiece_8 (by decide) (fun c8 => ?_) (fun c8 => ?_)
    · refine lv_iconst (v := 0) hx hb dX5_isPiece_15 (by decide) ?_
      refine zm_zret hx hb hr hlk hM hS (by first | exact Or.inl rfl | exact Or.inr rfl | exact bI_01 _) ?_ ⟨Nat.le_refl _, Nat.le_refl _⟩ dX5_isPiece_16
      refine ⟨?_, rfl⟩
      first | (rw [isPiece_t (by assumption) (by assumption)]; rfl) | (rw [isPiece_f1 (by assumption)]; rfl) | (rw [isPiece_f2 (by assumption)]; rfl)
    · refine lv_iconst (v := 1) hx hb dX5_isPiece_11 (by decide) ?_
      refine lv_goto (tgt := 16) hx hb dX5_isPiece_12 (by decide) ?_
      refine zm_zret hx hb hr hlk hM hS (by first | exact Or.inl rfl | exact Or.inr rfl | exact bI_01 _) ?_ ⟨Nat.le_refl _, Nat.le_refl _⟩ dX5_isPiece_16
      refine ⟨?_, rfl⟩
      first | (rw [isPiece_t (by assumption) (by assumption)]; rfl) | (rw [isPiece_f1 (by assumption)]; rfl) | (rw [isPiece_f2 (by assumption)]; rfl)
set_option maxRecDepth 100000 in
set_option maxHeartbeats 4000000 in
theorem c_X5_isRow (l : Launch) (G : zm_G) (A : Nat → Prop) (M : zm_M) (x : Int32) : Met l yX5_isRow (zm_W yX5_isRow cX5_isRow 1 (some .boolean)) (zm_rm 0 0 0) (zm_Pc G [.int x] A M) (zm_Q G (fun r M' => r = some (.int (bI (zbt 8 15 x))) ∧ M' = M) A) 0 0 A := by
  refine zm_start (by decide) (Nat.le_of_ble_eq_true rfl) ?_
  intro p e s m below meth c hx hb hml hr hts hown hlk hnm hE hA ls hl hM hS
  have hl : lv_has ls 1 [(0, .int x)] := hl
  refine lv_iload_n hx hb dX5_isRow_0 rfl (lv_at hl 0 rfl) ?_
  refine lv_bipush (v := 8) hx hb dX5_isRow_1 (by decide) ?_
  refine lv_icmp_lt (tgt := 16) hx hb dX5_isRow_3 (by decide) (fun c3 => ?_) (fun c3 => ?_)
  · refine lv_iconst (v := 0) hx hb dX5_isRow_16 (by decide) ?_
    refine zm_zret hx hb hr hlk hM hS (by first | exact Or.inl rfl | exact Or.inr rfl | exact bI_01 _) ?_ ⟨Nat.le_refl _, Nat.le_refl _⟩ dX5_isRow_17
    refine ⟨?_, rfl⟩
    first | (rw [isRow_t (by assumption) (by assumption)]; rfl) | (rw [isRow_f1 (by assumption)]; rfl) | (rw [isRow_f2 (by assumption)]; rfl)
  · refine lv_iload_n hx hb dX5_isRow_6 rfl (lv_at hl 0 rfl) ?_
    refine lv_bipush (v := 15) hx hb dX5_isRow_7 (by decide) ?_
    refine lv_icmp_gt (tgt := 16) hx hb dX5_isRow_9 (by decide) (fun c9 => ?_) (fun c9 => ?_)
    · refine lv_iconst (v := 0) hx hb dX5_isRow_16 (by decide) ?_
      refine zm_zret hx hb hr hlk hM hS (by first | exact Or.inl rfl | exact Or.inr rfl | exact bI_01 _) ?_ ⟨Nat.le_refl _, Nat.le_refl _⟩ dX5_isRow_17
      refine ⟨?_, rfl⟩
      first | (rw [isRow_t (by assumption) (by assumption)]; rfl) | (rw [isRow_f1 (by assumption)]; rfl) | (rw [isRow_f2 (by assumption)]; rfl)
    · refine lv_iconst (v := 1) hx hb dX5_isRow_12 (by decide) ?_
      refine lv_goto (tgt := 17) hx hb dX5_isRow_13 (by decide) ?_
      refine zm_zret hx hb hr hlk hM hS (by first | exact Or.inl rfl | exact Or.inr rfl | exact bI_01 _) ?_ ⟨Nat.le_refl _, Nat.le_refl _⟩ dX5_isRow_17
      refine ⟨?_, rfl⟩
      first | (rw [isRow_t (by assumption) (by assumption)]; rfl) | (rw [isRow_f1 (by assumption)]; rfl) | (rw [isRow_f2 (by assumption)]; rfl)
end
section
/-! what a write does to the class's picture -/
theorem zInv.sz5 {S : zS} (h : zInv S) {j : Nat} (hj : j < s_np S) (hk : isPc (s_kd S j) = false) : s_sz S j ≤ 5 := (h.2.2.1 j hj).2.2 hk
theorem rw_pc {k : Nat} (h : isRw k = true) : isPc k = false := by
  simp only [isRw, isPc, Bool.and_eq_true, decide_eq_true_eq, Bool.and_eq_false_iff, decide_eq_false_iff_not] at *
  omega
theorem lt4_pc {k : Nat} (h : k < 4) : isPc k = false := by simp [isPc]; omega
theorem lt4_rw {k : Nat} (h : k < 4) : isRw k = false := by simp [isRw]; omega
theorem pc_rw {k : Nat} (h : isPc k = true) : isRw k = false := by
  simp only [isRw, isPc, Bool.and_eq_true, decide_eq_true_eq, Bool.and_eq_false_iff, decide_eq_false_iff_not] at *
  omega
theorem many15 {S : zS} (h : zInv S) {j : Nat} (hj : j < s_np S) (hk : s_kd S j < 4) : many S j ≤ 15 := by
  have := h.sz5 hj (lt4_pc hk)
  unfold many; split <;> omega
theorem pcell_cls (B : zB) (S : zS) (j : Nat) : ∃ ci fs, pcell B S j = .inr (ci, fs) ∧ (ci = 1 ∨ ci = 2 ∨ ci = 3) := by
  unfold pcell
  split
  · exact ⟨_, _, rfl, by simp⟩
  · split
    · exact ⟨_, _, rfl, by simp⟩
    · exact ⟨_, _, rfl, by simp⟩
theorem pcell_pc {B : zB} {S : zS} {j : Nat} (h : isPc (s_kd S j) = true) : pcell B S j = .inr (2, [.int (nI j), .int (nI (s_kd S j)), .int (nI (s_sz S j)), .int (s_wr S j)]) := by unfold pcell; rw [if_pos h]
theorem pcell_rw {B : zB} {S : zS} {j : Nat} (h : isRw (s_kd S j) = true) : pcell B S j = .inr (3, [.int (nI j), .int (nI (s_kd S j)), .ref (B.2.2.1 j)]) := by unfold pcell; rw [if_neg (by rw [rw_pc h]; decide), if_pos h]
theorem pcell_nu {B : zB} {S : zS} {j : Nat} (h : s_kd S j < 4) : pcell B S j = .inr (1, [.int (nI j), .int (nI (s_kd S j)), .ref (B.2.2.1 j)]) := by unfold pcell; rw [if_neg (by rw [lt4_pc h]; decide), if_neg (by rw [lt4_rw h]; decide)]
theorem pcell_ne {B : zB} {S : zS} {j ci : Nat} {fs : List Value} (h : ci = 0 ∨ ci = 4 ∨ ci = 5) : pcell B S j ≠ .inr (ci, fs) := by
  obtain ⟨c, g, e, hc⟩ := pcell_cls B S j
  rw [e]
  intro q
  injection q with q
  injection q with q1 q2
  omega
theorem pcell_nl {B : zB} {S : zS} {j : Nat} {x : ClassId × vp_A} : pcell B S j ≠ .inl x := by
  obtain ⟨c, g, e, hc⟩ := pcell_cls B S j
  rw [e]
  intro q
  cases q
theorem RepC.num {G : zm_G} {B : zB} {S : zS} {M : zm_M} (h : RepC G B S M) (hI : zInv S) {j i : Nat} {v : Int64} {f : Nat → Int64} (hj : j < s_np S) (hk : s_kd S j < 4) (hf : M (B.2.2.1 j) = some (zm_J G (many S j) f)) (hi : ∀ i, i < many S j → f i = s_nu S j i) : RepC G B (w_nu S (up2 (s_nu S) j i v)) (zm_up M (B.2.2.1 j) (zm_J G (many S j) (vp_updL f i v))) := by
  obtain ⟨h0, ⟨f1, h1, e1⟩, ⟨f2, h2, e2⟩, ⟨f3, h3, e3⟩, h4, h5, h6, h7, h8⟩ := h
  refine ⟨zm_up_k (zm_ne h0 hf (by simp)) h0, ⟨f1, zm_up_k (zm_ne h1 hf (by simp)) h1, e1⟩, ⟨f2, zm_up_k (zm_ne h2 hf (by simp)) h2, e2⟩, ⟨f3, zm_up_k (zm_ne h3 hf (by simp)) h3, e3⟩, fun c hc => zm_up_k (zm_ne (h4 c hc) hf (by simp)) (h4 c hc), fun k hk' => zm_up_k (zm_ne (h5 k hk') hf pcell_nl) (h5 k hk'), fun k hk1 hk2 => ?_, fun k hk1 hk2 => ?_, h8⟩
  · obtain ⟨g, g1, g2⟩ := h6 k hk1 hk2
    exact ⟨g, zm_up_k (zm_ne g1 hf (by simp)) g1, g2⟩
  · by_cases hkj : k = j
    · subst hkj
      refine ⟨_, zm_up_s, fun a ha => ?_⟩
      show vp_updL f i v a = up2 (s_nu S) k i v k a
      unfold vp_updL up2
      by_cases hq : a = i
      · simp [hq]
      · simp [hq]; exact hi a ha
    · obtain ⟨g, g1, g2⟩ := h7 k hk1 hk2
      refine ⟨g, zm_up_k (fun q => hkj (h8 k j hk1 hj (lt4_pc hk2) (lt4_pc hk) q)) g1, fun a ha => ?_⟩
      show g a = up2 (s_nu S) j i v k a
      unfold up2
      rw [if_neg (fun q => hkj q.1)]
      exact g2 a ha
theorem RepC.slot {G : zm_G} {B : zB} {S : zS} {M : zm_M} (h : RepC G B S M) (hI : zInv S) {i : Nat} {o : Option Nat} {f : Nat → Option Nat} (hf : M B.1.2.2.1 = some (zm_R G 10 f)) (he : ∀ i, i < 10 → f i = oA B (s_sl S i)) : RepC G B (w_sl S (va_up (s_sl S) i o)) (zm_up M B.1.2.2.1 (zm_R G 10 (va_up f i (oA B o)))) := by
  obtain ⟨h0, ⟨f1, h1, e1⟩, -, ⟨f3, h3, e3⟩, h4, h5, h6, h7, h8⟩ := h
  refine ⟨zm_up_k (zm_ne h0 hf (by simp)) h0, ⟨f1, zm_up_k (zm_ne h1 hf (by simp)) h1, e1⟩, ⟨_, zm_up_s, fun a ha => ?_⟩, ⟨f3, zm_up_k (zm_ne h3 hf (by simp)) h3, e3⟩, fun c hc => zm_up_k (zm_ne (h4 c hc) hf (by simp)) (h4 c hc), fun k hk' => zm_up_k (zm_ne (h5 k hk') hf pcell_nl) (h5 k hk'), fun k hk1 hk2 => ?_, fun k hk1 hk2 => ?_, h8⟩
  · show va_up f i (oA B o) a = oA B (va_up (s_sl S) i o a)
    by_cases hq : a = i
    · subst hq; rw [va_up_self, va_up_self]
    · rw [va_up_ne _ _ hq, va_up_ne _ _ hq]; exact he a ha
  · obtain ⟨g, g1, g2⟩ := h6 k hk1 hk2
    refine ⟨g, zm_up_k (zm_ne g1 hf (fun q => ?_)) g1, g2⟩
    have := hI.sz5 hk1 (rw_pc hk2)
    injection q with q
    injection q with q1 q2
    injection q2 with q3 q4
    omega
  · obtain ⟨g, g1, g2⟩ := h7 k hk1 hk2
    exact ⟨g, zm_up_k (zm_ne g1 hf (by simp)) g1, g2⟩
theorem RepC.place {G : zm_G} {B : zB} {S : zS} {M : zm_M} (h : RepC G B S M) (hI : zInv S) {j i : Nat} {o : Option Nat} {f : Nat → Option Nat} (hj : j < s_np S) (hk : isRw (s_kd S j) = true) (hf : M (B.2.2.1 j) = some (zm_R G (s_sz S j) f)) (hi : ∀ i, i < s_sz S j → f i = oA B (s_th S j i)) : RepC G B (w_th S (up2 (s_th S) j i o)) (zm_up M (B.2.2.1 j) (zm_R G (s_sz S j) (va_up f i (oA B o)))) := by
  have h5j := hI.sz5 hj (rw_pc hk)
  obtain ⟨h0, ⟨f1, h1, e1⟩, ⟨f2, h2, e2⟩, ⟨f3, h3, e3⟩, h4, h5, h6, h7, h8⟩ := h
  have len : ∀ {cA cB : ClassId} {n m : Nat} {x y : (Nat → Int32) ⊕ (Nat → Int64) ⊕ (Nat → UInt32) ⊕ (Nat → UInt64) ⊕ (Nat → Option Nat)}, n ≠ m → (Sum.inl (cA, n, x) : va_E) ≠ Sum.inl (cB, m, y) := by
    intro cA cB n m x y hn q
    injection q with q
    injection q with q1 q2
    injection q2 with q3 q4
    exact hn q3
  refine ⟨zm_up_k (zm_ne h0 hf (by simp)) h0, ⟨f1, zm_up_k (zm_ne h1 hf (len (by omega))) h1, e1⟩, ⟨f2, zm_up_k (zm_ne h2 hf (len (by omega))) h2, e2⟩, ⟨f3, zm_up_k (zm_ne h3 hf (len (by omega))) h3, e3⟩, fun c hc => zm_up_k (zm_ne (h4 c hc) hf (by simp)) (h4 c hc), fun k hk' => zm_up_k (zm_ne (h5 k hk') hf pcell_nl) (h5 k hk'), fun k hk1 hk2 => ?_, fun k hk1 hk2 => ?_, h8⟩
  · by_cases hkj : k = j
    · subst hkj
      refine ⟨_, zm_up_s, fun a ha => ?_⟩
      show va_up f i (oA B o) a = oA B (up2 (s_th S) k i o k a)
      unfold up2
      by_cases hq : a = i
      · subst hq; simp [va_up_self]
      · rw [va_up_ne _ _ hq, if_neg (fun q => hq q.2)]; exact hi a ha
    · obtain ⟨g, g1, g2⟩ := h6 k hk1 hk2
      refine ⟨g, zm_up_k (fun q => hkj (h8 k j hk1 hj (rw_pc hk2) (rw_pc hk) q)) g1, fun a ha => ?_⟩
      show g a = oA B (up2 (s_th S) j i o k a)
      unfold up2
      rw [if_neg (fun q => hkj q.1)]
      exact g2 a ha
  · obtain ⟨g, g1, g2⟩ := h7 k hk1 hk2
    exact ⟨g, zm_up_k (zm_ne g1 hf (by simp)) g1, g2⟩
theorem ad_inj {G : zm_G} {B : zB} {S : zS} {M : zm_M} (h : RepC G B S M) (hI : zInv S) {j k : Nat} (hj : j < s_np S) (hk : k < s_np S) (e : B.2.1 j = B.2.1 k) : j = k := by
  have h1 := h.2.2.2.2.2.1 j hj
  have h2 := h.2.2.2.2.2.1 k hk
  rw [e, h2] at h1
  have h3 := Option.some.inj h1
  have hn : nI k = nI j := by
    unfold pcell at h3
    split at h3 <;> split at h3 <;> (try split at h3) <;> (try split at h3) <;> simp at h3 <;> first | exact h3.1 | exact h3.1.symm
  have := hI.1
  exact ((nI_eq (by omega) (by omega)).mp hn).symm
theorem RepC.wear {G : zm_G} {B : zB} {S : zS} {M : zm_M} (h : RepC G B S M) (hI : zInv S) {j : Nat} {v : Int32} (hj : j < s_np S) (hk : isPc (s_kd S j) = true) : RepC G B (w_wr S (upd (s_wr S) j v)) (zm_up M (B.2.1 j) (.inr (2, [.int (nI j), .int (nI (s_kd S j)), .int (nI (s_sz S j)), .int v]))) := by
  have inj := fun {a b : Nat} (ha : a < s_np S) (hb : b < s_np S) => ad_inj h hI ha hb
  obtain ⟨h0, ⟨f1, h1, e1⟩, ⟨f2, h2, e2⟩, ⟨f3, h3, e3⟩, h4, h5, h6, h7, h8⟩ := h
  have hf := h5 j hj
  rw [pcell_pc hk] at hf
  refine ⟨zm_up_k (zm_ne h0 hf (by simp)) h0, ⟨f1, zm_up_k (zm_ne h1 hf (by simp)) h1, e1⟩, ⟨f2, zm_up_k (zm_ne h2 hf (by simp)) h2, e2⟩, ⟨f3, zm_up_k (zm_ne h3 hf (by simp)) h3, e3⟩, fun c hc => zm_up_k (zm_ne (h4 c hc) hf (by simp)) (h4 c hc), fun k hk' => ?_, fun k hk1 hk2 => ?_, fun k hk1 hk2 => ?_, h8⟩
  · by_cases hkj : k = j
    · subst hkj
      rw [zm_up_s, pcell_pc (S := w_wr S (upd (s_wr S) k v)) hk]
      simp
      exact pk_us.symm
    · rw [zm_up_n (fun q => hkj (inj hk' hj q)), h5 k hk']
      unfold pcell
      dsimp only [s_wr, w_wr, s_kd, s_sz]
      rw [pk_un hkj]
  · obtain ⟨g, g1, g2⟩ := h6 k hk1 hk2
    exact ⟨g, zm_up_k (zm_ne g1 hf (by simp)) g1, g2⟩
  · obtain ⟨g, g1, g2⟩ := h7 k hk1 hk2
    exact ⟨g, zm_up_k (zm_ne g1 hf (by simp)) g1, g2⟩
/-- the object's own fields -/
theorem RepC.fld {G : zm_G} {B : zB} {S S' : zS} {M : zm_M} (h : RepC G B S M) (e0 : S'.1.1 = S.1.1) (e1 : S'.2.1 = S.2.1) (e2 : S'.2.2.1 = S.2.2.1) (e3 : s_sl S' = s_sl S) (e4 : s_nc S' ≤ s_nc S) (e5 : s_cu S' = s_cu S) : RepC G B S' (zm_up M B.1.1 (.inr (4, objC B S'))) := by
  obtain ⟨h0, ⟨f1, h1, x1⟩, ⟨f2, h2, x2⟩, ⟨f3, h3, x3⟩, h4, h5, h6, h7, h8⟩ := h
  obtain ⟨⟨np, nc⟩, a, b, ⟨sl, hd⟩, cu, r⟩ := S
  obtain ⟨⟨np', nc'⟩, a', b', ⟨sl', hd'⟩, cu', r'⟩ := S'
  simp only at e0 e1 e2 e3 e4 e5
  subst e0; subst e1; subst e2; subst e3; subst e5
  refine ⟨zm_up_s, ⟨f1, zm_up_k (zm_ne h1 h0 (by simp)) h1, x1⟩, ⟨f2, zm_up_k (zm_ne h2 h0 (by simp)) h2, x2⟩, ⟨f3, zm_up_k (zm_ne h3 h0 (by simp)) h3, fun c hc => x3 c (Nat.lt_of_lt_of_le hc e4)⟩, fun c hc => zm_up_k (zm_ne (h4 c (Nat.lt_of_lt_of_le hc e4)) h0 (by simp)) (h4 c (Nat.lt_of_lt_of_le hc e4)), fun k hk' => zm_up_k (zm_ne (h5 k hk') h0 (pcell_ne (by simp))) (h5 k hk'), fun k hk1 hk2 => ?_, fun k hk1 hk2 => ?_, h8⟩
  · obtain ⟨g, g1, g2⟩ := h6 k hk1 hk2
    exact ⟨g, zm_up_k (zm_ne g1 h0 (by simp)) g1, g2⟩
  · obtain ⟨g, g1, g2⟩ := h7 k hk1 hk2
    exact ⟨g, zm_up_k (zm_ne g1 h0 (by simp)) g1, g2⟩
end
section
set_option maxRecDepth 100000 in
set_option maxHeartbeats 4000000 in
theorem c_X5_isAmong (l : Launch) (G : zm_G) (A : Nat → Prop) (M : zm_M) (x y : Int32) : Met l yX5_isAmong (zm_W yX5_isAmong cX5_isAmong 2 (some .boolean)) (zm_rm 0 0 0) (zm_Pc G [.int x, .int y] A M) (zm_Q G (fun r M' => r = some (.int (bI (decide ((x >>> (y &&& 31)) &&& 1 = 1)))) ∧ M' = M) A) 0 0 A := by
  refine zm_start (by decide) (Nat.le_of_ble_eq_true rfl) ?_
  intro p e s m below meth c hx hb hml hr hts hown hlk hnm hE hA ls hl hM hS
  have hl : lv_has ls 2 [(0, .int x), (1, .int y)] := hl
  refine lv_iload_n hx hb dX5_isAmong_0 rfl (lv_at hl 0 rfl) ?_
  refine lv_iload_n hx hb dX5_isAmong_1 rfl (lv_at hl 1 rfl) ?_
  refine lv_ishr hx hb dX5_isAmong_2 ?_
  refine lv_iconst (v := 1) hx hb dX5_isAmong_3 (by decide) ?_
  refine lv_iand hx hb dX5_isAmong_4 ?_
  refine lv_iconst (v := 1) hx hb dX5_isAmong_5 (by decide) ?_
  refine lv_icmp_ne (tgt := 13) hx hb dX5_isAmong_6 (by decide) (fun c6 => ?_) (fun c6 => ?_)
  · refine lv_iconst (v := 0) hx hb dX5_isAmong_13 (by decide) ?_
    refine zm_zret hx hb hr hlk hM hS (by first | exact Or.inl rfl | exact Or.inr rfl | exact bI_01 _) ?_ ⟨Nat.le_refl _, Nat.le_refl _⟩ dX5_isAmong_14
    refine ⟨?_, rfl⟩
    first | (rw [decide_eq_true (by assumption)]; rfl) | (rw [decide_eq_false (by assumption)]; rfl)
  · refine lv_iconst (v := 1) hx hb dX5_isAmong_9 (by decide) ?_
    refine lv_goto (tgt := 14) hx hb dX5_isAmong_10 (by decide) ?_
    refine zm_zret hx hb hr hlk hM hS (by first | exact Or.inl rfl | exact Or.inr rfl | exact bI_01 _) ?_ ⟨Nat.le_refl _, Nat.le_refl _⟩ dX5_isAmong_14
    refine ⟨?_, rfl⟩
    first | (rw [decide_eq_true (by assumption)]; rfl) | (rw [decide_eq_false (by assumption)]; rfl)
theorem zbt_pc : ∀ k, k < 16 → zbt 4 7 (nI k) = isPc k := by decide
theorem zbt_rw : ∀ k, k < 17 → zbt 8 15 (nI k) = isRw k := by decide
set_option maxRecDepth 100000 in
set_option maxHeartbeats 4000000 in
theorem c_X5_mostOf (l : Launch) (G : zm_G) (A : Nat → Prop) (M : zm_M) (k : Nat) (hk : k < 16) : Met l yX5_mostOf (zm_W yX5_mostOf cX5_mostOf 1 (some .int)) (zm_rm 1 0 0) (zm_Pc G [.int (nI k)] A M) (zm_Q G (fun r M' => r = some (.int (nI (if isPc k = true then 100 else 5))) ∧ M' = M) A) 0 0 A := by
  refine zm_start (by decide) (Nat.le_of_ble_eq_true rfl) ?_
  intro p e s m below meth c hx hb hml hr hts hown hlk hnm hE hA ls hl hM hS
  have hl : lv_has ls 1 [(0, .int (nI k))] := hl
  refine lv_iload_n hx hb dX5_mostOf_0 rfl (lv_at hl 0 rfl) ?_
  refine zm_callS (As := [.int (nI k)]) (rest := []) hx hb hml hts hown hE hA hM hS (c_X5_isPiece l G A _ (nI k)) cd_X5_isPiece ml_X5_149 rfl rfl hl.1 (Nat.le_of_ble_eq_true rfl) ⟨Nat.le_of_ble_eq_true rfl, Nat.le_of_ble_eq_true rfl⟩ ⟨Nat.le_of_ble_eq_true rfl, Nat.le_of_ble_eq_true rfl⟩ dX5_mostOf_1 ?_
  rintro r M1 H locs ⟨rfl, e1⟩ hM hS
  rw [e1] at hM
  clear e1 M1
  refine W.eq (g2 := F0 m 4 ls [.int (bI (zbt 4 7 (nI k)))]) rfl ?_
  refine lv_if_eq (tgt := 12) hx hb dX5_mostOf_4 (by decide) (fun c4 => ?_) (fun c4 => ?_)
  · rw [zbt_pc k hk, bI_0] at c4
    refine lv_iconst (v := 5) hx hb dX5_mostOf_12 (by decide) ?_
    refine zm_iret hx hb hr hlk hM hS ?_ ⟨Nat.le_refl _, Nat.le_refl _⟩ dX5_mostOf_13
    refine ⟨?_, rfl⟩
    first | (rw [if_pos c4]; rfl) | (rw [if_neg (by rw [c4]; decide)]; rfl)
  · rw [zbt_pc k hk, bI_n] at c4
    refine lv_bipush (v := 100) hx hb dX5_mostOf_7 (by decide) ?_
    refine lv_goto (tgt := 13) hx hb dX5_mostOf_9 (by decide) ?_
    refine zm_iret hx hb hr hlk hM hS ?_ ⟨Nat.le_refl _, Nat.le_refl _⟩ dX5_mostOf_13
    refine ⟨?_, rfl⟩
    first | (rw [if_pos c4]; rfl) | (rw [if_neg (by rw [c4]; decide)]; rfl)
theorem zpv_tab : ∀ k, k < 8 → zm_tv 2 k = nI (inn (8 + k)) := by decide
set_option maxRecDepth 100000 in
set_option maxHeartbeats 4000000 in
theorem c_X5_partView (l : Launch) (G : zm_G) (A : Nat → Prop) (M : zm_M) (k : Nat) (hk : 8 ≤ k) (hk2 : k ≤ 15) : Met l yX5_partView (zm_W yX5_partView cX5_partView 1 (some .int)) (zm_rm 1 0 0) (zm_Pc G [.int (nI k)] A M) (zm_Q G (fun r M' => r = some (.int (nI (inn k))) ∧ M' = M) A) 0 0 A := by
  refine zm_start (by decide) (Nat.le_of_ble_eq_true rfl) ?_
  intro p e s m below meth c hx hb hml hr hts hown hlk hnm hE hA ls hl hM hS
  have hl : lv_has ls 1 [(0, .int (nI k))] := hl
  refine lv_iload_n hx hb dX5_partView_0 rfl (lv_at hl 0 rfl) ?_
  refine zm_callS (As := [.int (nI k)]) (rest := []) hx hb hml hts hown hE hA hM hS (c_X5_isRow l G A _ (nI k)) cd_X5_isRow ml_X5_155 rfl rfl hl.1 (Nat.le_of_ble_eq_true rfl) ⟨Nat.le_of_ble_eq_true rfl, Nat.le_of_ble_eq_true rfl⟩ ⟨Nat.le_of_ble_eq_true rfl, Nat.le_of_ble_eq_true rfl⟩ dX5_partView_1 ?_
  rintro r M1 H locs ⟨rfl, e1⟩ hM hS
  rw [e1] at hM
  clear e1 M1
  refine W.eq (g2 := F0 m 4 ls [.int (bI (zbt 8 15 (nI k)))]) rfl ?_
  refine lv_if_eq (tgt := 18) hx hb dX5_partView_4 (by decide) (fun c4 => ?_) (fun c4 => ?_)
  · exact absurd (bI_0.mp c4) (by rw [zbt_rw k (by omega)]; simp [isRw, hk, hk2])
  · refine zm_gets hx hb hts hown hE hS 2 (by decide) st_X5_167 dX5_partView_7 ?_
    refine lv_iload_n hx hb dX5_partView_10 rfl (lv_at hl 0 rfl) ?_
    refine lv_bipush (v := 8) hx hb dX5_partView_11 (by decide) ?_
    refine lv_isub hx hb dX5_partView_13 ?_
    refine zt_eq (v' := .int (nI (k - 8))) (congrArg Value.int (pk_sub (b := 8) hk)) ?_
    refine zm_tab hx hb hE hS 2 (by decide) (vp_in_nI (show k - 8 < 8 by omega) (by decide)) dX5_partView_14 ?_
    refine zt_eq (v' := .int (nI (inn k))) (by rw [nI_clamp (by omega), zpv_tab (k - 8) (by omega), show 8 + (k - 8) = k by omega]) ?_
    refine lv_goto (tgt := 19) hx hb dX5_partView_15 (by decide) ?_
    refine zm_iret hx hb hr hlk hM hS ?_ ⟨Nat.le_refl _, Nat.le_refl _⟩ dX5_partView_19
    exact ⟨rfl, rfl⟩
section ZGP
variable {p : Program} {l : Launch} {e : Env} {R : Room} {s : State} {m : MethodId} {args : Array Value} {below : List Frame} {meth : Method} {c : Code} {H : Heap} {locs : List Loc} {cells slots : Nat} {Q : State → Prop}
variable {cc : ByteArray} {pc : Nat} {ls : Array Slot} {rest : List Value} {G : zm_G} {A : Nat → Prop} {M : zm_M} {B : zB} {S : zS} {j : Nat}
theorem zm_getPn (hx : p.tables.exec = Jvm.exec) (hb : c.code = cc) (hts : ∀ w ∈ wsL_law, w.before args s = true) (hown : s.vm.findClass RX5 = some m.cls) (hE : zm_E G A s s.heap) (hM : zm_P G A M H) (hR : RepC G B S M) (hj : j < s_np S) (hdg : decode cc pc = .ok (.getfield 160, 3))
    (kk : W p l e R s m args below meth c H locs cells slots Q (F0 m (pc + 3) ls (.int (nI j) :: rest))) : W p l e R s m args below meth c H locs cells slots Q (F0 m pc ls (.ref (B.2.1 j) :: rest)) := by
  have h := hR.2.2.2.2.2.1 j hj
  unfold pcell at h
  split at h
  · exact zm_get hx hb hts hown hE hM h fl_X5_160_2 rfl hdg kk
  · split at h
    · exact zm_get hx hb hts hown hE hM h fl_X5_160_3 rfl hdg kk
    · exact zm_get hx hb hts hown hE hM h fl_X5_160_1 rfl hdg kk
theorem zm_getPk (hx : p.tables.exec = Jvm.exec) (hb : c.code = cc) (hts : ∀ w ∈ wsL_law, w.before args s = true) (hown : s.vm.findClass RX5 = some m.cls) (hE : zm_E G A s s.heap) (hM : zm_P G A M H) (hR : RepC G B S M) (hj : j < s_np S) (hdg : decode cc pc = .ok (.getfield 166, 3))
    (kk : W p l e R s m args below meth c H locs cells slots Q (F0 m (pc + 3) ls (.int (nI (s_kd S j)) :: rest))) : W p l e R s m args below meth c H locs cells slots Q (F0 m pc ls (.ref (B.2.1 j) :: rest)) := by
  have h := hR.2.2.2.2.2.1 j hj
  unfold pcell at h
  split at h
  · exact zm_get hx hb hts hown hE hM h fl_X5_166_2 rfl hdg kk
  · split at h
    · exact zm_get hx hb hts hown hE hM h fl_X5_166_3 rfl hdg kk
    · exact zm_get hx hb hts hown hE hM h fl_X5_166_1 rfl hdg kk
end ZGP
set_option maxRecDepth 100000 in
set_option maxHeartbeats 4000000 in
theorem c_X5_numberOf (l : Launch) (G : zm_G) (A : Nat → Prop) (B : zB) (S : zS) (M : zm_M) (o : Option Nat) (hR : RepC G B S M) (ho : ∀ j, o = some j → j < s_np S) : Met l yX5_numberOf (zm_W yX5_numberOf cX5_numberOf 1 (some .int)) (zm_rm 0 0 0) (zm_Pc G [va_rf (oA B o)] A M) (zm_Q G (fun r M' => r = some (.int (oI o)) ∧ M' = M) A) 0 0 A := by
  refine zm_start (by decide) (by generalize (oA B o) = z; cases z <;> exact Nat.le_of_ble_eq_true rfl) ?_
  intro p e s m below meth c hx hb hml hr hts hown hlk hnm hE hA ls hl hM hS
  have hl : lv_has ls 1 [(0, va_rf (oA B o))] := by revert hl; generalize (oA B o) = z; cases z <;> exact id
  refine zq_aload_n hx hb dX5_numberOf_0 rfl (lv_at hl 0 rfl) ?_
  refine zq_ifnonnull (tgt := 8) hx hb dX5_numberOf_1 (by decide) (fun a1 c1 => ?_) (fun c1 => ?_)
  · obtain ⟨j, rfl, rfl⟩ : ∃ j, o = some j ∧ B.2.1 j = a1 := by
      cases o with
      | none => cases c1
      | some j => exact ⟨j, rfl, Option.some.inj c1⟩
    have hj := ho j rfl
    refine lv_aload_n hx hb dX5_numberOf_8 rfl (lv_at hl 0 rfl) ?_
    refine zm_getPn hx hb hts hown hE hM hR hj dX5_numberOf_9 ?_
    refine zm_iret hx hb hr hlk hM hS ?_ ⟨Nat.le_refl _, Nat.le_refl _⟩ dX5_numberOf_12
    exact ⟨rfl, rfl⟩
  · obtain rfl : o = none := by
      cases o with
      | none => rfl
      | some j => cases c1
    refine lv_iconst (v := (-1)) hx hb dX5_numberOf_4 (by decide) ?_
    refine lv_goto (tgt := 12) hx hb dX5_numberOf_5 (by decide) ?_
    refine zm_iret hx hb hr hlk hM hS ?_ ⟨Nat.le_refl _, Nat.le_refl _⟩ dX5_numberOf_12
    exact ⟨rfl, rfl⟩
set_option maxRecDepth 20000 in
theorem gA_tab : ∀ k, k < 16 → ∀ v, v < 17 → decide ((zm_tv 0 k >>> (nI v &&& 31)) &&& 1 = 1) = gA k v := by decide +kernel
set_option maxRecDepth 100000 in
set_option maxHeartbeats 4000000 in
theorem c_X5_goesAs (l : Launch) (G : zm_G) (A : Nat → Prop) (B : zB) (S : zS) (M : zm_M) (o : Option Nat) (v : Nat) (hv : v < 17) (hI : zInv S) (hR : RepC G B S M) (ho : ∀ j, o = some j → j < s_np S) : Met l yX5_goesAs (zm_W yX5_goesAs cX5_goesAs 2 (some .boolean)) (zm_rm 1 0 0) (zm_Pc G [va_rf (oA B o), .int (nI v)] A M) (zm_Q G (fun r M' => r = some (.int (bI (goS S o v))) ∧ M' = M) A) 0 0 A := by
  refine zm_start (by decide) (by generalize (oA B o) = z; cases z <;> exact Nat.le_of_ble_eq_true rfl) ?_
  intro p e s m below meth c hx hb hml hr hts hown hlk hnm hE hA ls hl hM hS
  have hl : lv_has ls 2 [(0, va_rf (oA B o)), (1, .int (nI v))] := by revert hl; generalize (oA B o) = z; cases z <;> exact id
  refine zq_aload_n hx hb dX5_goesAs_0 rfl (lv_at hl 0 rfl) ?_
  refine zq_ifnull (tgt := 19) hx hb dX5_goesAs_1 (by decide) (fun c1 => ?_) (fun a1 c1 => ?_)
  · obtain rfl : o = none := by
      cases o with
      | none => rfl
      | some j => cases c1
    refine lv_iconst (v := 1) hx hb dX5_goesAs_19 (by decide) ?_
    refine lv_goto (tgt := 24) hx hb dX5_goesAs_20 (by decide) ?_
    refine zm_zret hx hb hr hlk hM hS (by first | exact Or.inl rfl | exact Or.inr rfl | exact bI_01 _) ?_ ⟨Nat.le_refl _, Nat.le_refl _⟩ dX5_goesAs_24
    refine ⟨?_, rfl⟩
    first | rfl | (rw [show goS S (some j) v = true from c16]; rfl) | (rw [show goS S (some j) v = false from c16]; rfl)
  · obtain ⟨j, rfl, rfl⟩ : ∃ j, o = some j ∧ B.2.1 j = a1 := by
      cases o with
      | none => cases c1
      | some j => exact ⟨j, rfl, Option.some.inj c1⟩
    have hj := ho j rfl
    have hk := (hI.2.2.1 j hj).1
    refine zm_gets hx hb hts hown hE hS 0 (by decide) st_X5_163 dX5_goesAs_4 ?_
    refine lv_aload_n hx hb dX5_goesAs_7 rfl (lv_at hl 0 rfl) ?_
    refine zm_getPk hx hb hts hown hE hM hR hj dX5_goesAs_8 ?_
    refine zm_tab hx hb hE hS 0 (by decide) (vp_in_nI (show s_kd S j < 16 from hk) (by decide)) dX5_goesAs_11 ?_
    refine zt_eq (v' := .int (zm_tv 0 (s_kd S j))) (by rw [nI_clamp (by omega)]) ?_
    refine lv_iload_n hx hb dX5_goesAs_12 rfl (lv_at hl 1 rfl) ?_
    refine zm_callS (As := [.int (zm_tv 0 (s_kd S j)), .int (nI v)]) (rest := []) hx hb hml hts hown hE hA hM hS (c_X5_isAmong l G A _ (zm_tv 0 (s_kd S j)) (nI v)) cd_X5_isAmong ml_X5_68 rfl rfl hl.1 (Nat.le_of_ble_eq_true rfl) ⟨Nat.le_of_ble_eq_true rfl, Nat.le_of_ble_eq_true rfl⟩ ⟨Nat.le_of_ble_eq_true rfl, Nat.le_of_ble_eq_true rfl⟩ dX5_goesAs_13 ?_
    rintro r M1 H locs ⟨rfl, e1⟩ hM hS
    rw [e1] at hM
    clear e1 M1
    refine W.eq (g2 := F0 m 16 ls [.int (bI (decide (((zm_tv 0 (s_kd S j)) >>> ((nI v) &&& 31)) &&& 1 = 1)))]) rfl ?_
    refine lv_if_eq (tgt := 23) hx hb dX5_goesAs_16 (by decide) (fun c16 => ?_) (fun c16 => ?_)
    · rw [gA_tab _ hk _ hv, bI_0] at c16
      refine lv_iconst (v := 0) hx hb dX5_goesAs_23 (by decide) ?_
      refine zm_zret hx hb hr hlk hM hS (by first | exact Or.inl rfl | exact Or.inr rfl | exact bI_01 _) ?_ ⟨Nat.le_refl _, Nat.le_refl _⟩ dX5_goesAs_24
      refine ⟨?_, rfl⟩
      first | rfl | (rw [show goS S (some j) v = true from c16]; rfl) | (rw [show goS S (some j) v = false from c16]; rfl)
    · rw [gA_tab _ hk _ hv, bI_n] at c16
      refine lv_iconst (v := 1) hx hb dX5_goesAs_19 (by decide) ?_
      refine lv_goto (tgt := 24) hx hb dX5_goesAs_20 (by decide) ?_
      refine zm_zret hx hb hr hlk hM hS (by first | exact Or.inl rfl | exact Or.inr rfl | exact bI_01 _) ?_ ⟨Nat.le_refl _, Nat.le_refl _⟩ dX5_goesAs_24
      refine ⟨?_, rfl⟩
      first | rfl | (rw [show goS S (some j) v = true from c16]; rfl) | (rw [show goS S (some j) v = false from c16]; rfl)
set_option maxRecDepth 100000 in
set_option maxHeartbeats 4000000 in
theorem c_X5_find (l : Launch) (G : zm_G) (A : Nat → Prop) (B : zB) (S : zS) (M : zm_M) (x : Int32) (hI : zInv S) (hR : RepC G B S M) : Met l yX5_find (zm_W yX5_find cX5_find 2 (some (.object "PropStore$Prop"))) (zm_rm 0 0 0) (zm_Pc G [.ref B.1.1, .int x] A M) (zm_Q G (fun r M' => r = some (va_rf (oA B (ix (s_np S) x))) ∧ M' = M) A) 0 0 A := by
  refine zm_start (by decide) (Nat.le_of_ble_eq_true rfl) ?_
  intro p e s m below meth c hx hb hml hr hts hown hlk hnm hE hA ls hl hM hS
  have hl : lv_has ls 2 [(0, .ref B.1.1), (1, .int x)] := hl
  refine lv_iload_n hx hb dX5_find_0 rfl (lv_at hl 1 rfl) ?_
  refine lv_if_lt (tgt := 21) hx hb dX5_find_1 (by decide) (fun c1 => ?_) (fun c1 => ?_)
  · refine lv_null hx hb dX5_find_21 ?_
    refine zm_aret (r := none) hx hb hr hlk hM hS ?_ ⟨Nat.le_refl _, Nat.le_refl _⟩ dX5_find_22
    refine ⟨?_, rfl⟩
    first | (rw [hix]) | (rw [ix_lt (by assumption)]; rfl) | (rw [ix_ge (by assumption)]; rfl)
  · refine lv_iload_n hx hb dX5_find_4 rfl (lv_at hl 1 rfl) ?_
    refine lv_aload_n hx hb dX5_find_5 rfl (lv_at hl 0 rfl) ?_
    refine zm_get hx hb hts hown hE hM hR.1 fl_X5_32_4 rfl dX5_find_6 ?_
    refine lv_icmp_ge (tgt := 21) hx hb dX5_find_9 (by decide) (fun c9 => ?_) (fun c9 => ?_)
    · refine lv_null hx hb dX5_find_21 ?_
      refine zm_aret (r := none) hx hb hr hlk hM hS ?_ ⟨Nat.le_refl _, Nat.le_refl _⟩ dX5_find_22
      refine ⟨?_, rfl⟩
      first | (rw [hix]) | (rw [ix_lt (by assumption)]; rfl) | (rw [ix_ge (by assumption)]; rfl)
    · refine lv_aload_n hx hb dX5_find_12 rfl (lv_at hl 0 rfl) ?_
      refine zm_get hx hb hts hown hE hM hR.1 fl_X5_11_4 rfl dX5_find_13 ?_
      refine lv_iload_n hx hb dX5_find_16 rfl (lv_at hl 1 rfl) ?_
      obtain ⟨f1, h1, e1⟩ := hR.2.1
      obtain ⟨j, hj, rfl, hix⟩ := ix_in (n := s_np S) (by have := hI.1; omega) c1 c9
      have hnp := hI.1
      refine zm_aldR hx hb hE hM h1 (vp_in_nI (show j < 50 by omega) (by decide)) dX5_find_17 ?_
      refine zt_eq (v' := va_rf (oA B (some j))) (by rw [nI_clamp (by omega), e1 j hj]; rfl) ?_
      refine lv_goto (tgt := 22) hx hb dX5_find_18 (by decide) ?_
      refine zm_aret (r := (oA B (some j))) hx hb hr hlk hM hS ?_ ⟨Nat.le_refl _, Nat.le_refl _⟩ dX5_find_22
      refine ⟨?_, rfl⟩
      first | (rw [hix]) | (rw [ix_lt (by assumption)]; rfl) | (rw [ix_ge (by assumption)]; rfl)
end
section
theorem isS_t {α : Type} {o : Option α} (h : o.isSome = true) : ∃ j, o = some j := Option.isSome_iff_exists.mp h
theorem isS_f {α : Type} {o : Option α} (h : o.isSome = false) : o = none := by cases o with | none => rfl | some j => cases h
theorem ix_ho {S : zS} {x : Int32} (hI : zInv S) : ∀ j, ix (s_np S) x = some j → j < s_np S := fun j h => (ix_some (by have := hI.1; omega) h).1
theorem RepC.cls {G : zm_G} {B : zB} {S : zS} {M : zm_M} (h : RepC G B S M) {o : Option Nat} (ho : ∀ j, o = some j → j < s_np S) : ∀ v, oA B o = some v → ∃ ci fs, M v = some (.inr (ci, fs)) ∧ (ci = 1 ∨ ci = 2 ∨ ci = 3) := by
  intro v hv
  cases o with
  | none => cases hv
  | some j =>
    cases hv
    obtain ⟨ci, fs, e, hc⟩ := pcell_cls B S j
    exact ⟨ci, fs, by rw [← e]; exact h.2.2.2.2.2.1 j (ho j rfl), hc⟩
theorem oA_some {B : zB} {o : Option Nat} {a : Nat} (h : oA B o = some a) : ∃ j, o = some j ∧ B.2.1 j = a := by cases o with | none => cases h | some j => exact ⟨j, rfl, Option.some.inj h⟩
theorem oA_none {B : zB} {o : Option Nat} (h : oA B o = none) : o = none := by cases o with | none => rfl | some j => cases h
set_option maxRecDepth 100000 in
set_option maxHeartbeats 4000000 in
theorem c_X5_hand (l : Launch) (G : zm_G) (A : Nat → Prop) (B : zB) (S : zS) (M : zm_M) (hI : zInv S) (hR : RepC G B S M) : Met l yX5_hand (zm_W yX5_hand cX5_hand 1 (some .int)) (zm_rm 1 0 0) (zm_Pc G [.ref B.1.1] A M) (zm_Q G (fun r M' => r = some (.int (oI (s_hd S))) ∧ M' = M) A) 0 0 A := by
  refine zm_start (by decide) (Nat.le_of_ble_eq_true rfl) ?_
  intro p e s m below meth c hx hb hml hr hts hown hlk hnm hE hA ls hl hM hS
  have hl : lv_has ls 1 [(0, .ref B.1.1)] := hl
  refine lv_aload_n hx hb dX5_hand_0 rfl (lv_at hl 0 rfl) ?_
  refine zm_get hx hb hts hown hE hM hR.1 fl_X5_57_4 rfl dX5_hand_1 ?_
  refine zm_callS (As := [va_rf (oA B (s_hd S))]) (rest := []) hx hb hml hts hown hE hA hM hS (c_X5_numberOf l G A B S _ (s_hd S) hR (hI.2.2.2.2.2.1)) cd_X5_numberOf ml_X5_53 rfl rfl hl.1 (Nat.le_of_ble_eq_true rfl) ⟨Nat.le_of_ble_eq_true rfl, Nat.le_of_ble_eq_true rfl⟩ ⟨Nat.le_of_ble_eq_true rfl, Nat.le_of_ble_eq_true rfl⟩ dX5_hand_4 ?_
  rintro r M1 H locs ⟨rfl, e1⟩ hM hS
  rw [e1] at hM
  clear e1 M1
  refine W.eq (g2 := F0 m 7 ls [.int (oI (s_hd S))]) rfl ?_
  refine zm_iret hx hb hr hlk hM hS ?_ ⟨Nat.le_refl _, Nat.le_refl _⟩ dX5_hand_7
  exact ⟨rfl, rfl⟩
set_option maxRecDepth 100000 in
set_option maxHeartbeats 4000000 in
theorem c_X5_held (l : Launch) (G : zm_G) (A : Nat → Prop) (B : zB) (S : zS) (M : zm_M) (x : Int32) (hI : zInv S) (hR : RepC G B S M) : Met l yX5_held (zm_W yX5_held cX5_held 2 (some .int)) (zm_rm 1 0 0) (zm_Pc G [.ref B.1.1, .int x] A M) (zm_Q G (fun r M' => r = some (.int (sp_held S x)) ∧ M' = M) A) 0 0 A := by
  refine zm_start (by decide) (Nat.le_of_ble_eq_true rfl) ?_
  intro p e s m below meth c hx hb hml hr hts hown hlk hnm hE hA ls hl hM hS
  have hl : lv_has ls 2 [(0, .ref B.1.1), (1, .int x)] := hl
  refine lv_iload_n hx hb dX5_held_0 rfl (lv_at hl 1 rfl) ?_
  refine zm_callS (As := [.int x]) (rest := []) hx hb hml hts hown hE hA hM hS (c_X5_isSlot l G A _ x) cd_X5_isSlot ml_X5_49 rfl rfl hl.1 (Nat.le_of_ble_eq_true rfl) ⟨Nat.le_of_ble_eq_true rfl, Nat.le_of_ble_eq_true rfl⟩ ⟨Nat.le_of_ble_eq_true rfl, Nat.le_of_ble_eq_true rfl⟩ dX5_held_1 ?_
  rintro r M1 H locs ⟨rfl, e1⟩ hM hS
  rw [e1] at hM
  clear e1 M1
  refine W.eq (g2 := F0 m 4 ls [.int (bI ((ix 10 x).isSome))]) rfl ?_
  refine lv_if_eq (tgt := 19) hx hb dX5_held_4 (by decide) (fun c4 => ?_) (fun c4 => ?_)
  · rw [bI_0] at c4
    have hix := isS_f c4
    refine lv_bipush (v := (-2)) hx hb dX5_held_19 (by decide) ?_
    refine zm_iret hx hb hr hlk hM hS ?_ ⟨Nat.le_refl _, Nat.le_refl _⟩ dX5_held_21
    refine ⟨?_, rfl⟩
    unfold sp_held
    rw [hix]
  · rw [bI_n] at c4
    obtain ⟨j, hix⟩ := isS_t c4
    obtain ⟨hj, rfl⟩ := ix_some (by decide) hix
    obtain ⟨f2, h2, e2⟩ := hR.2.2.1
    refine lv_aload_n hx hb dX5_held_7 rfl (lv_at hl 0 rfl) ?_
    refine zm_get hx hb hts hown hE hM hR.1 fl_X5_15_4 rfl dX5_held_8 ?_
    refine lv_iload_n hx hb dX5_held_11 rfl (lv_at hl 1 rfl) ?_
    refine zm_aldR hx hb hE hM h2 (vp_in_nI hj (by decide)) dX5_held_12 ?_
    refine zt_eq (v' := va_rf (oA B (s_sl S j))) (by rw [nI_clamp (by omega), e2 j hj]) ?_
    refine zm_callS (As := [va_rf (oA B (s_sl S j))]) (rest := []) hx hb hml hts hown hE hA hM hS (c_X5_numberOf l G A B S _ (s_sl S j) hR (fun t ht => hI.2.2.2.2.1 j t hj ht)) cd_X5_numberOf ml_X5_53 rfl rfl hl.1 (Nat.le_of_ble_eq_true rfl) ⟨Nat.le_of_ble_eq_true rfl, Nat.le_of_ble_eq_true rfl⟩ ⟨Nat.le_of_ble_eq_true rfl, Nat.le_of_ble_eq_true rfl⟩ dX5_held_13 ?_
    rintro r M1 H locs ⟨rfl, e1⟩ hM hS
    rw [e1] at hM
    clear e1 M1
    refine W.eq (g2 := F0 m 16 ls [.int (oI (s_sl S j))]) rfl ?_
    refine lv_goto (tgt := 21) hx hb dX5_held_16 (by decide) ?_
    refine zm_iret hx hb hr hlk hM hS ?_ ⟨Nat.le_refl _, Nat.le_refl _⟩ dX5_held_21
    refine ⟨?_, rfl⟩
    unfold sp_held
    rw [hix]
theorem slot_bad1 {S : zS} {x p : Int32} (h : ix 10 x = none) : sp_slot S x p = (-2, S) := by unfold sp_slot; rw [h]
theorem slot_bad2 {S : zS} {x p : Int32} (h : px S p = none) : sp_slot S x p = (-2, S) := by unfold sp_slot; rw [h]; cases ix 10 x <;> rfl
theorem px_some {S : zS} {p : Int32} {k : Nat} (hI : zInv S) (h : ix (s_np S) p = some k) : px S p = some (ix (s_np S) p) := by
  have hn := hI.1
  obtain ⟨h1, rfl⟩ := ix_some (by omega) h
  unfold px
  rw [if_neg (oI_nI (by omega)), h]; rfl
theorem px_m1 {S : zS} {p : Int32} (h : p = -1) : px S p = some (ix (s_np S) p) := by subst h; unfold px; rw [if_pos rfl, ix_lt (by decide)]
theorem px_bad {S : zS} {p : Int32} (h : ¬ p = -1) (h2 : ix (s_np S) p = none) : px S p = none := by unfold px; rw [if_neg h, h2]; rfl
set_option maxRecDepth 100000 in
set_option maxHeartbeats 4000000 in
theorem c_X5_slot (l : Launch) (G : zm_G) (A : Nat → Prop) (B : zB) (S : zS) (M : zm_M) (x q : Int32) (hI : zInv S) (hR : RepC G B S M) : Met l yX5_slot (zm_W yX5_slot cX5_slot 5 (some .int)) (zm_rm 1 0 0) (zm_Pc G [.ref B.1.1, .int x, .int q] A M) (zm_Q G (fun r M' => ∃ B', B'.1 = B.1 ∧ r = some (.int (sp_slot S x q).1) ∧ RepC G B' (sp_slot S x q).2 M') A) 0 0 A := by
  refine zm_start (by decide) (Nat.le_of_ble_eq_true rfl) ?_
  intro p e s m below meth c hx hb hml hr hts hown hlk hnm hE hA ls hl hM hS
  have hl : lv_has ls 5 [(0, .ref B.1.1), (1, .int x), (2, .int q)] := hl
  refine lv_aload_n hx hb dX5_slot_0 rfl (lv_at hl 0 rfl) ?_
  refine lv_iload_n hx hb dX5_slot_1 rfl (lv_at hl 2 rfl) ?_
  refine zm_callV (As := [.int q]) (rest := []) hx hb hml hts hown hE hA hM hS hR.1 rfl (c_X5_find l G A B S _ q hI hR) cd_X5_find ml_X5_39 rfl rfl hl.1 (Nat.le_of_ble_eq_true rfl) ⟨Nat.le_of_ble_eq_true rfl, Nat.le_of_ble_eq_true rfl⟩ ⟨Nat.le_of_ble_eq_true rfl, Nat.le_of_ble_eq_true rfl⟩ dX5_slot_2 ?_
  rintro r M1 H locs ⟨rfl, e1⟩ hM hS
  rw [e1] at hM
  clear e1 M1
  refine W.eq (g2 := F0 m 5 ls [va_rf (oA B (ix (s_np S) q))]) rfl ?_
  refine zq_astore_n (lv' := [(3, va_rf (oA B (ix (s_np S) q))), (0, .ref B.1.1), (1, .int x), (2, .int q)]) hx hb dX5_slot_5 rfl hl (by decide) rfl (fun ls hl => ?_)
  refine lv_iload_n hx hb dX5_slot_6 rfl (lv_at hl 2 rfl) ?_
  refine zm_callS (As := [.int x]) (rest := []) hx hb hml hts hown hE hA hM hS (c_X5_isSlot l G A _ x) cd_X5_isSlot ml_X5_49 rfl rfl hl.1 (Nat.le_of_ble_eq_true rfl) ⟨Nat.le_of_ble_eq_true rfl, Nat.le_of_ble_eq_true rfl⟩ ⟨Nat.le_of_ble_eq_true rfl, Nat.le_of_ble_eq_true rfl⟩ dX5_slot_7 ?_
  rintro r M1 H locs ⟨rfl, e1⟩ hM hS
  rw [e1] at hM
  clear e1 M1
  refine W.eq (g2 := F0 m 10 ls [.int (bI ((ix 10 x).isSome))]) rfl ?_
  refine lv_if_eq (tgt := 22) hx hb dX5_slot_10 (by decide) (fun c10 => ?_) (fun c10 => ?_)
  · rw [bI_0] at c10
    have hix := isS_f c10
    refine lv_bipush (v := (-2)) hx hb dX5_slot_22 (by decide) ?_
    refine zm_iret hx hb hr hlk hM hS ?_ ⟨Nat.le_refl _, Nat.le_refl _⟩ dX5_slot_24
    first | exact ⟨B, rfl, by rw [slot_bad1 hix], by rw [slot_bad1 hix]; exact hR⟩ | exact ⟨B, rfl, by rw [slot_bad2 (px_bad c19 (oA_none c14))], by rw [slot_bad2 (px_bad c19 (oA_none c14))]; exact hR⟩
  · rw [bI_n] at c10
    obtain ⟨j, hix⟩ := isS_t c10
    obtain ⟨hj, rfl⟩ := ix_some (by decide) hix
    obtain ⟨f2, h2, e2⟩ := hR.2.2.1
    refine zq_aload_n hx hb dX5_slot_13 rfl (lv_at hl 0 rfl) ?_
    refine zq_ifnonnull (tgt := 25) hx hb dX5_slot_14 (by decide) (fun a14 c14 => ?_) (fun c14 => ?_)
    · obtain ⟨k, hk, -⟩ := oA_some c14
      have hpx := px_some hI hk
      refine lv_aload_n hx hb dX5_slot_25 rfl (lv_at hl 1 rfl) ?_
      refine zm_get hx hb hts hown hE hM hR.1 fl_X5_15_4 rfl dX5_slot_26 ?_
      refine lv_iload_n hx hb dX5_slot_29 rfl (lv_at hl 2 rfl) ?_
      refine zm_aldR hx hb hE hM h2 (vp_in_nI hj (by decide)) dX5_slot_30 ?_
      refine zt_eq (v' := va_rf (oA B (s_sl S j))) (by rw [nI_clamp (by omega), e2 j hj]) ?_
      refine zq_astore (lv' := [(4, va_rf (oA B (s_sl S j))), (3, va_rf (oA B (ix (s_np S) q))), (0, .ref B.1.1), (1, .int (nI j)), (2, .int q)]) hx hb dX5_slot_31 hl (by decide) (by simp [List.filter, zq_cat]) (fun ls hl => ?_)
      refine lv_aload_n hx hb dX5_slot_33 rfl (lv_at hl 2 rfl) ?_
      refine zm_get hx hb hts hown hE hM hR.1 fl_X5_15_4 rfl dX5_slot_34 ?_
      refine lv_iload_n hx hb dX5_slot_37 rfl (lv_at hl 3 rfl) ?_
      refine zq_aload_n hx hb dX5_slot_38 rfl (lv_at hl 1 rfl) ?_
      refine zm_astO hx hb hE hM hS h2 (hR.cls (ix_ho hI)) (vp_in_nI hj (by decide)) dX5_slot_39 (fun H locs hM hS => ?_)
      rw [nI_clamp (by omega)] at hM
      have hR2 := hR.slot hI (i := j) (o := ix (s_np S) q) h2 e2
      refine zq_aload hx hb dX5_slot_40 (lv_at hl 0 rfl) ?_
      refine zm_callS (As := [va_rf (oA B (s_sl S j))]) (rest := []) hx hb hml hts hown hE hA hM hS (c_X5_numberOf l G A B (w_sl S (va_up (s_sl S) j (ix (s_np S) q))) _ (s_sl S j) hR2 (fun t ht => hI.2.2.2.2.1 j t hj ht)) cd_X5_numberOf ml_X5_53 rfl rfl hl.1 (Nat.le_of_ble_eq_true rfl) ⟨Nat.le_of_ble_eq_true rfl, Nat.le_of_ble_eq_true rfl⟩ ⟨Nat.le_of_ble_eq_true rfl, Nat.le_of_ble_eq_true rfl⟩ dX5_slot_42 ?_
      rintro r M1 H locs ⟨rfl, e1⟩ hM hS
      rw [e1] at hM
      clear e1 M1
      refine W.eq (g2 := F0 m 45 ls [.int (oI (s_sl S j))]) rfl ?_
      refine zm_iret hx hb hr hlk hM hS ?_ ⟨Nat.le_refl _, Nat.le_refl _⟩ dX5_slot_45
      have hs : sp_slot S (nI j) q = (oI (s_sl S j), w_sl S (va_up (s_sl S) j (ix (s_np S) q))) := by unfold sp_slot; rw [hix, hpx]
      exact ⟨B, rfl, by rw [hs], by rw [hs]; exact hR2⟩
    · refine lv_iload_n hx hb dX5_slot_17 rfl (lv_at hl 3 rfl) ?_
      refine lv_iconst (v := (-1)) hx hb dX5_slot_18 (by decide) ?_
      refine lv_icmp_eq (tgt := 25) hx hb dX5_slot_19 (by decide) (fun c19 => ?_) (fun c19 => ?_)
      · have hpx := px_m1 (S := S) c19
        refine lv_aload_n hx hb dX5_slot_25 rfl (lv_at hl 1 rfl) ?_
        refine zm_get hx hb hts hown hE hM hR.1 fl_X5_15_4 rfl dX5_slot_26 ?_
        refine lv_iload_n hx hb dX5_slot_29 rfl (lv_at hl 2 rfl) ?_
        refine zm_aldR hx hb hE hM h2 (vp_in_nI hj (by decide)) dX5_slot_30 ?_
        refine zt_eq (v' := va_rf (oA B (s_sl S j))) (by rw [nI_clamp (by omega), e2 j hj]) ?_
        refine zq_astore (lv' := [(4, va_rf (oA B (s_sl S j))), (3, va_rf (oA B (ix (s_np S) q))), (0, .ref B.1.1), (1, .int (nI j)), (2, .int q)]) hx hb dX5_slot_31 hl (by decide) (by simp [List.filter, zq_cat]) (fun ls hl => ?_)
        refine lv_aload_n hx hb dX5_slot_33 rfl (lv_at hl 2 rfl) ?_
        refine zm_get hx hb hts hown hE hM hR.1 fl_X5_15_4 rfl dX5_slot_34 ?_
        refine lv_iload_n hx hb dX5_slot_37 rfl (lv_at hl 3 rfl) ?_
        refine zq_aload_n hx hb dX5_slot_38 rfl (lv_at hl 1 rfl) ?_
        refine zm_astO hx hb hE hM hS h2 (hR.cls (ix_ho hI)) (vp_in_nI hj (by decide)) dX5_slot_39 (fun H locs hM hS => ?_)
        rw [nI_clamp (by omega)] at hM
        have hR2 := hR.slot hI (i := j) (o := ix (s_np S) q) h2 e2
        refine zq_aload hx hb dX5_slot_40 (lv_at hl 0 rfl) ?_
        refine zm_callS (As := [va_rf (oA B (s_sl S j))]) (rest := []) hx hb hml hts hown hE hA hM hS (c_X5_numberOf l G A B (w_sl S (va_up (s_sl S) j (ix (s_np S) q))) _ (s_sl S j) hR2 (fun t ht => hI.2.2.2.2.1 j t hj ht)) cd_X5_numberOf ml_X5_53 rfl rfl hl.1 (Nat.le_of_ble_eq_true rfl) ⟨Nat.le_of_ble_eq_true rfl, Nat.le_of_ble_eq_true rfl⟩ ⟨Nat.le_of_ble_eq_true rfl, Nat.le_of_ble_eq_true rfl⟩ dX5_slot_42 ?_
        rintro r M1 H locs ⟨rfl, e1⟩ hM hS
        rw [e1] at hM
        clear e1 M1
        refine W.eq (g2 := F0 m 45 ls [.int (oI (s_sl S j))]) rfl ?_
        refine zm_iret hx hb hr hlk hM hS ?_ ⟨Nat.le_refl _, Nat.le_refl _⟩ dX5_slot_45
        have hs : sp_slot S (nI j) q = (oI (s_sl S j), w_sl S (va_up (s_sl S) j (ix (s_np S) q))) := by unfold sp_slot; rw [hix, hpx]
        exact ⟨B, rfl, by rw [hs], by rw [hs]; exact hR2⟩
      · refine lv_bipush (v := (-2)) hx hb dX5_slot_22 (by decide) ?_
        refine zm_iret hx hb hr hlk hM hS ?_ ⟨Nat.le_refl _, Nat.le_refl _⟩ dX5_slot_24
        first | exact ⟨B, rfl, by rw [slot_bad1 hix], by rw [slot_bad1 hix]; exact hR⟩ | exact ⟨B, rfl, by rw [slot_bad2 (px_bad c19 (oA_none c14))], by rw [slot_bad2 (px_bad c19 (oA_none c14))]; exact hR⟩
theorem cut_char (v : Int32) : (v.toUInt32 % 65536).toInt32 = v &&& 65535 := by rw [pk_char, pk_and v (m := 65535) 16 (by decide)]
set_option maxRecDepth 100000 in
set_option maxHeartbeats 4000000 in
theorem c_X1_cut (l : Launch) (G : zm_G) (A : Nat → Prop) (M : zm_M) (a q k : Nat) (n v : Int32) (hk : k < 4) (h0 : M a = some (.inr (1, [.int n, .int (nI k), .ref q]))) : Met l yX1_cut (zm_W yX1_cut cX1_cut 2 (some .long)) (zm_rm 0 0 0) (zm_Pc G [.ref a, .int v] A M) (zm_Q G (fun r M' => r = some (.long (cutV k v)) ∧ M' = M) A) 0 0 A := by
  refine zm_start (by decide) (Nat.le_of_ble_eq_true rfl) ?_
  intro p e s m below meth c hx hb hml hr hts hown hlk hnm hE hA ls hl hM hS
  have hl : lv_has ls 2 [(0, .ref a), (1, .int v)] := hl
  refine lv_aload_n hx hb dX1_cut_0 rfl (lv_at hl 0 rfl) ?_
  refine zm_get hx hb hts hown hE hM h0 fl_X1_19_1 rfl dX1_cut_1 ?_
  obtain rfl | rfl | rfl | rfl : k = 0 ∨ k = 1 ∨ k = 2 ∨ k = 3 := by omega
  · refine lv_tableIn (off := 32) (tgt := 36) hx hb dX1_cut_4 (by decide) (by decide) rfl (by decide) ?_
    refine lv_iload_n hx hb dX1_cut_36 rfl (lv_at hl 1 rfl) ?_
    refine lv_i2c hx hb dX1_cut_37 rfl ?_
    refine lv_i2l hx hb dX1_cut_38 rfl ?_
    refine zm_lret hx hb hr hlk hM hS ?_ ⟨Nat.le_refl _, Nat.le_refl _⟩ dX1_cut_39
    refine ⟨?_, rfl⟩
    rw [cut_char]; rfl
  · refine lv_tableIn (off := 36) (tgt := 40) hx hb dX1_cut_4 (by decide) (by decide) rfl (by decide) ?_
    refine lv_iload_n hx hb dX1_cut_40 rfl (lv_at hl 1 rfl) ?_
    refine lv_i2s hx hb dX1_cut_41 rfl ?_
    refine lv_i2l hx hb dX1_cut_42 rfl ?_
    refine zm_lret hx hb hr hlk hM hS ?_ ⟨Nat.le_refl _, Nat.le_refl _⟩ dX1_cut_43
    exact ⟨rfl, rfl⟩
  · refine lv_tableIn (off := 44) (tgt := 48) hx hb dX1_cut_4 (by decide) (by decide) rfl (by decide) ?_
    refine lv_iload_n hx hb dX1_cut_48 rfl (lv_at hl 1 rfl) ?_
    refine lv_i2l hx hb dX1_cut_49 rfl ?_
    refine zm_lret hx hb hr hlk hM hS ?_ ⟨Nat.le_refl _, Nat.le_refl _⟩ dX1_cut_50
    exact ⟨rfl, rfl⟩
  · refine lv_tableIn (off := 40) (tgt := 44) hx hb dX1_cut_4 (by decide) (by decide) rfl (by decide) ?_
    refine lv_iload_n hx hb dX1_cut_44 rfl (lv_at hl 1 rfl) ?_
    refine lv_i2b hx hb dX1_cut_45 rfl ?_
    refine lv_i2l hx hb dX1_cut_46 rfl ?_
    refine zm_lret hx hb hr hlk hM hS ?_ ⟨Nat.le_refl _, Nat.le_refl _⟩ dX1_cut_47
    exact ⟨rfl, rfl⟩
set_option maxRecDepth 100000 in
set_option maxHeartbeats 4000000 in
theorem c_X1_put (l : Launch) (G : zm_G) (A : Nat → Prop) (M : zm_M) (a q k len : Nat) (n i v : Int32) (f : Nat → Int64) (hk : k < 4) (hlen : len < 1000) (h0 : M a = some (.inr (1, [.int n, .int (nI k), .ref q]))) (h1 : M q = some (zm_J G len f)) : Met l yX1_put (zm_W yX1_put cX1_put 3 (some .boolean)) (zm_rm 1 0 0) (zm_Pc G [.ref a, .int i, .int v] A M) (zm_Q G (fun r M' => (ix len i = none ∧ r = some (.int 0) ∧ M' = M) ∨ ∃ j, ix len i = some j ∧ r = some (.int 1) ∧ M' = zm_up M q (zm_J G len (vp_updL f j (cutV k v)))) A) 0 0 A := by
  refine zm_start (by decide) (Nat.le_of_ble_eq_true rfl) ?_
  intro p e s m below meth c hx hb hml hr hts hown hlk hnm hE hA ls hl hM hS
  have hl : lv_has ls 3 [(0, .ref a), (1, .int i), (2, .int v)] := hl
  refine lv_iload_n hx hb dX1_put_0 rfl (lv_at hl 1 rfl) ?_
  refine lv_if_lt (tgt := 13) hx hb dX1_put_1 (by decide) (fun c1 => ?_) (fun c1 => ?_)
  · refine lv_iconst (v := 0) hx hb dX1_put_13 (by decide) ?_
    refine zm_zret hx hb hr hlk hM hS (by first | exact Or.inl rfl | exact Or.inr rfl | exact bI_01 _) ?_ ⟨Nat.le_refl _, Nat.le_refl _⟩ dX1_put_14
    first | exact Or.inl ⟨ix_lt c1, rfl, rfl⟩ | exact Or.inl ⟨ix_ge (by rw [Int32.not_lt] at c10; exact c10), rfl, rfl⟩
  · refine lv_iload_n hx hb dX1_put_4 rfl (lv_at hl 1 rfl) ?_
    refine lv_aload_n hx hb dX1_put_5 rfl (lv_at hl 0 rfl) ?_
    refine zm_get hx hb hts hown hE hM h0 fl_X1_9_1 rfl dX1_put_6 ?_
    refine zm_alenJ hx hb hE hM h1 dX1_put_9 ?_
    refine lv_icmp_lt (tgt := 15) hx hb dX1_put_10 (by decide) (fun c10 => ?_) (fun c10 => ?_)
    · obtain ⟨j, hj, rfl, hix⟩ := ix_in (n := len) (by omega) c1 (by rw [Int32.not_le]; exact c10)
      refine lv_aload_n hx hb dX1_put_15 rfl (lv_at hl 0 rfl) ?_
      refine zm_get hx hb hts hown hE hM h0 fl_X1_9_1 rfl dX1_put_16 ?_
      refine lv_iload_n hx hb dX1_put_19 rfl (lv_at hl 1 rfl) ?_
      refine lv_aload_n hx hb dX1_put_20 rfl (lv_at hl 0 rfl) ?_
      refine lv_iload_n hx hb dX1_put_21 rfl (lv_at hl 2 rfl) ?_
      refine zm_callV (As := [.int v]) (rest := [.int (nI j), .ref q]) hx hb hml hts hown hE hA hM hS h0 rfl (c_X1_cut l G A _ a q k n v hk h0) cd_X1_cut ml_X1_15 rfl rfl hl.1 (Nat.le_of_ble_eq_true rfl) ⟨Nat.le_of_ble_eq_true rfl, Nat.le_of_ble_eq_true rfl⟩ ⟨Nat.le_of_ble_eq_true rfl, Nat.le_of_ble_eq_true rfl⟩ dX1_put_22 ?_
      rintro r M1 H locs ⟨rfl, e1⟩ hM hS
      rw [e1] at hM
      clear e1 M1
      refine W.eq (g2 := F0 m 25 ls [.long (cutV k v), .int (nI j), .ref q]) rfl ?_
      refine zm_last hx hb hE hM hS h1 (vp_in_nI hj (by omega)) dX1_put_25 (fun H locs hM hS => ?_)
      rw [nI_clamp (by omega)] at hM
      refine lv_iconst (v := 1) hx hb dX1_put_26 (by decide) ?_
      refine zm_zret hx hb hr hlk hM hS (by first | exact Or.inl rfl | exact Or.inr rfl | exact bI_01 _) ?_ ⟨Nat.le_refl _, Nat.le_refl _⟩ dX1_put_27
      exact Or.inr ⟨j, hix, rfl, rfl⟩
    · refine lv_iconst (v := 0) hx hb dX1_put_13 (by decide) ?_
      refine zm_zret hx hb hr hlk hM hS (by first | exact Or.inl rfl | exact Or.inr rfl | exact bI_01 _) ?_ ⟨Nat.le_refl _, Nat.le_refl _⟩ dX1_put_14
      first | exact Or.inl ⟨ix_lt c1, rfl, rfl⟩ | exact Or.inl ⟨ix_ge (by rw [Int32.not_lt] at c10; exact c10), rfl, rfl⟩
theorem RepC.at {G : zm_G} {B : zB} {S : zS} {M : zm_M} (h : RepC G B S M) (hI : zInv S) {j : Nat} (hj : j < s_np S) : (s_kd S j < 4 ∧ M (B.2.1 j) = some (.inr (1, [.int (nI j), .int (nI (s_kd S j)), .ref (B.2.2.1 j)]))) ∨ (isPc (s_kd S j) = true ∧ M (B.2.1 j) = some (.inr (2, [.int (nI j), .int (nI (s_kd S j)), .int (nI (s_sz S j)), .int (s_wr S j)]))) ∨ (isRw (s_kd S j) = true ∧ M (B.2.1 j) = some (.inr (3, [.int (nI j), .int (nI (s_kd S j)), .ref (B.2.2.1 j)]))) := by
  have h5 := h.2.2.2.2.2.1 j hj
  have hk := (hI.2.2.1 j hj).1
  by_cases h1 : s_kd S j < 4
  · exact Or.inl ⟨h1, by rw [← pcell_nu h1]; exact h5⟩
  · by_cases h2 : isPc (s_kd S j) = true
    · exact Or.inr (Or.inl ⟨h2, by rw [← pcell_pc h2]; exact h5⟩)
    · have h3 : isRw (s_kd S j) = true := by
        simp only [isRw, isPc, Bool.and_eq_true, decide_eq_true_eq] at *
        omega
      exact Or.inr (Or.inr ⟨h3, by rw [← pcell_rw h3]; exact h5⟩)
theorem set_bad {S : zS} {p i v : Int32} (h : ix (s_np S) p = none) : sp_set S p i v = (-2, S) := by unfold sp_set; rw [h]
theorem set_cast {S : zS} {p i v : Int32} {j : Nat} (h : ix (s_np S) p = some j) (hk : 3 < s_kd S j) : sp_set S p i v = (-5, S) := by unfold sp_set; rw [h]; simp only [if_pos hk]
theorem set_ix {S : zS} {p i v : Int32} {j : Nat} (h : ix (s_np S) p = some j) (hk : s_kd S j < 4) (hi : ix (many S j) i = none) : sp_set S p i v = (-6, S) := by unfold sp_set; rw [h]; simp only [if_neg (show ¬ 3 < s_kd S j by omega), hi]
theorem set_ok {S : zS} {p i v : Int32} {j ii : Nat} (h : ix (s_np S) p = some j) (hk : s_kd S j < 4) (hi : ix (many S j) i = some ii) : sp_set S p i v = (1, w_nu S (up2 (s_nu S) j ii (cutV (s_kd S j) v))) := by unfold sp_set; rw [h]; simp only [if_neg (show ¬ 3 < s_kd S j by omega), hi]
theorem pc3 {k : Nat} (h : isPc k = true) : 3 < k := by simp [isPc] at h; omega
theorem rw3 {k : Nat} (h : isRw k = true) : 3 < k := by simp [isRw] at h; omega
set_option maxRecDepth 100000 in
set_option maxHeartbeats 4000000 in
theorem c_X5_set (l : Launch) (G : zm_G) (A : Nat → Prop) (B : zB) (S : zS) (M : zm_M) (q i v : Int32) (hI : zInv S) (hR : RepC G B S M) : Met l yX5_set (zm_W yX5_set cX5_set 6 (some .int)) (zm_rm 2 0 0) (zm_Pc G [.ref B.1.1, .int q, .int i, .int v] A M) (zm_Q G (fun r M' => ∃ B', B'.1 = B.1 ∧ r = some (.int (sp_set S q i v).1) ∧ RepC G B' (sp_set S q i v).2 M') A) 0 0 A := by
  refine zm_start (by decide) (Nat.le_of_ble_eq_true rfl) ?_
  intro p e s m below meth c hx hb hml hr hts hown hlk hnm hE hA ls hl hM hS
  have hl : lv_has ls 6 [(0, .ref B.1.1), (1, .int q), (2, .int i), (3, .int v)] := hl
  refine lv_aload_n hx hb dX5_set_0 rfl (lv_at hl 0 rfl) ?_
  refine lv_iload_n hx hb dX5_set_1 rfl (lv_at hl 1 rfl) ?_
  refine zm_callV (As := [.int q]) (rest := []) hx hb hml hts hown hE hA hM hS hR.1 rfl (c_X5_find l G A B S _ q hI hR) cd_X5_find ml_X5_39 rfl rfl hl.1 (Nat.le_of_ble_eq_true rfl) ⟨Nat.le_of_ble_eq_true rfl, Nat.le_of_ble_eq_true rfl⟩ ⟨Nat.le_of_ble_eq_true rfl, Nat.le_of_ble_eq_true rfl⟩ dX5_set_2 ?_
  rintro r M1 H locs ⟨rfl, e1⟩ hM hS
  rw [e1] at hM
  clear e1 M1
  refine W.eq (g2 := F0 m 5 ls [va_rf (oA B (ix (s_np S) q))]) rfl ?_
  refine zq_astore (lv' := [(4, va_rf (oA B (ix (s_np S) q))), (0, .ref B.1.1), (1, .int q), (2, .int i), (3, .int v)]) hx hb dX5_set_5 hl (by decide) rfl (fun ls hl => ?_)
  refine zq_aload hx hb dX5_set_7 (lv_at hl 0 rfl) ?_
  refine zq_ifnonnull (tgt := 15) hx hb dX5_set_9 (by decide) (fun a9 c9 => ?_) (fun c9 => ?_)
  · obtain ⟨j, hix, rfl⟩ := oA_some c9
    have hj := ix_ho hI j hix
    rw [hix] at hl
    have hl : lv_has ls 6 [(4, .ref (B.2.1 j)), (0, .ref B.1.1), (1, .int q), (2, .int i), (3, .int v)] := hl
    refine lv_aload hx hb dX5_set_15 (lv_at hl 0 rfl) ?_
    rcases hR.at hI hj with ⟨hk, hc⟩ | ⟨hk, hc⟩ | ⟨hk, hc⟩
    · refine zm_instY hx hb hts hown hE hM hc rfl (by decide) clk_X5_43 dX5_set_17 ?_
      refine lv_if_eq (tgt := 33) hx hb dX5_set_20 (by decide) (fun c20 => ?_) (fun c20 => ?_)
      · exact absurd c20 (by decide)
      · refine lv_aload hx hb dX5_set_23 (lv_at hl 0 rfl) ?_
        refine zm_cast hx hb hts hown hE hM hc rfl (by decide) clk_X5_43 dX5_set_25 ?_
        refine lv_astore (lv' := [(5, .ref (B.2.1 j)), (4, .ref (B.2.1 j)), (0, .ref B.1.1), (1, .int q), (2, .int i), (3, .int v)]) hx hb dX5_set_28 hl (by decide) rfl (fun ls hl => ?_)
        refine lv_goto (tgt := 36) hx hb dX5_set_30 (by decide) ?_
        refine lv_aload hx hb dX5_set_36 (lv_at hl 0 rfl) ?_
        refine lv_iload_n hx hb dX5_set_38 rfl (lv_at hl 4 rfl) ?_
        refine lv_iload_n hx hb dX5_set_39 rfl (lv_at hl 5 rfl) ?_
        obtain ⟨f7, h7, e7⟩ := hR.2.2.2.2.2.2.2.1 j hj hk
        have hm := many15 hI hj hk
        refine zm_callV (As := [.int i, .int v]) (rest := []) hx hb hml hts hown hE hA hM hS hc rfl (c_X1_put l G A _ _ _ (s_kd S j) (many S j) (nI j) i v f7 hk (by omega) hc h7) cd_X1_put ml_X5_45 rfl rfl hl.1 (Nat.le_of_ble_eq_true rfl) ⟨Nat.le_of_ble_eq_true rfl, Nat.le_of_ble_eq_true rfl⟩ ⟨Nat.le_of_ble_eq_true rfl, Nat.le_of_ble_eq_true rfl⟩ dX5_set_40 ?_
        rintro r M1 H locs (⟨hii, rfl, rfl⟩ | ⟨ii, hii, rfl, rfl⟩) hM hS
        · refine W.eq (g2 := F0 m 43 ls [.int 0]) rfl ?_
          refine lv_if_eq (tgt := 50) hx hb dX5_set_43 (by decide) (fun c43 => ?_) (fun c43 => ?_)
          · refine lv_bipush (v := (-6)) hx hb dX5_set_50 (by decide) ?_
            refine zm_iret hx hb hr hlk hM hS ?_ ⟨Nat.le_refl _, Nat.le_refl _⟩ dX5_set_52
            exact ⟨B, rfl, by rw [set_ix hix hk hii], by rw [set_ix hix hk hii]; exact hR⟩
          · exact absurd rfl c43
        · refine W.eq (g2 := F0 m 43 ls [.int 1]) rfl ?_
          have hR2 := hR.num hI (i := ii) (v := cutV (s_kd S j) v) hj hk h7 e7
          refine lv_if_eq (tgt := 50) hx hb dX5_set_43 (by decide) (fun c43 => ?_) (fun c43 => ?_)
          · exact absurd c43 (by decide)
          · refine lv_iconst (v := 1) hx hb dX5_set_46 (by decide) ?_
            refine lv_goto (tgt := 52) hx hb dX5_set_47 (by decide) ?_
            refine zm_iret hx hb hr hlk hM hS ?_ ⟨Nat.le_refl _, Nat.le_refl _⟩ dX5_set_52
            exact ⟨B, rfl, by rw [set_ok hix hk hii], by rw [set_ok hix hk hii]; exact hR2⟩
    · refine zm_instN (nm := "PropStore$Numbers") hx hb hts hown hE hM hc rfl (by decide) clk_X5_43 dX5_set_17 ?_
      refine lv_if_eq (tgt := 33) hx hb dX5_set_20 (by decide) (fun c20 => ?_) (fun c20 => ?_)
      · refine lv_bipush (v := (-5)) hx hb dX5_set_33 (by decide) ?_
        refine zm_iret hx hb hr hlk hM hS ?_ ⟨Nat.le_refl _, Nat.le_refl _⟩ dX5_set_35
        first | exact ⟨B, rfl, by rw [set_cast hix (pc3 hk)], by rw [set_cast hix (pc3 hk)]; exact hR⟩ | exact ⟨B, rfl, by rw [set_cast hix (rw3 hk)], by rw [set_cast hix (rw3 hk)]; exact hR⟩
      · exact absurd rfl c20
    · refine zm_instN (nm := "PropStore$Numbers") hx hb hts hown hE hM hc rfl (by decide) clk_X5_43 dX5_set_17 ?_
      refine lv_if_eq (tgt := 33) hx hb dX5_set_20 (by decide) (fun c20 => ?_) (fun c20 => ?_)
      · refine lv_bipush (v := (-5)) hx hb dX5_set_33 (by decide) ?_
        refine zm_iret hx hb hr hlk hM hS ?_ ⟨Nat.le_refl _, Nat.le_refl _⟩ dX5_set_35
        first | exact ⟨B, rfl, by rw [set_cast hix (pc3 hk)], by rw [set_cast hix (pc3 hk)]; exact hR⟩ | exact ⟨B, rfl, by rw [set_cast hix (rw3 hk)], by rw [set_cast hix (rw3 hk)]; exact hR⟩
      · exact absurd rfl c20
  · have hix := oA_none c9
    refine lv_bipush (v := (-2)) hx hb dX5_set_12 (by decide) ?_
    refine zm_iret hx hb hr hlk hM hS ?_ ⟨Nat.le_refl _, Nat.le_refl _⟩ dX5_set_14
    exact ⟨B, rfl, by rw [set_bad hix], by rw [set_bad hix]; exact hR⟩
set_option maxRecDepth 100000 in
set_option maxHeartbeats 4000000 in
theorem c_X4_hasPlace (l : Launch) (G : zm_G) (A : Nat → Prop) (M : zm_M) (a q len : Nat) (n k i : Int32) (f : Nat → Option Nat) (hlen : len < 1000) (h0 : M a = some (.inr (3, [.int n, .int k, .ref q]))) (h1 : M q = some (zm_R G len f)) : Met l yX4_hasPlace (zm_W yX4_hasPlace cX4_hasPlace 2 (some .boolean)) (zm_rm 0 0 0) (zm_Pc G [.ref a, .int i] A M) (zm_Q G (fun r M' => r = some (.int (bI (ix len i).isSome)) ∧ M' = M) A) 0 0 A := by
  refine zm_start (by decide) (Nat.le_of_ble_eq_true rfl) ?_
  intro p e s m below meth c hx hb hml hr hts hown hlk hnm hE hA ls hl hM hS
  have hl : lv_has ls 2 [(0, .ref a), (1, .int i)] := hl
  refine lv_iload_n hx hb dX4_hasPlace_0 rfl (lv_at hl 1 rfl) ?_
  refine lv_if_lt (tgt := 17) hx hb dX4_hasPlace_1 (by decide) (fun c1 => ?_) (fun c1 => ?_)
  · refine lv_iconst (v := 0) hx hb dX4_hasPlace_17 (by decide) ?_
    refine zm_zret hx hb hr hlk hM hS (by first | exact Or.inl rfl | exact Or.inr rfl | exact bI_01 _) ?_ ⟨Nat.le_refl _, Nat.le_refl _⟩ dX4_hasPlace_18
    refine ⟨?_, rfl⟩
    first | (rw [ix_lt c1]; rfl) | (rw [ix_ge c10]; rfl) | (obtain ⟨j, -, -, e⟩ := ix_in (n := len) (by omega) c1 c10; rw [e]; rfl)
  · refine lv_iload_n hx hb dX4_hasPlace_4 rfl (lv_at hl 1 rfl) ?_
    refine lv_aload_n hx hb dX4_hasPlace_5 rfl (lv_at hl 0 rfl) ?_
    refine zm_get hx hb hts hown hE hM h0 fl_X4_7_3 rfl dX4_hasPlace_6 ?_
    refine zm_alenR hx hb hE hM h1 dX4_hasPlace_9 ?_
    refine lv_icmp_ge (tgt := 17) hx hb dX4_hasPlace_10 (by decide) (fun c10 => ?_) (fun c10 => ?_)
    · refine lv_iconst (v := 0) hx hb dX4_hasPlace_17 (by decide) ?_
      refine zm_zret hx hb hr hlk hM hS (by first | exact Or.inl rfl | exact Or.inr rfl | exact bI_01 _) ?_ ⟨Nat.le_refl _, Nat.le_refl _⟩ dX4_hasPlace_18
      refine ⟨?_, rfl⟩
      first | (rw [ix_lt c1]; rfl) | (rw [ix_ge c10]; rfl) | (obtain ⟨j, -, -, e⟩ := ix_in (n := len) (by omega) c1 c10; rw [e]; rfl)
    · refine lv_iconst (v := 1) hx hb dX4_hasPlace_13 (by decide) ?_
      refine lv_goto (tgt := 18) hx hb dX4_hasPlace_14 (by decide) ?_
      refine zm_zret hx hb hr hlk hM hS (by first | exact Or.inl rfl | exact Or.inr rfl | exact bI_01 _) ?_ ⟨Nat.le_refl _, Nat.le_refl _⟩ dX4_hasPlace_18
      refine ⟨?_, rfl⟩
      first | (rw [ix_lt c1]; rfl) | (rw [ix_ge c10]; rfl) | (obtain ⟨j, -, -, e⟩ := ix_in (n := len) (by omega) c1 c10; rw [e]; rfl)
set_option maxRecDepth 100000 in
set_option maxHeartbeats 4000000 in
theorem c_X5_is (l : Launch) (G : zm_G) (A : Nat → Prop) (B : zB) (S : zS) (M : zm_M) (q x : Int32) (hI : zInv S) (hR : RepC G B S M) : Met l yX5_is (zm_W yX5_is cX5_is 4 (some .int)) (zm_rm 2 0 0) (zm_Pc G [.ref B.1.1, .int q, .int x] A M) (zm_Q G (fun r M' => r = some (.int (sp_is S q x)) ∧ M' = M) A) 0 0 A := by
  refine zm_start (by decide) (Nat.le_of_ble_eq_true rfl) ?_
  intro p e s m below meth c hx hb hml hr hts hown hlk hnm hE hA ls hl hM hS
  have hl : lv_has ls 4 [(0, .ref B.1.1), (1, .int q), (2, .int x)] := hl
  refine lv_aload_n hx hb dX5_is_0 rfl (lv_at hl 0 rfl) ?_
  refine lv_iload_n hx hb dX5_is_1 rfl (lv_at hl 1 rfl) ?_
  refine zm_callV (As := [.int q]) (rest := []) hx hb hml hts hown hE hA hM hS hR.1 rfl (c_X5_find l G A B S _ q hI hR) cd_X5_find ml_X5_39 rfl rfl hl.1 (Nat.le_of_ble_eq_true rfl) ⟨Nat.le_of_ble_eq_true rfl, Nat.le_of_ble_eq_true rfl⟩ ⟨Nat.le_of_ble_eq_true rfl, Nat.le_of_ble_eq_true rfl⟩ dX5_is_2 ?_
  rintro r M1 H locs ⟨rfl, e1⟩ hM hS
  rw [e1] at hM
  clear e1 M1
  refine W.eq (g2 := F0 m 5 ls [va_rf (oA B (ix (s_np S) q))]) rfl ?_
  refine zq_astore_n (lv' := [(3, va_rf (oA B (ix (s_np S) q))), (0, .ref B.1.1), (1, .int q), (2, .int x)]) hx hb dX5_is_5 rfl hl (by decide) rfl (fun ls hl => ?_)
  refine zq_aload_n hx hb dX5_is_6 rfl (lv_at hl 0 rfl) ?_
  refine zq_ifnull (tgt := 17) hx hb dX5_is_7 (by decide) (fun c7 => ?_) (fun a7 c7 => ?_)
  · have hix := oA_none c7
    refine lv_bipush (v := (-2)) hx hb dX5_is_17 (by decide) ?_
    refine zm_iret hx hb hr hlk hM hS ?_ ⟨Nat.le_refl _, Nat.le_refl _⟩ dX5_is_19
    refine ⟨?_, rfl⟩
    unfold sp_is
    first | (rw [hix, isS_f c14]; done) | (rw [hix]; done)
  · obtain ⟨j, hix, rfl⟩ := oA_some c7
    have hj := ix_ho hI j hix
    rw [hix] at hl
    refine lv_iload_n hx hb dX5_is_10 rfl (lv_at hl 3 rfl) ?_
    refine zm_callS (As := [.int x]) (rest := []) hx hb hml hts hown hE hA hM hS (c_X5_isView l G A _ x) cd_X5_isView ml_X5_61 rfl rfl hl.1 (Nat.le_of_ble_eq_true rfl) ⟨Nat.le_of_ble_eq_true rfl, Nat.le_of_ble_eq_true rfl⟩ ⟨Nat.le_of_ble_eq_true rfl, Nat.le_of_ble_eq_true rfl⟩ dX5_is_11 ?_
    rintro r M1 H locs ⟨rfl, e1⟩ hM hS
    rw [e1] at hM
    clear e1 M1
    refine W.eq (g2 := F0 m 14 ls [.int (bI ((ix 17 x).isSome))]) rfl ?_
    refine lv_if_ne (tgt := 20) hx hb dX5_is_14 (by decide) (fun c14 => ?_) (fun c14 => ?_)
    · rw [bI_n] at c14
      obtain ⟨v, hiv⟩ := isS_t c14
      obtain ⟨hv, rfl⟩ := ix_some (by decide) hiv
      refine zq_aload_n hx hb dX5_is_20 rfl (lv_at hl 0 rfl) ?_
      refine lv_iload_n hx hb dX5_is_21 rfl (lv_at hl 3 rfl) ?_
      refine zm_callS (As := [va_rf (oA B (some j)), .int (nI v)]) (rest := []) hx hb hml hts hown hE hA hM hS (c_X5_goesAs l G A B S _ (some j) v (hv) hI hR (fun t ht => by cases ht; exact hj)) cd_X5_goesAs ml_X5_91 rfl rfl hl.1 (Nat.le_of_ble_eq_true rfl) ⟨Nat.le_of_ble_eq_true rfl, Nat.le_of_ble_eq_true rfl⟩ ⟨Nat.le_of_ble_eq_true rfl, Nat.le_of_ble_eq_true rfl⟩ dX5_is_22 ?_
      rintro r M1 H locs ⟨rfl, e1⟩ hM hS
      rw [e1] at hM
      clear e1 M1
      refine W.eq (g2 := F0 m 25 ls [.int (bI (goS S (some j) v))]) rfl ?_
      refine lv_if_eq (tgt := 32) hx hb dX5_is_25 (by decide) (fun c25 => ?_) (fun c25 => ?_)
      · rw [bI_0] at c25
        refine lv_iconst (v := 0) hx hb dX5_is_32 (by decide) ?_
        refine zm_iret hx hb hr hlk hM hS ?_ ⟨Nat.le_refl _, Nat.le_refl _⟩ dX5_is_33
        refine ⟨?_, rfl⟩
        unfold sp_is
        rw [hix, hiv]
        show some (Value.int _) = some (Value.int (bI (gA (s_kd S j) v)))
        first | (rw [show gA (s_kd S j) v = true from c25]; rfl) | (rw [show gA (s_kd S j) v = false from c25]; rfl)
      · rw [bI_n] at c25
        refine lv_iconst (v := 1) hx hb dX5_is_28 (by decide) ?_
        refine lv_goto (tgt := 33) hx hb dX5_is_29 (by decide) ?_
        refine zm_iret hx hb hr hlk hM hS ?_ ⟨Nat.le_refl _, Nat.le_refl _⟩ dX5_is_33
        refine ⟨?_, rfl⟩
        unfold sp_is
        rw [hix, hiv]
        show some (Value.int _) = some (Value.int (bI (gA (s_kd S j) v)))
        first | (rw [show gA (s_kd S j) v = true from c25]; rfl) | (rw [show gA (s_kd S j) v = false from c25]; rfl)
    · rw [bI_0] at c14
      refine lv_bipush (v := (-2)) hx hb dX5_is_17 (by decide) ?_
      refine zm_iret hx hb hr hlk hM hS ?_ ⟨Nat.le_refl _, Nat.le_refl _⟩ dX5_is_19
      refine ⟨?_, rfl⟩
      unfold sp_is
      first | (rw [hix, isS_f c14]; done) | (rw [hix]; done)
set_option maxRecDepth 100000 in
set_option maxHeartbeats 4000000 in
theorem c_X5_wear (l : Launch) (G : zm_G) (A : Nat → Prop) (B : zB) (S : zS) (M : zm_M) (q : Int32) (hI : zInv S) (hR : RepC G B S M) : Met l yX5_wear (zm_W yX5_wear cX5_wear 4 (some .int)) (zm_rm 1 0 0) (zm_Pc G [.ref B.1.1, .int q] A M) (zm_Q G (fun r M' => r = some (.int (sp_wear S q)) ∧ M' = M) A) 0 0 A := by
  refine zm_start (by decide) (Nat.le_of_ble_eq_true rfl) ?_
  intro p e s m below meth c hx hb hml hr hts hown hlk hnm hE hA ls hl hM hS
  have hl : lv_has ls 4 [(0, .ref B.1.1), (1, .int q)] := hl
  refine lv_aload_n hx hb dX5_wear_0 rfl (lv_at hl 0 rfl) ?_
  refine lv_iload_n hx hb dX5_wear_1 rfl (lv_at hl 1 rfl) ?_
  refine zm_callV (As := [.int q]) (rest := []) hx hb hml hts hown hE hA hM hS hR.1 rfl (c_X5_find l G A B S _ q hI hR) cd_X5_find ml_X5_39 rfl rfl hl.1 (Nat.le_of_ble_eq_true rfl) ⟨Nat.le_of_ble_eq_true rfl, Nat.le_of_ble_eq_true rfl⟩ ⟨Nat.le_of_ble_eq_true rfl, Nat.le_of_ble_eq_true rfl⟩ dX5_wear_2 ?_
  rintro r M1 H locs ⟨rfl, e1⟩ hM hS
  rw [e1] at hM
  clear e1 M1
  refine W.eq (g2 := F0 m 5 ls [va_rf (oA B (ix (s_np S) q))]) rfl ?_
  refine zq_astore_n (lv' := [(2, va_rf (oA B (ix (s_np S) q))), (0, .ref B.1.1), (1, .int q)]) hx hb dX5_wear_5 rfl hl (by decide) rfl (fun ls hl => ?_)
  refine zq_aload_n hx hb dX5_wear_6 rfl (lv_at hl 0 rfl) ?_
  refine zq_ifnonnull (tgt := 13) hx hb dX5_wear_7 (by decide) (fun a7 c7 => ?_) (fun c7 => ?_)
  · obtain ⟨j, hix, rfl⟩ := oA_some c7
    have hj := ix_ho hI j hix
    rw [hix] at hl
    have hl : lv_has ls 4 [(2, .ref (B.2.1 j)), (0, .ref B.1.1), (1, .int q)] := hl
    refine lv_aload_n hx hb dX5_wear_13 rfl (lv_at hl 0 rfl) ?_
    rcases hR.at hI hj with ⟨hk, hc⟩ | ⟨hk, hc⟩ | ⟨hk, hc⟩
    · refine zm_instN (nm := "PropStore$Piece") hx hb hts hown hE hM hc rfl (by decide) clk_X5_99 dX5_wear_14 ?_
      refine lv_if_eq (tgt := 34) hx hb dX5_wear_17 (by decide) (fun c17 => ?_) (fun c17 => ?_)
      · refine lv_bipush (v := (-5)) hx hb dX5_wear_34 (by decide) ?_
        refine zm_iret hx hb hr hlk hM hS ?_ ⟨Nat.le_refl _, Nat.le_refl _⟩ dX5_wear_36
        refine ⟨?_, rfl⟩
        unfold sp_wear
        rw [hix]
        skip
        first | (have h7 : s_kd S j = 7 := (nI_eq (b := 7) (by omega) (by omega)).mp c31; simp only [if_neg (show ¬ (4 ≤ s_kd S j ∧ s_kd S j ≤ 6) by omega)]) | simp only [if_neg (show ¬ (4 ≤ s_kd S j ∧ s_kd S j ≤ 6) by omega)]
      · exact absurd rfl c17
    · refine zm_instY hx hb hts hown hE hM hc rfl (by decide) clk_X5_99 dX5_wear_14 ?_
      refine lv_if_eq (tgt := 34) hx hb dX5_wear_17 (by decide) (fun c17 => ?_) (fun c17 => ?_)
      · exact absurd c17 (by decide)
      · refine lv_aload_n hx hb dX5_wear_20 rfl (lv_at hl 0 rfl) ?_
        refine zm_cast hx hb hts hown hE hM hc rfl (by decide) clk_X5_99 dX5_wear_21 ?_
        refine lv_astore_n (lv' := [(3, .ref (B.2.1 j)), (2, .ref (B.2.1 j)), (0, .ref B.1.1), (1, .int q)]) hx hb dX5_wear_24 rfl hl (by decide) rfl (fun ls hl => ?_)
        refine lv_aload_n hx hb dX5_wear_25 rfl (lv_at hl 0 rfl) ?_
        refine zm_get hx hb hts hown hE hM hc fl_X5_101_2 rfl dX5_wear_26 ?_
        refine lv_bipush (v := 7) hx hb dX5_wear_29 (by decide) ?_
        refine lv_icmp_ne (tgt := 37) hx hb dX5_wear_31 (by decide) (fun c31 => ?_) (fun c31 => ?_)
        · refine lv_aload_n hx hb dX5_wear_37 rfl (lv_at hl 0 rfl) ?_
          refine zm_get hx hb hts hown hE hM hc fl_X5_104_2 rfl dX5_wear_38 ?_
          refine zm_iret hx hb hr hlk hM hS ?_ ⟨Nat.le_refl _, Nat.le_refl _⟩ dX5_wear_41
          refine ⟨?_, rfl⟩
          unfold sp_wear
          rw [hix]
          simp only [isPc, Bool.and_eq_true, decide_eq_true_eq] at hk
          have h7 : s_kd S j ≠ 7 := fun q => c31 (by rw [q]; rfl)
          simp only [if_pos (show 4 ≤ s_kd S j ∧ s_kd S j ≤ 6 by omega)]
        · refine lv_bipush (v := (-5)) hx hb dX5_wear_34 (by decide) ?_
          refine zm_iret hx hb hr hlk hM hS ?_ ⟨Nat.le_refl _, Nat.le_refl _⟩ dX5_wear_36
          refine ⟨?_, rfl⟩
          unfold sp_wear
          rw [hix]
          simp only [isPc, isRw, Bool.and_eq_true, decide_eq_true_eq] at hk
          first | (have h7 : s_kd S j = 7 := (nI_eq (b := 7) (by omega) (by omega)).mp c31; simp only [if_neg (show ¬ (4 ≤ s_kd S j ∧ s_kd S j ≤ 6) by omega)]) | simp only [if_neg (show ¬ (4 ≤ s_kd S j ∧ s_kd S j ≤ 6) by omega)]
    · refine zm_instN (nm := "PropStore$Piece") hx hb hts hown hE hM hc rfl (by decide) clk_X5_99 dX5_wear_14 ?_
      refine lv_if_eq (tgt := 34) hx hb dX5_wear_17 (by decide) (fun c17 => ?_) (fun c17 => ?_)
      · refine lv_bipush (v := (-5)) hx hb dX5_wear_34 (by decide) ?_
        refine zm_iret hx hb hr hlk hM hS ?_ ⟨Nat.le_refl _, Nat.le_refl _⟩ dX5_wear_36
        refine ⟨?_, rfl⟩
        unfold sp_wear
        rw [hix]
        simp only [isPc, isRw, Bool.and_eq_true, decide_eq_true_eq] at hk
        first | (have h7 : s_kd S j = 7 := (nI_eq (b := 7) (by omega) (by omega)).mp c31; simp only [if_neg (show ¬ (4 ≤ s_kd S j ∧ s_kd S j ≤ 6) by omega)]) | simp only [if_neg (show ¬ (4 ≤ s_kd S j ∧ s_kd S j ≤ 6) by omega)]
      · exact absurd rfl c17
  · have hix := oA_none c7
    refine lv_bipush (v := (-2)) hx hb dX5_wear_10 (by decide) ?_
    refine zm_iret hx hb hr hlk hM hS ?_ ⟨Nat.le_refl _, Nat.le_refl _⟩ dX5_wear_12
    refine ⟨?_, rfl⟩
    unfold sp_wear
    rw [hix]
set_option maxRecDepth 100000 in
set_option maxHeartbeats 4000000 in
theorem c_X5_at (l : Launch) (G : zm_G) (A : Nat → Prop) (B : zB) (S : zS) (M : zm_M) (q i : Int32) (hI : zInv S) (hR : RepC G B S M) : Met l yX5_at (zm_W yX5_at cX5_at 5 (some .int)) (zm_rm 1 0 0) (zm_Pc G [.ref B.1.1, .int q, .int i] A M) (zm_Q G (fun r M' => r = some (.int (sp_at S q i)) ∧ M' = M) A) 0 0 A := by
  refine zm_start (by decide) (Nat.le_of_ble_eq_true rfl) ?_
  intro p e s m below meth c hx hb hml hr hts hown hlk hnm hE hA ls hl hM hS
  have hl : lv_has ls 5 [(0, .ref B.1.1), (1, .int q), (2, .int i)] := hl
  refine lv_aload_n hx hb dX5_at_0 rfl (lv_at hl 0 rfl) ?_
  refine lv_iload_n hx hb dX5_at_1 rfl (lv_at hl 1 rfl) ?_
  refine zm_callV (As := [.int q]) (rest := []) hx hb hml hts hown hE hA hM hS hR.1 rfl (c_X5_find l G A B S _ q hI hR) cd_X5_find ml_X5_39 rfl rfl hl.1 (Nat.le_of_ble_eq_true rfl) ⟨Nat.le_of_ble_eq_true rfl, Nat.le_of_ble_eq_true rfl⟩ ⟨Nat.le_of_ble_eq_true rfl, Nat.le_of_ble_eq_true rfl⟩ dX5_at_2 ?_
  rintro r M1 H locs ⟨rfl, e1⟩ hM hS
  rw [e1] at hM
  clear e1 M1
  refine W.eq (g2 := F0 m 5 ls [va_rf (oA B (ix (s_np S) q))]) rfl ?_
  refine zq_astore_n (lv' := [(3, va_rf (oA B (ix (s_np S) q))), (0, .ref B.1.1), (1, .int q), (2, .int i)]) hx hb dX5_at_5 rfl hl (by decide) rfl (fun ls hl => ?_)
  refine zq_aload_n hx hb dX5_at_6 rfl (lv_at hl 0 rfl) ?_
  refine zq_ifnonnull (tgt := 13) hx hb dX5_at_7 (by decide) (fun a7 c7 => ?_) (fun c7 => ?_)
  · obtain ⟨j, hix, rfl⟩ := oA_some c7
    have hj := ix_ho hI j hix
    rw [hix] at hl
    have hl : lv_has ls 5 [(3, .ref (B.2.1 j)), (0, .ref B.1.1), (1, .int q), (2, .int i)] := hl
    refine lv_aload_n hx hb dX5_at_13 rfl (lv_at hl 0 rfl) ?_
    rcases hR.at hI hj with ⟨hk, hc⟩ | ⟨hk, hc⟩ | ⟨hk, hc⟩
    · refine zm_instN (nm := "PropStore$Row") hx hb hts hown hE hM hc rfl (by decide) clk_X5_107 dX5_at_14 ?_
      refine lv_if_eq (tgt := 29) hx hb dX5_at_17 (by decide) (fun c17 => ?_) (fun c17 => ?_)
      · refine lv_bipush (v := (-5)) hx hb dX5_at_29 (by decide) ?_
        refine zm_iret hx hb hr hlk hM hS ?_ ⟨Nat.le_refl _, Nat.le_refl _⟩ dX5_at_31
        refine ⟨?_, rfl⟩
        unfold sp_at
        rw [hix]
        first | simp only [lt4_rw hk, Bool.false_eq_true, if_false] | simp only [pc_rw hk, Bool.false_eq_true, if_false]
      · exact absurd rfl c17
    · refine zm_instN (nm := "PropStore$Row") hx hb hts hown hE hM hc rfl (by decide) clk_X5_107 dX5_at_14 ?_
      refine lv_if_eq (tgt := 29) hx hb dX5_at_17 (by decide) (fun c17 => ?_) (fun c17 => ?_)
      · refine lv_bipush (v := (-5)) hx hb dX5_at_29 (by decide) ?_
        refine zm_iret hx hb hr hlk hM hS ?_ ⟨Nat.le_refl _, Nat.le_refl _⟩ dX5_at_31
        refine ⟨?_, rfl⟩
        unfold sp_at
        rw [hix]
        first | simp only [lt4_rw hk, Bool.false_eq_true, if_false] | simp only [pc_rw hk, Bool.false_eq_true, if_false]
      · exact absurd rfl c17
    · refine zm_instY hx hb hts hown hE hM hc rfl (by decide) clk_X5_107 dX5_at_14 ?_
      refine lv_if_eq (tgt := 29) hx hb dX5_at_17 (by decide) (fun c17 => ?_) (fun c17 => ?_)
      · exact absurd c17 (by decide)
      · refine lv_aload_n hx hb dX5_at_20 rfl (lv_at hl 0 rfl) ?_
        refine zm_cast hx hb hts hown hE hM hc rfl (by decide) clk_X5_107 dX5_at_21 ?_
        refine lv_astore (lv' := [(4, .ref (B.2.1 j)), (3, .ref (B.2.1 j)), (0, .ref B.1.1), (1, .int q), (2, .int i)]) hx hb dX5_at_24 hl (by decide) rfl (fun ls hl => ?_)
        refine lv_goto (tgt := 32) hx hb dX5_at_26 (by decide) ?_
        refine lv_aload hx hb dX5_at_32 (lv_at hl 0 rfl) ?_
        refine lv_iload_n hx hb dX5_at_34 rfl (lv_at hl 4 rfl) ?_
        obtain ⟨f6, h6, e6⟩ := hR.2.2.2.2.2.2.1 j hj hk
        have h5 := hI.sz5 hj (rw_pc hk)
        refine zm_callV (As := [.int i]) (rest := []) hx hb hml hts hown hE hA hM hS hc rfl (c_X4_hasPlace l G A _ _ _ (s_sz S j) (nI j) (nI (s_kd S j)) i f6 (by omega) hc h6) cd_X4_hasPlace ml_X5_109 rfl rfl hl.1 (Nat.le_of_ble_eq_true rfl) ⟨Nat.le_of_ble_eq_true rfl, Nat.le_of_ble_eq_true rfl⟩ ⟨Nat.le_of_ble_eq_true rfl, Nat.le_of_ble_eq_true rfl⟩ dX5_at_35 ?_
        rintro r M1 H locs ⟨rfl, e1⟩ hM hS
        rw [e1] at hM
        clear e1 M1
        refine W.eq (g2 := F0 m 38 ls [.int (bI (ix (s_sz S j) i).isSome)]) rfl ?_
        refine lv_if_eq (tgt := 54) hx hb dX5_at_38 (by decide) (fun c38 => ?_) (fun c38 => ?_)
        · rw [bI_0] at c38
          have hii := isS_f c38
          refine lv_bipush (v := (-6)) hx hb dX5_at_54 (by decide) ?_
          refine zm_iret hx hb hr hlk hM hS ?_ ⟨Nat.le_refl _, Nat.le_refl _⟩ dX5_at_56
          refine ⟨?_, rfl⟩
          unfold sp_at
          rw [hix]
          simp only [if_pos hk]
          rw [hii]
        · rw [bI_n] at c38
          obtain ⟨ii, hii⟩ := isS_t c38
          obtain ⟨hi, rfl⟩ := ix_some (by omega) hii
          have h8 : 8 ≤ s_kd S j := by simp [isRw] at hk; omega
          refine lv_aload hx hb dX5_at_41 (lv_at hl 0 rfl) ?_
          refine zm_get hx hb hts hown hE hM hc fl_X5_112_3 rfl dX5_at_43 ?_
          refine lv_iload_n hx hb dX5_at_46 rfl (lv_at hl 4 rfl) ?_
          refine zm_aldR hx hb hE hM h6 (vp_in_nI hi (by omega)) dX5_at_47 ?_
          refine zt_eq (v' := va_rf (oA B (s_th S j ii))) (by rw [nI_clamp (by omega), e6 ii hi]) ?_
          refine zm_callS (As := [va_rf (oA B (s_th S j ii))]) (rest := []) hx hb hml hts hown hE hA hM hS (c_X5_numberOf l G A B S _ (s_th S j ii) hR (fun t ht => (hI.2.2.2.1 j hj h8 ii t hi ht).1)) cd_X5_numberOf ml_X5_53 rfl rfl hl.1 (Nat.le_of_ble_eq_true rfl) ⟨Nat.le_of_ble_eq_true rfl, Nat.le_of_ble_eq_true rfl⟩ ⟨Nat.le_of_ble_eq_true rfl, Nat.le_of_ble_eq_true rfl⟩ dX5_at_48 ?_
          rintro r M1 H locs ⟨rfl, e1⟩ hM hS
          rw [e1] at hM
          clear e1 M1
          refine W.eq (g2 := F0 m 51 ls [.int (oI (s_th S j ii))]) rfl ?_
          refine lv_goto (tgt := 56) hx hb dX5_at_51 (by decide) ?_
          refine zm_iret hx hb hr hlk hM hS ?_ ⟨Nat.le_refl _, Nat.le_refl _⟩ dX5_at_56
          refine ⟨?_, rfl⟩
          unfold sp_at
          rw [hix]
          simp only [if_pos hk]
          rw [hii]
  · have hix := oA_none c7
    refine lv_bipush (v := (-2)) hx hb dX5_at_10 (by decide) ?_
    refine zm_iret hx hb hr hlk hM hS ?_ ⟨Nat.le_refl _, Nat.le_refl _⟩ dX5_at_12
    refine ⟨?_, rfl⟩
    unfold sp_at
    rw [hix]
set_option maxRecDepth 100000 in
set_option maxHeartbeats 4000000 in
theorem c_X5_count (l : Launch) (G : zm_G) (A : Nat → Prop) (B : zB) (S : zS) (M : zm_M) (w : Int32) (hI : zInv S) (hR : RepC G B S M) : Met l yX5_count (zm_W yX5_count cX5_count 2 (some .int)) (zm_rm 0 0 0) (zm_Pc G [.ref B.1.1, .int w] A M) (zm_Q G (fun r M' => r = some (.int (sp_count S w)) ∧ M' = M) A) 0 0 A := by
  refine zm_start (by decide) (Nat.le_of_ble_eq_true rfl) ?_
  intro p e s m below meth c hx hb hml hr hts hown hlk hnm hE hA ls hl hM hS
  have hl : lv_has ls 2 [(0, .ref B.1.1), (1, .int w)] := hl
  refine lv_iload_n hx hb dX5_count_0 rfl (lv_at hl 1 rfl) ?_
  rcases (show w = 0 ∨ w = 1 ∨ (¬ w = 0 ∧ ¬ w = 1) by by_cases h0 : w = 0 <;> by_cases h1 : w = 1 <;> simp [h0, h1]) with hw | hw | ⟨h0, h1⟩
  · subst hw
    have hl : lv_has ls 2 [(0, .ref B.1.1), (1, .int 0)] := hl
    refine lv_lookup (off := 27) (tgt := 28) hx hb dX5_count_1 (by decide) (by decide) (by decide) ?_
    refine lv_aload_n hx hb dX5_count_28 rfl (lv_at hl 0 rfl) ?_
    refine zm_get hx hb hts hown hE hM hR.1 fl_X5_32_4 rfl dX5_count_29 ?_
    refine zm_iret hx hb hr hlk hM hS ?_ ⟨Nat.le_refl _, Nat.le_refl _⟩ dX5_count_32
    exact ⟨rfl, rfl⟩
  · subst hw
    have hl : lv_has ls 2 [(0, .ref B.1.1), (1, .int 1)] := hl
    refine lv_lookup (off := 32) (tgt := 33) hx hb dX5_count_1 (by decide) (by decide) (by decide) ?_
    refine lv_aload_n hx hb dX5_count_33 rfl (lv_at hl 0 rfl) ?_
    refine zm_get hx hb hts hown hE hM hR.1 fl_X5_71_4 rfl dX5_count_34 ?_
    refine zm_iret hx hb hr hlk hM hS ?_ ⟨Nat.le_refl _, Nat.le_refl _⟩ dX5_count_37
    exact ⟨rfl, rfl⟩
  · refine lv_lookup (off := 37) (tgt := 38) hx hb dX5_count_1 (by decide) (by show Op.lookupswitch.offset [(0, 27), (1, 32)] 37 w.toInt = 37; rw [lv_osw h0 (by decide), lv_osw h1 (by decide)]; rfl) (by decide) ?_
    refine lv_bipush (v := (-2)) hx hb dX5_count_38 (by decide) ?_
    refine zm_iret hx hb hr hlk hM hS ?_ ⟨Nat.le_refl _, Nat.le_refl _⟩ dX5_count_40
    refine ⟨?_, rfl⟩
    unfold sp_count
    rw [if_neg h0, if_neg h1]
set_option maxRecDepth 100000 in
set_option maxHeartbeats 4000000 in
theorem c_X5_miscue (l : Launch) (G : zm_G) (A : Nat → Prop) (B : zB) (S : zS) (M : zm_M) (w : Int32) (hI : zInv S) (hR : RepC G B S M) : Met l yX5_miscue (zm_W yX5_miscue cX5_miscue 2 (some .int)) (zm_rm 0 0 0) (zm_Pc G [.ref B.1.1, .int w] A M) (zm_Q G (fun r M' => r = some (.int (sp_miscue S w)) ∧ M' = M) A) 0 0 A := by
  refine zm_start (by decide) (Nat.le_of_ble_eq_true rfl) ?_
  intro p e s m below meth c hx hb hml hr hts hown hlk hnm hE hA ls hl hM hS
  have hl : lv_has ls 2 [(0, .ref B.1.1), (1, .int w)] := hl
  refine lv_iload_n hx hb dX5_miscue_0 rfl (lv_at hl 1 rfl) ?_
  rcases (show w = 0 ∨ w = 1 ∨ w = 2 ∨ (¬ w = 0 ∧ ¬ w = 1 ∧ ¬ w = 2) by by_cases h0 : w = 0 <;> by_cases h1 : w = 1 <;> by_cases h2 : w = 2 <;> simp [h0, h1, h2]) with hw | hw | hw | ⟨h0, h1, h2⟩
  · subst hw
    have hl : lv_has ls 2 [(0, .ref B.1.1), (1, .int 0)] := hl
    refine lv_tableIn (off := 27) (tgt := 28) hx hb dX5_miscue_1 (by decide) (by decide) rfl (by decide) ?_
    refine lv_aload_n hx hb dX5_miscue_28 rfl (lv_at hl 0 rfl) ?_
    refine zm_get hx hb hts hown hE hM hR.1 fl_X5_77_4 rfl dX5_miscue_29 ?_
    refine zm_iret hx hb hr hlk hM hS ?_ ⟨Nat.le_refl _, Nat.le_refl _⟩ dX5_miscue_32
    exact ⟨rfl, rfl⟩
  · subst hw
    have hl : lv_has ls 2 [(0, .ref B.1.1), (1, .int 1)] := hl
    refine lv_tableIn (off := 32) (tgt := 33) hx hb dX5_miscue_1 (by decide) (by decide) rfl (by decide) ?_
    refine lv_aload_n hx hb dX5_miscue_33 rfl (lv_at hl 0 rfl) ?_
    refine zm_get hx hb hts hown hE hM hR.1 fl_X5_24_4 rfl dX5_miscue_34 ?_
    refine zm_iret hx hb hr hlk hM hS ?_ ⟨Nat.le_refl _, Nat.le_refl _⟩ dX5_miscue_37
    exact ⟨rfl, rfl⟩
  · subst hw
    have hl : lv_has ls 2 [(0, .ref B.1.1), (1, .int 2)] := hl
    refine lv_tableIn (off := 37) (tgt := 38) hx hb dX5_miscue_1 (by decide) (by decide) rfl (by decide) ?_
    refine lv_aload_n hx hb dX5_miscue_38 rfl (lv_at hl 0 rfl) ?_
    refine zm_get hx hb hts hown hE hM hR.1 fl_X5_84_4 rfl dX5_miscue_39 ?_
    refine zm_iret hx hb hr hlk hM hS ?_ ⟨Nat.le_refl _, Nat.le_refl _⟩ dX5_miscue_42
    exact ⟨rfl, rfl⟩
  · refine lv_tableOut (tgt := 43) hx hb dX5_miscue_1 ?_ (by decide) ?_
    · have := lv_neT h0 (a := 0) (by decide); have := lv_neT h1 (a := 1) (by decide); have := lv_neT h2 (a := 2) (by decide); omega
    refine lv_bipush (v := (-2)) hx hb dX5_miscue_43 (by decide) ?_
    refine zm_iret hx hb hr hlk hM hS ?_ ⟨Nat.le_refl _, Nat.le_refl _⟩ dX5_miscue_45
    refine ⟨?_, rfl⟩
    unfold sp_miscue
    rw [if_neg h0, if_neg h1, if_neg h2]
set_option maxRecDepth 100000 in
set_option maxHeartbeats 4000000 in
theorem c_X5_points (l : Launch) (G : zm_G) (A : Nat → Prop) (B : zB) (S : zS) (M : zm_M) (hI : zInv S) (hR : RepC G B S M) : Met l yX5_points (zm_W yX5_points cX5_points 1 (some .long)) (zm_rm 0 0 0) (zm_Pc G [.ref B.1.1] A M) (zm_Q G (fun r M' => r = some (.long (s_po S)) ∧ M' = M) A) 0 0 A := by
  refine zm_start (by decide) (Nat.le_of_ble_eq_true rfl) ?_
  intro p e s m below meth c hx hb hml hr hts hown hlk hnm hE hA ls hl hM hS
  have hl : lv_has ls 1 [(0, .ref B.1.1)] := hl
  refine lv_aload_n hx hb dX5_points_0 rfl (lv_at hl 0 rfl) ?_
  refine zm_get hx hb hts hown hE hM hR.1 fl_X5_87_4 rfl dX5_points_1 ?_
  refine zm_lret hx hb hr hlk hM hS ?_ ⟨Nat.le_refl _, Nat.le_refl _⟩ dX5_points_4
  exact ⟨rfl, rfl⟩
set_option maxRecDepth 100000 in
set_option maxHeartbeats 4000000 in
theorem c_X5_strike (l : Launch) (G : zm_G) (A : Nat → Prop) (B : zB) (S : zS) (M : zm_M) (hI : zInv S) (hR : RepC G B S M) : Met l yX5_strike (zm_W yX5_strike cX5_strike 2 (some .int)) (zm_rm 0 0 0) (zm_Pc G [.ref B.1.1] A M) (zm_Q G (fun r M' => ∃ B', B'.1 = B.1 ∧ r = some (.int (nI (s_nc S))) ∧ RepC G B' (w_nc S 0) M') A) 0 0 A := by
  refine zm_start (by decide) (Nat.le_of_ble_eq_true rfl) ?_
  intro p e s m below meth c hx hb hml hr hts hown hlk hnm hE hA ls hl hM hS
  have hl : lv_has ls 2 [(0, .ref B.1.1)] := hl
  refine lv_aload_n hx hb dX5_strike_0 rfl (lv_at hl 0 rfl) ?_
  refine zm_get hx hb hts hown hE hM hR.1 fl_X5_71_4 rfl dX5_strike_1 ?_
  refine lv_istore_n (lv' := [(1, .int (nI (s_nc S))), (0, .ref B.1.1)]) hx hb dX5_strike_4 rfl hl (by decide) rfl (fun ls hl => ?_)
  refine lv_aload_n hx hb dX5_strike_5 rfl (lv_at hl 1 rfl) ?_
  refine lv_iconst (v := 0) hx hb dX5_strike_6 (by decide) ?_
  refine zm_put hx hb hts hown hE hM hS hR.1 fp_X5_71_4 rfl rfl (Nat.le_of_ble_eq_true rfl) dX5_strike_7 (fun H locs hM hS => ?_)
  have hR2 := hR.fld (S' := w_nc S 0) rfl rfl rfl rfl (Nat.zero_le _) rfl
  refine lv_iload_n hx hb dX5_strike_10 rfl (lv_at hl 0 rfl) ?_
  refine zm_iret hx hb hr hlk hM hS ?_ ⟨Nat.le_refl _, Nat.le_refl _⟩ dX5_strike_11
  exact ⟨B, rfl, rfl, hR2⟩
end
section
/-! what holds of every state is kept -/
theorem zInv.hd {S : zS} (h : zInv S) {o : Option Nat} (ho : ∀ t, o = some t → t < s_np S) : zInv (w_hd S o) := ⟨h.1, h.2.1, h.2.2.1, h.2.2.2.1, h.2.2.2.2.1, ho, h.2.2.2.2.2.2⟩
theorem zInv.sl {S : zS} (h : zInv S) (i : Nat) {o : Option Nat} (ho : ∀ t, o = some t → t < s_np S) : zInv (w_sl S (va_up (s_sl S) i o)) := by
  refine ⟨h.1, h.2.1, h.2.2.1, h.2.2.2.1, fun a t ha ht => ?_, h.2.2.2.2.2.1, h.2.2.2.2.2.2⟩
  by_cases hq : a = i
  · subst hq
    exact ho t (by rw [← ht]; exact (va_up_self _ _ _).symm)
  · exact h.2.2.2.2.1 a t ha (by rw [← ht]; exact (va_up_ne _ _ hq).symm)
theorem zInv.th {S : zS} (h : zInv S) (j i : Nat) {o : Option Nat} (ho : ∀ t, o = some t → t < s_np S ∧ gA (s_kd S t) (inn (s_kd S j)) = true) : zInv (w_th S (up2 (s_th S) j i o)) := by
  refine ⟨h.1, h.2.1, h.2.2.1, fun a ha ha8 b t hb ht => ?_, h.2.2.2.2.1, h.2.2.2.2.2.1, h.2.2.2.2.2.2⟩
  have hu : up2 (s_th S) j i o a b = some t := ht
  unfold up2 at hu
  split at hu
  · rename_i hq
    obtain ⟨rfl, rfl⟩ := hq
    exact ho t hu
  · exact h.2.2.2.1 a ha ha8 b t hb hu
theorem zInv.wr {S : zS} (h : zInv S) (w : Nat → Int32) : zInv (w_wr S w) := h
theorem zInv.nu {S : zS} (h : zInv S) (w : Nat → Nat → Int64) : zInv (w_nu S w) := h
theorem zInv.po {S : zS} (h : zInv S) (w : Int64) : zInv (w_po S w) := h
theorem zInv.ms {S : zS} (h : zInv S) (x y z : Int32) : zInv (w_ms S x y z) := h
theorem zInv.nc {S : zS} (h : zInv S) : zInv (w_nc S 0) := ⟨h.1, Nat.zero_le _, h.2.2.1, h.2.2.2.1, h.2.2.2.2.1, h.2.2.2.2.2.1, fun c hc => absurd hc (Nat.not_lt_zero _)⟩
theorem gA_row : ∀ k, k < 16 → ∀ v, 8 ≤ v → v ≤ 15 → gA k v = true → 8 ≤ k := by
  intro k hk v h1 h2
  have : ∀ k, k < 16 → ∀ v, v < 16 → 8 ≤ v → gA k v = true → 8 ≤ k := by decide
  exact this k hk v (by omega) h1
/-- what a cue keeps -/
theorem stp_inv {S : zS} (h : zInv S) {c : Nat} (hc : c < s_nc S) : zInv (stp S c).2 ∧ s_nc (stp S c).2 = s_nc S ∧ s_cu (stp S c).2 = s_cu S ∧ s_np (stp S c).2 = s_np S ∧ s_of (stp S c).2 = s_of S ∧ ((stp S c).1 ≠ 0 → (stp S c).2 = S) := by
  obtain ⟨c1, c2, c3, c4, c5⟩ := h.2.2.2.2.2.2 c hc
  have hso : ∀ t, s_sl S (s_cu S c).2.1 = some t → t < s_np S := fun t ht => h.2.2.2.2.1 _ t c2 ht
  unfold stp
  split
  · exact ⟨h, rfl, rfl, rfl, rfl, fun _ => rfl⟩
  · rename_i hg
    split
    · split
      · exact ⟨h, rfl, rfl, rfl, rfl, fun _ => rfl⟩
      · exact ⟨h.po _, rfl, rfl, rfl, rfl, fun q => absurd rfl q⟩
    · split
      · exact ⟨h, rfl, rfl, rfl, rfl, fun _ => rfl⟩
      · exact ⟨h.wr _, rfl, rfl, rfl, rfl, fun q => absurd rfl q⟩
    · rename_i ha
      split
      · exact ⟨h, rfl, rfl, rfl, rfl, fun _ => rfl⟩
      · rename_i j hj
        split
        · rename_i hi
          have hjn := hso j hj
          have h8 : 8 ≤ s_kd S j := by
            rw [hj] at hg
            have hg : gA (s_kd S j) (s_cu S c).2.2.1 = true := by simpa [goS] using hg
            rw [ha] at c5
            simp [hasV] at c5
            exact gA_row _ (h.2.2.1 j hjn).1 _ c5.1 c5.2 hg
          exact ⟨(h.hd (fun t ht => (h.2.2.2.1 j hjn h8 _ t hi ht).1)).th j _ (fun t ht => by cases ht), rfl, rfl, rfl, rfl, fun q => absurd rfl q⟩
        · exact ⟨h, rfl, rfl, rfl, rfl, fun _ => rfl⟩
    · split
      · exact ⟨h, rfl, rfl, rfl, rfl, fun _ => rfl⟩
      · split
        · exact ⟨h, rfl, rfl, rfl, rfl, fun _ => rfl⟩
        · rename_i j hj
          split
          · split
            · exact ⟨h, rfl, rfl, rfl, rfl, fun _ => rfl⟩
            · rename_i hk
              refine ⟨(h.hd (o := none) (fun t ht => by cases ht)).th j _ (o := s_hd S) (fun t ht => ⟨h.2.2.2.2.2.1 t ht, ?_⟩), rfl, rfl, rfl, rfl, fun q => absurd rfl q⟩
              rw [ht] at hk
              show gA (s_kd S t) (inn (s_kd S j)) = true
              simpa [goS] using hk
          · exact ⟨h, rfl, rfl, rfl, rfl, fun _ => rfl⟩
    · exact ⟨(h.sl _ (o := s_hd S) h.2.2.2.2.2.1).hd hso, rfl, rfl, rfl, rfl, fun q => absurd rfl q⟩
    · exact ⟨h.sl _ hso, rfl, rfl, rfl, rfl, fun q => absurd rfl q⟩
theorem pls_inv : ∀ (n c : Nat) {S : zS}, zInv S → c + n ≤ s_nc S → zInv (pls n c S).2
  | 0, _, _, h, _ => h
  | n + 1, c, S, h, hc => by
    obtain ⟨g1, g2, -⟩ := stp_inv h (c := c) (by omega)
    unfold pls
    split
    · exact pls_inv n (c + 1) g1 (by rw [g2]; omega)
    · exact h.ms _ _ _
theorem sp_play_inv {S : zS} (h : zInv S) (a b : Int32) : zInv (sp_play S a b).2 := by
  unfold sp_play
  split
  · rename_i x y hx hy
    split
    · have hn := h.2.1
      obtain ⟨h1, -⟩ := ix_some (by omega) hx
      obtain ⟨h2, -⟩ := ix_some (by omega) hy
      refine pls_inv _ _ (h.ms _ _ _) ?_
      show x + (y + 1 - x) ≤ s_nc S
      omega
    · exact h
  · exact h
theorem sp_slot_inv {S : zS} (h : zInv S) (x p : Int32) : zInv (sp_slot S x p).2 := by
  unfold sp_slot
  split
  · rename_i j o hj ho
    refine h.sl j (fun t ht => ?_)
    subst ht
    unfold px at ho
    split at ho
    · cases ho
    · cases hp : ix (s_np S) p with
      | none => rw [hp] at ho; cases ho
      | some k =>
        rw [hp] at ho
        cases ho
        have hn := h.1
        exact (ix_some (by omega) hp).1
  · exact h
theorem sp_set_inv {S : zS} (h : zInv S) (p i v : Int32) : zInv (sp_set S p i v).2 := by
  unfold sp_set
  split
  · exact h
  · split
    · exact h
    · split
      · exact h
      · exact h.nu _
theorem sp_cue_inv {S : zS} (h : zInv S) (a x v i : Int32) : zInv (sp_cue S a x v i).2 := by
  unfold sp_cue
  split
  · rename_i aa xx vv ii ha hx hv hi
    split
    · exact h
    · split
      · exact h
      · rename_i hh hn
        have hnc := h.2.1
        refine ⟨h.1, ?_, h.2.2.1, h.2.2.2.1, h.2.2.2.2.1, h.2.2.2.2.2.1, fun c hc => ?_⟩
        · show s_nc S + 1 ≤ 30
          omega
        · have hc : c < s_nc S + 1 := hc
          show (va_up (s_cu S) (s_nc S) (aa, xx, vv, ii) c).1 < 6 ∧ _
          by_cases hq : c = s_nc S
          · subst hq
            rw [show s_cu (w_cu S (s_nc S + 1) (va_up (s_cu S) (s_nc S) (aa, xx, vv, ii))) (s_nc S) = (aa, xx, vv, ii) from va_up_self _ _ _, va_up_self]
            exact ⟨(ix_some (by decide) ha).1, (ix_some (by decide) hx).1, (ix_some (by decide) hv).1, (ix_some (by decide) hi).1, by simpa using hh⟩
          · rw [show s_cu (w_cu S (s_nc S + 1) (va_up (s_cu S) (s_nc S) (aa, xx, vv, ii))) c = s_cu S c from va_up_ne _ _ hq, va_up_ne _ _ hq]
            exact h.2.2.2.2.2.2 c (by omega)
  · exact h
theorem sp_prop_inv {S : zS} (h : zInv S) (k n : Int32) : zInv (sp_prop S k n).2 := by
  unfold sp_prop
  split
  · exact h
  · rename_i kk hk
    split
    · exact h
    · rename_i nn hn
      split
      · exact h
      · rename_i hnp
        obtain ⟨hk1, -⟩ := ix_some (by decide) hk
        obtain ⟨hn1, -⟩ := ix_some (by split <;> decide) hn
        have h50 := h.1
        refine ⟨?_, h.2.1, fun j hj => ?_, fun j hj h8 i t hi ht => ?_, fun i t hi ht => Nat.lt_succ_of_lt (h.2.2.2.2.1 i t hi ht), fun t ht => Nat.lt_succ_of_lt (h.2.2.2.2.2.1 t ht), h.2.2.2.2.2.2⟩
        · show s_np S + 1 ≤ 50
          omega
        · have hj : j < s_np S + 1 := hj
          show va_up (s_kd S) (s_np S) kk j < 16 ∧ va_up (s_sz S) (s_np S) nn j ≤ 100 ∧ (isPc (va_up (s_kd S) (s_np S) kk j) = false → va_up (s_sz S) (s_np S) nn j ≤ 5)
          by_cases hq : j = s_np S
          · subst hq
            rw [va_up_self, va_up_self]
            refine ⟨hk1, ?_, fun hp => ?_⟩
            · split at hn1 <;> omega
            · rw [if_neg (by rw [hp]; decide)] at hn1
              omega
          · rw [va_up_ne _ _ hq, va_up_ne _ _ hq]
            exact h.2.2.1 j (by omega)
        · have hj : j < s_np S + 1 := hj
          have ht : va_up (s_th S) (s_np S) (fun _ => none) j i = some t := ht
          have hi : i < va_up (s_sz S) (s_np S) nn j := hi
          have h8 : 8 ≤ va_up (s_kd S) (s_np S) kk j := h8
          show t < s_np S + 1 ∧ gA (va_up (s_kd S) (s_np S) kk t) (inn (va_up (s_kd S) (s_np S) kk j)) = true
          by_cases hq : j = s_np S
          · subst hq
            rw [va_up_self] at ht
            cases ht
          · rw [va_up_ne _ _ hq] at ht hi h8 ⊢
            obtain ⟨g1, g2⟩ := h.2.2.2.1 j (by omega) h8 i t hi ht
            rw [va_up_ne _ _ (by omega : t ≠ s_np S)]
            exact ⟨by omega, g2⟩
theorem s_0_inv : zInv s_0 := ⟨by decide, by decide, fun j hj => absurd hj (Nat.not_lt_zero _), fun j hj => absurd hj (Nat.not_lt_zero _), fun i t hi ht => (by cases ht), fun t ht => (by cases ht), fun c hc => absurd hc (Nat.not_lt_zero _)⟩
end
section
set_option maxRecDepth 100000 in
set_option maxHeartbeats 4000000 in
theorem c_X2_worthBy (l : Launch) (G : zm_G) (A : Nat → Prop) (B : zB) (S : zS) (M : zm_M) (j v : Nat) (hI : zInv S) (hR : RepC G B S M) (hj : j < s_np S) (hk : isPc (s_kd S j) = true) (hv : v = 4 ∨ v = 5 ∨ v = 6 ∨ v = 7 ∨ v = 16) : Met l yX2_worthBy (zm_W yX2_worthBy cX2_worthBy 2 (some .long)) (zm_rm 0 0 0) (zm_Pc G [.ref (B.2.1 j), .int (nI v)] A M) (zm_Q G (fun r M' => r = some (.long (wOne S j v)) ∧ M' = M) A) 0 0 A := by
  refine zm_start (by decide) (Nat.le_of_ble_eq_true rfl) ?_
  intro p e s m below meth c hx hb hml hr hts hown hlk hnm hE hA ls hl hM hS
  have hl : lv_has ls 2 [(0, .ref (B.2.1 j)), (1, .int (nI v))] := hl
  have hc := hR.2.2.2.2.2.1 j hj
  rw [pcell_pc hk] at hc
  refine lv_iload_n hx hb dX2_worthBy_0 rfl (lv_at hl 1 rfl) ?_
  rcases hv with rfl | rfl | rfl | rfl | rfl
  · refine lv_tableIn (off := 67) (tgt := 68) hx hb dX2_worthBy_1 (by decide) (by decide) rfl (by decide) ?_
    refine lv_aload_n hx hb dX2_worthBy_68 rfl (lv_at hl 0 rfl) ?_
    refine zm_get hx hb hts hown hE hM hc fl_X2_9_2 rfl dX2_worthBy_69 ?_
    refine lv_i2l hx hb dX2_worthBy_72 rfl ?_
    refine lv_aload_n hx hb dX2_worthBy_73 rfl (lv_at hl 0 rfl) ?_
    refine zm_get hx hb hts hown hE hM hc fl_X2_15_2 rfl dX2_worthBy_74 ?_
    refine lv_i2l hx hb dX2_worthBy_77 rfl ?_
    refine lv_ladd hx hb dX2_worthBy_78 ?_
    refine zm_lret hx hb hr hlk hM hS ?_ ⟨Nat.le_refl _, Nat.le_refl _⟩ dX2_worthBy_79
    exact ⟨rfl, rfl⟩
  · refine lv_tableIn (off := 79) (tgt := 80) hx hb dX2_worthBy_1 (by decide) (by decide) rfl (by decide) ?_
    refine lv_ldc2 (v := 2) hx hb hown (hts _ cst_X2_18) dX2_worthBy_80 ?_
    refine lv_aload_n hx hb dX2_worthBy_83 rfl (lv_at hl 0 rfl) ?_
    refine zm_get hx hb hts hown hE hM hc fl_X2_15_2 rfl dX2_worthBy_84 ?_
    refine lv_i2l hx hb dX2_worthBy_87 rfl ?_
    refine lv_lmul hx hb dX2_worthBy_88 ?_
    refine zm_lret hx hb hr hlk hM hS ?_ ⟨Nat.le_refl _, Nat.le_refl _⟩ dX2_worthBy_89
    exact ⟨rfl, rfl⟩
  · refine lv_tableIn (off := 89) (tgt := 90) hx hb dX2_worthBy_1 (by decide) (by decide) rfl (by decide) ?_
    refine lv_ldc2 (v := 3) hx hb hown (hts _ cst_X2_20) dX2_worthBy_90 ?_
    refine lv_aload_n hx hb dX2_worthBy_93 rfl (lv_at hl 0 rfl) ?_
    refine zm_get hx hb hts hown hE hM hc fl_X2_9_2 rfl dX2_worthBy_94 ?_
    refine lv_i2l hx hb dX2_worthBy_97 rfl ?_
    refine lv_lmul hx hb dX2_worthBy_98 ?_
    refine zm_lret hx hb hr hlk hM hS ?_ ⟨Nat.le_refl _, Nat.le_refl _⟩ dX2_worthBy_99
    exact ⟨rfl, rfl⟩
  · refine lv_tableIn (off := 99) (tgt := 100) hx hb dX2_worthBy_1 (by decide) (by decide) rfl (by decide) ?_
    refine lv_aload_n hx hb dX2_worthBy_100 rfl (lv_at hl 0 rfl) ?_
    refine zm_get hx hb hts hown hE hM hc fl_X2_9_2 rfl dX2_worthBy_101 ?_
    refine lv_i2l hx hb dX2_worthBy_104 rfl ?_
    refine zm_lret hx hb hr hlk hM hS ?_ ⟨Nat.le_refl _, Nat.le_refl _⟩ dX2_worthBy_105
    exact ⟨rfl, rfl⟩
  · refine lv_tableIn (off := 105) (tgt := 106) hx hb dX2_worthBy_1 (by decide) (by decide) rfl (by decide) ?_
    refine lv_aload_n hx hb dX2_worthBy_106 rfl (lv_at hl 0 rfl) ?_
    refine zm_get hx hb hts hown hE hM hc fl_X2_22_2 rfl dX2_worthBy_107 ?_
    refine lv_bipush (v := 6) hx hb dX2_worthBy_110 (by decide) ?_
    refine lv_icmp_ne (tgt := 127) hx hb dX2_worthBy_112 (by decide) (fun c112 => ?_) (fun c112 => ?_)
    · refine lv_ldc2 (v := 2) hx hb hown (hts _ cst_X2_18) dX2_worthBy_127 ?_
      refine lv_aload_n hx hb dX2_worthBy_130 rfl (lv_at hl 0 rfl) ?_
      refine zm_get hx hb hts hown hE hM hc fl_X2_9_2 rfl dX2_worthBy_131 ?_
      refine lv_i2l hx hb dX2_worthBy_134 rfl ?_
      refine lv_lmul hx hb dX2_worthBy_135 ?_
      refine zm_lret hx hb hr hlk hM hS ?_ ⟨Nat.le_refl _, Nat.le_refl _⟩ dX2_worthBy_136
      refine ⟨?_, rfl⟩
      have h16 := (hI.2.2.1 j hj).1
      first | (have h6 : s_kd S j = 6 := (nI_eq (b := 6) (by omega) (by omega)).mp c112; simp only [wOne, if_pos h6]) | (have h6 : ¬ s_kd S j = 6 := fun q => c112 (by rw [q]; rfl); simp only [wOne, if_neg h6])
    · refine lv_aload_n hx hb dX2_worthBy_115 rfl (lv_at hl 0 rfl) ?_
      refine zm_get hx hb hts hown hE hM hc fl_X2_9_2 rfl dX2_worthBy_116 ?_
      refine lv_i2l hx hb dX2_worthBy_119 rfl ?_
      refine lv_ldc2 (v := 5) hx hb hown (hts _ cst_X2_25) dX2_worthBy_120 ?_
      refine lv_ladd hx hb dX2_worthBy_123 ?_
      refine lv_goto (tgt := 136) hx hb dX2_worthBy_124 (by decide) ?_
      refine zm_lret hx hb hr hlk hM hS ?_ ⟨Nat.le_refl _, Nat.le_refl _⟩ dX2_worthBy_136
      refine ⟨?_, rfl⟩
      have h16 := (hI.2.2.1 j hj).1
      first | (have h6 : s_kd S j = 6 := (nI_eq (b := 6) (by omega) (by omega)).mp c112; simp only [wOne, if_pos h6]) | (have h6 : ¬ s_kd S j = 6 := fun q => c112 (by rw [q]; rfl); simp only [wOne, if_neg h6])
theorem zsum_congr {f g : Nat → Int64} : ∀ (n : Nat), (∀ i, i < n → f i = g i) → zsum f n = zsum g n
  | 0, _ => rfl
  | n + 1, h => by unfold zsum; rw [zsum_congr n (fun i hi => h i (by omega)), h n (by omega)]
set_option maxRecDepth 100000 in
set_option maxHeartbeats 4000000 in
theorem c_X1_worthBy (l : Launch) (G : zm_G) (A : Nat → Prop) (B : zB) (S : zS) (M : zm_M) (j v : Nat) (hI : zInv S) (hR : RepC G B S M) (hj : j < s_np S) (hk : s_kd S j < 4) : Met l yX1_worthBy (zm_W yX1_worthBy cX1_worthBy 5 (some .long)) (zm_rm 0 0 0) (zm_Pc G [.ref (B.2.1 j), .int (nI v)] A M) (zm_Q G (fun r M' => r = some (.long (zsum (s_nu S j) (many S j))) ∧ M' = M) A) 0 0 A := by
  refine zm_start (by decide) (Nat.le_of_ble_eq_true rfl) ?_
  intro p e s m below meth c hx hb hml hr hts hown hlk hnm hE hA ls hl hM hS
  have hl : lv_has ls 5 [(0, .ref (B.2.1 j)), (1, .int (nI v))] := hl
  have hc := hR.2.2.2.2.2.1 j hj
  rw [pcell_nu hk] at hc
  obtain ⟨f, h7, e7⟩ := hR.2.2.2.2.2.2.2.1 j hj hk
  have hm := many15 hI hj hk
  refine lv_lconst (v := 0) hx hb dX1_worthBy_0 (by decide) ?_
  refine lv_lstore_n (lv' := [(2, .long 0), (0, .ref (B.2.1 j)), (1, .int (nI v))]) hx hb dX1_worthBy_1 rfl hl (by decide) rfl (fun ls hl => ?_)
  refine lv_iconst (v := 0) hx hb dX1_worthBy_2 (by decide) ?_
  refine lv_istore (lv' := [(4, .int 0), (2, .long 0), (0, .ref (B.2.1 j)), (1, .int (nI v))]) hx hb dX1_worthBy_3 hl (by decide) rfl (fun ls hl => ?_)
  have loop : ∀ (n k : Nat), k ≤ many S j → many S j + 1 ≤ k + n → ∀ (ls : Array Slot), lv_has ls 5 [(4, .int (nI k)), (2, .long (zsum f k)), (0, .ref (B.2.1 j)), (1, .int (nI v))] → W p l e (zm_rm 0 0 0) s m [.ref (B.2.1 j), .int (nI v)].toArray below meth c s.heap [] 0 0 (MQ below (zm_Q G (fun r M' => r = some (.long (zsum (s_nu S j) (many S j))) ∧ M' = M) A) [.ref (B.2.1 j), .int (nI v)].toArray s 0 0 A) (F0 m 5 ls []) := by
    intro n
    induction n with
    | zero => intro k h1 h2; exact absurd h2 (by omega)
    | succ n ih =>
      intro k hk1 hk2 ls hl
      refine lv_iload hx hb dX1_worthBy_5 (lv_at hl 0 rfl) ?_
      refine lv_aload_n hx hb dX1_worthBy_7 rfl (lv_at hl 2 rfl) ?_
      refine zm_get hx hb hts hown hE hM hc fl_X1_9_1 rfl dX1_worthBy_8 ?_
      refine zm_alenJ hx hb hE hM h7 dX1_worthBy_11 ?_
      refine lv_icmp_ge (tgt := 31) hx hb dX1_worthBy_12 (by decide) (fun c12 => ?_) (fun c12 => ?_)
      · have hkk : k = many S j := by have := (nI_leI (by omega) (by omega)).mp c12; omega
        refine lv_lload_n hx hb dX1_worthBy_31 rfl (lv_at hl 1 rfl) ?_
        refine zm_lret hx hb hr hlk hM hS ?_ ⟨Nat.le_refl _, Nat.le_refl _⟩ dX1_worthBy_32
        refine ⟨?_, rfl⟩
        rw [hkk, zsum_congr _ e7]
      · have hkk : k < many S j := by rw [nI_leI (by omega) (by omega)] at c12; omega
        refine lv_lload_n hx hb dX1_worthBy_15 rfl (lv_at hl 1 rfl) ?_
        refine lv_aload_n hx hb dX1_worthBy_16 rfl (lv_at hl 2 rfl) ?_
        refine zm_get hx hb hts hown hE hM hc fl_X1_9_1 rfl dX1_worthBy_17 ?_
        refine lv_iload hx hb dX1_worthBy_20 (lv_at hl 0 rfl) ?_
        refine zm_lald hx hb hE hM h7 (vp_in_nI (show k < many S j by omega) (by omega)) dX1_worthBy_22 ?_
        refine zt_eq (v' := .long (f k)) (by rw [nI_clamp (by omega)]) ?_
        refine lv_ladd hx hb dX1_worthBy_23 ?_
        refine lv_lstore_n (lv' := [(2, .long ((zsum f k) + (f k))), (4, .int (nI k)), (0, .ref (B.2.1 j)), (1, .int (nI v))]) hx hb dX1_worthBy_24 rfl hl (by decide) rfl (fun ls hl => ?_)
        refine lv_iinc (v := nI (k + 1)) (lv' := [(4, .int (nI (k + 1))), (2, .long ((zsum f k) + (f k))), (0, .ref (B.2.1 j)), (1, .int (nI v))]) hx hb dX1_worthBy_25 hl (k := 1) rfl (nI_1 k) (by decide) rfl (fun ls hl => ?_)
        refine lv_goto (tgt := 5) hx hb dX1_worthBy_28 (by decide) ?_
        exact ih (k + 1) (by omega) (by omega) ls (lv_sub hl [0, 1, 2, 3] rfl)
  exact loop (many S j + 1) 0 (Nat.zero_le _) (by omega) ls (lv_sub hl [0, 1, 2, 3] rfl)
end
section
theorem gA_pc : ∀ k, k < 16 → ∀ r, 8 ≤ r → r ≤ 12 → gA k (inn r) = true → isPc k = true := by
  intro k hk r h1 h2
  have : ∀ k, k < 16 → ∀ r, r < 13 → 8 ≤ r → gA k (inn r) = true → isPc k = true := by decide
  exact this k hk r (by omega) h1
theorem gA_rw : ∀ k, k < 16 → ∀ r, 13 ≤ r → r ≤ 15 → gA k (inn r) = true → 8 ≤ k ∧ k ≤ 12 := by
  intro k hk r h1 h2
  have : ∀ k, k < 16 → ∀ r, r < 16 → 13 ≤ r → gA k (inn r) = true → 8 ≤ k ∧ k ≤ 12 := by decide
  exact this k hk r (by omega) h1
theorem inn_pc : ∀ v, 8 ≤ v → v ≤ 12 → inn v = 4 ∨ inn v = 5 ∨ inn v = 6 ∨ inn v = 7 ∨ inn v = 16 := by
  intro v h1 h2
  have : ∀ v, v < 13 → 8 ≤ v → inn v = 4 ∨ inn v = 5 ∨ inn v = 6 ∨ inn v = 7 ∨ inn v = 16 := by decide
  exact this v (by omega) h1
theorem inn_rw : ∀ v, 13 ≤ v → v ≤ 15 → 8 ≤ inn v ∧ inn v ≤ 12 := by
  intro v h1 h2
  have : ∀ v, v < 16 → 13 ≤ v → 8 ≤ inn v ∧ inn v ≤ 12 := by decide
  exact this v (by omega) h1
theorem rw_of {k : Nat} (h1 : 8 ≤ k) (h2 : k ≤ 15) : isRw k = true := by simp [isRw, h1, h2]
set_option maxRecDepth 100000 in
set_option maxHeartbeats 4000000 in
theorem c_X4_worthBy1 (l : Launch) (G : zm_G) (A : Nat → Prop) (B : zB) (S : zS) (M : zm_M) (j v : Nat) (hI : zInv S) (hR : RepC G B S M) (hj : j < s_np S) (hk8 : 8 ≤ s_kd S j) (hk12 : s_kd S j ≤ 12) (hv8 : 8 ≤ v) (hv12 : v ≤ 12) : Met l yX4_worthBy (zm_W yX4_worthBy cX4_worthBy 6 (some .long)) (zm_rm 2 0 0) (zm_Pc G [.ref (B.2.1 j), .int (nI v)] A M) (zm_Q G (fun r M' => r = some (.long (zsum (fun i => wAt (fun t => wOne S t (inn v)) (s_th S j i)) (s_sz S j))) ∧ M' = M) A) 0 0 A := by
  refine zm_start (by decide) (Nat.le_of_ble_eq_true rfl) ?_
  intro p e s m below meth c hx hb hml hr hts hown hlk hnm hE hA ls hl hM hS
  have hl : lv_has ls 6 [(0, .ref (B.2.1 j)), (1, .int (nI v))] := hl
  obtain ⟨g, hg⟩ : ∃ g : Nat → Int64, g = fun i => wAt (fun t => wOne S t (inn v)) (s_th S j i) := ⟨_, rfl⟩
  have hc := hR.2.2.2.2.2.1 j hj
  rw [pcell_rw (rw_of (by omega) (by omega))] at hc
  obtain ⟨f, h6, e6⟩ := hR.2.2.2.2.2.2.1 j hj (rw_of (by omega) (by omega))
  have hm := hI.sz5 hj (rw_pc (rw_of (show 8 ≤ s_kd S j by omega) (by omega)))
  refine lv_lconst (v := 0) hx hb dX4_worthBy_0 (by decide) ?_
  refine lv_lstore_n (lv' := [(2, .long 0), (0, .ref (B.2.1 j)), (1, .int (nI v))]) hx hb dX4_worthBy_1 rfl hl (by decide) rfl (fun ls hl => ?_)
  refine lv_iload_n hx hb dX4_worthBy_2 rfl (lv_at hl 2 rfl) ?_
  refine zm_callSN (As := [.int (nI v)]) (rest := []) hx hb hml hts hown hE hA hM hS (c_X5_isRow l G A _ (nI v)) cd_X5_isRow nl_X4_13 rfl rfl hl.1 (Nat.le_of_ble_eq_true rfl) ⟨Nat.le_of_ble_eq_true rfl, Nat.le_of_ble_eq_true rfl⟩ ⟨Nat.le_of_ble_eq_true rfl, Nat.le_of_ble_eq_true rfl⟩ dX4_worthBy_3 ?_
  rintro r M1 H locs ⟨rfl, e1⟩ hM hS
  rw [e1] at hM
  clear e1 M1
  refine W.eq (g2 := F0 m 6 ls [.int (bI (zbt 8 15 (nI v)))]) rfl ?_
  refine lv_if_eq (tgt := 58) hx hb dX4_worthBy_6 (by decide) (fun c6 => ?_) (fun c6 => ?_)
  · exact absurd (bI_0.mp c6) (by rw [zbt_rw v (by omega), rw_of (by omega) (by omega)]; decide)
  · refine lv_iconst (v := 0) hx hb dX4_worthBy_9 (by decide) ?_
    refine lv_istore (lv' := [(4, .int 0), (2, .long 0), (0, .ref (B.2.1 j)), (1, .int (nI v))]) hx hb dX4_worthBy_10 hl (by decide) rfl (fun ls hl => ?_)
    have loop : ∀ (n k : Nat), k ≤ s_sz S j → s_sz S j + 1 ≤ k + n → ∀ (ls : Array Slot) (H : Heap) (locs : List Loc), zm_P G A M H → va_S A s.heap H locs → lv_has ls 6 [(4, .int (nI k)), (2, .long (zsum g k)), (0, .ref (B.2.1 j)), (1, .int (nI v))] → W p l e (zm_rm 2 0 0) s m [.ref (B.2.1 j), .int (nI v)].toArray below meth c H locs 0 0 (MQ below (zm_Q G (fun r M' => r = some (.long (zsum (fun i => wAt (fun t => wOne S t (inn v)) (s_th S j i)) (s_sz S j))) ∧ M' = M) A) [.ref (B.2.1 j), .int (nI v)].toArray s 0 0 A) (F0 m 12 ls []) := by
      intro n
      induction n with
      | zero => intro k h1 h2; exact absurd h2 (by omega)
      | succ n ih =>
        intro k hk1 hk2 ls H locs hM hS hl
        refine lv_iload hx hb dX4_worthBy_12 (lv_at hl 0 rfl) ?_
        refine lv_aload_n hx hb dX4_worthBy_14 rfl (lv_at hl 2 rfl) ?_
        refine zm_get hx hb hts hown hE hM hc fl_X4_7_3 rfl dX4_worthBy_15 ?_
        refine zm_alenR hx hb hE hM h6 dX4_worthBy_18 ?_
        refine lv_icmp_ge (tgt := 58) hx hb dX4_worthBy_19 (by decide) (fun c19 => ?_) (fun c19 => ?_)
        · have hkk : k = s_sz S j := by have := (nI_leI (by omega) (by omega)).mp c19; omega
          refine lv_lload_n hx hb dX4_worthBy_58 rfl (lv_at hl 1 rfl) ?_
          refine zm_lret hx hb hr hlk hM hS ?_ ⟨Nat.le_refl _, Nat.le_refl _⟩ dX4_worthBy_59
          refine ⟨?_, rfl⟩
          rw [hkk, hg]
        · have hkk : k < s_sz S j := by rw [nI_leI (by omega) (by omega)] at c19; omega
          refine lv_aload_n hx hb dX4_worthBy_22 rfl (lv_at hl 2 rfl) ?_
          refine zm_get hx hb hts hown hE hM hc fl_X4_7_3 rfl dX4_worthBy_23 ?_
          refine lv_iload hx hb dX4_worthBy_26 (lv_at hl 0 rfl) ?_
          refine zm_aldR hx hb hE hM h6 (vp_in_nI hkk (by omega)) dX4_worthBy_28 ?_
          refine zt_eq (v' := va_rf (oA B (s_th S j k))) (by rw [nI_clamp (by omega), e6 k hkk]) ?_
          refine zq_astore (lv' := [(5, va_rf (oA B (s_th S j k))), (4, .int (nI k)), (2, .long (zsum g k)), (0, .ref (B.2.1 j)), (1, .int (nI v))]) hx hb dX4_worthBy_29 hl (by decide) rfl (fun ls hl => ?_)
          refine lv_lload_n hx hb dX4_worthBy_31 rfl (lv_at hl 2 rfl) ?_
          refine zq_aload hx hb dX4_worthBy_32 (lv_at hl 0 rfl) ?_
          refine zq_ifnonnull (tgt := 41) hx hb dX4_worthBy_34 (by decide) (fun a34 c34 => ?_) (fun c34 => ?_)
          · obtain ⟨t, hth, rfl⟩ := oA_some c34
            rw [hth] at hl
            have hl : lv_has ls 6 [(5, .ref (B.2.1 t)), (4, .int (nI k)), (2, .long (zsum g k)), (0, .ref (B.2.1 j)), (1, .int (nI v))] := hl
            obtain ⟨htn, hga⟩ := hI.2.2.2.1 j hj (by omega) k t hkk hth
            have ht16 := (hI.2.2.1 t htn).1
            have hkt := gA_pc _ ht16 _ hk8 hk12 hga
            have hct := hR.2.2.2.2.2.1 t htn
            rw [pcell_pc hkt] at hct
            have hgk : zsum g (k + 1) = zsum g k + wOne S t (inn v) := by show zsum g k + g k = _; rw [show g k = wOne S t (inn v) by rw [hg]; show wAt _ (s_th S j k) = _; rw [hth]; rfl]
            refine lv_aload hx hb dX4_worthBy_41 (lv_at hl 0 rfl) ?_
            refine lv_iload_n hx hb dX4_worthBy_43 rfl (lv_at hl 4 rfl) ?_
            refine zm_callSN (As := [.int (nI v)]) (rest := [.ref (B.2.1 t), .long (zsum g k)]) hx hb hml hts hown hE hA hM hS (c_X5_partView l G A _ v (by omega) (by omega)) cd_X5_partView nl_X4_19 rfl rfl hl.1 (Nat.le_of_ble_eq_true rfl) ⟨Nat.le_of_ble_eq_true rfl, Nat.le_of_ble_eq_true rfl⟩ ⟨Nat.le_of_ble_eq_true rfl, Nat.le_of_ble_eq_true rfl⟩ dX4_worthBy_44 ?_
            rintro r M1 H locs ⟨rfl, e1⟩ hM hS
            rw [e1] at hM
            clear e1 M1
            refine W.eq (g2 := F0 m 47 ls [.int (nI (inn v)), .ref (B.2.1 t), .long (zsum g k)]) rfl ?_
            refine zm_callU (x := ⟨"PropStore$Prop", "worthBy", "(I)J"⟩) (As := [.int (nI (inn v))]) (rest := [.long (zsum g k)]) hx hb hml hts hown hE hA hM hS hct rfl (c_X2_worthBy l G A B S _ t (inn v) hI hR htn hkt (inn_pc v hv8 hv12)) cd_X2_worthBy ⟨rfl, rfl, rfl⟩ mu_X4_23_2 rfl rfl hl.1 (Nat.le_of_ble_eq_true rfl) ⟨Nat.le_of_ble_eq_true rfl, Nat.le_of_ble_eq_true rfl⟩ ⟨Nat.le_of_ble_eq_true rfl, Nat.le_of_ble_eq_true rfl⟩ dX4_worthBy_47 ?_
            rintro r M1 H locs ⟨rfl, e1⟩ hM hS
            rw [e1] at hM
            clear e1 M1
            refine W.eq (g2 := F0 m 50 ls [.long (wOne S t (inn v)), .long (zsum g k)]) rfl ?_
            refine lv_ladd hx hb dX4_worthBy_50 ?_
            refine lv_lstore_n (lv' := [(2, .long ((zsum g k) + (wOne S t (inn v)))), (5, .ref (B.2.1 t)), (4, .int (nI k)), (0, .ref (B.2.1 j)), (1, .int (nI v))]) hx hb dX4_worthBy_51 rfl hl (by decide) rfl (fun ls hl => ?_)
            refine lv_iinc (v := nI (k + 1)) (lv' := [(4, .int (nI (k + 1))), (2, .long ((zsum g k) + (wOne S t (inn v)))), (5, .ref (B.2.1 t)), (0, .ref (B.2.1 j)), (1, .int (nI v))]) hx hb dX4_worthBy_52 hl (k := 2) rfl (nI_1 k) (by decide) rfl (fun ls hl => ?_)
            refine lv_goto (tgt := 12) hx hb dX4_worthBy_55 (by decide) ?_
            exact ih (k + 1) (by omega) (by omega) ls _ _ hM hS (by rw [hgk]; exact (lv_sub hl [0, 1, 3, 4] rfl))
          · have hth := oA_none c34
            have hgk : zsum g (k + 1) = zsum g k + 0 := by show zsum g k + g k = _; rw [show g k = 0 by rw [hg]; show wAt _ (s_th S j k) = _; rw [hth]; rfl]
            refine lv_lconst (v := 0) hx hb dX4_worthBy_37 (by decide) ?_
            refine lv_goto (tgt := 50) hx hb dX4_worthBy_38 (by decide) ?_
            refine lv_ladd hx hb dX4_worthBy_50 ?_
            refine lv_lstore_n (lv' := [(2, .long ((zsum g k) + 0)), (5, va_rf (oA B (s_th S j k))), (4, .int (nI k)), (0, .ref (B.2.1 j)), (1, .int (nI v))]) hx hb dX4_worthBy_51 rfl hl (by decide) rfl (fun ls hl => ?_)
            refine lv_iinc (v := nI (k + 1)) (lv' := [(4, .int (nI (k + 1))), (2, .long ((zsum g k) + 0)), (5, va_rf (oA B (s_th S j k))), (0, .ref (B.2.1 j)), (1, .int (nI v))]) hx hb dX4_worthBy_52 hl (k := 2) rfl (nI_1 k) (by decide) rfl (fun ls hl => ?_)
            refine lv_goto (tgt := 12) hx hb dX4_worthBy_55 (by decide) ?_
            exact ih (k + 1) (by omega) (by omega) ls _ _ hM hS (by rw [hgk]; exact (lv_sub hl [0, 1, 3, 4] rfl))
    exact loop (s_sz S j + 1) 0 (Nat.zero_le _) (by omega) ls _ _ hM hS (lv_sub hl [0, 1, 2, 3] rfl)
set_option maxRecDepth 100000 in
set_option maxHeartbeats 4000000 in
theorem c_X4_worthBy2 (l : Launch) (G : zm_G) (A : Nat → Prop) (B : zB) (S : zS) (M : zm_M) (j v : Nat) (hI : zInv S) (hR : RepC G B S M) (hj : j < s_np S) (hk8 : 13 ≤ s_kd S j) (hk12 : s_kd S j ≤ 15) (hv8 : 13 ≤ v) (hv12 : v ≤ 15) : Met l yX4_worthBy (zm_W yX4_worthBy cX4_worthBy 6 (some .long)) (zm_rm 3 0 0) (zm_Pc G [.ref (B.2.1 j), .int (nI v)] A M) (zm_Q G (fun r M' => r = some (.long (zsum (fun i => wAt (fun t => wRow S t (inn v)) (s_th S j i)) (s_sz S j))) ∧ M' = M) A) 0 0 A := by
  refine zm_start (by decide) (Nat.le_of_ble_eq_true rfl) ?_
  intro p e s m below meth c hx hb hml hr hts hown hlk hnm hE hA ls hl hM hS
  have hl : lv_has ls 6 [(0, .ref (B.2.1 j)), (1, .int (nI v))] := hl
  obtain ⟨g, hg⟩ : ∃ g : Nat → Int64, g = fun i => wAt (fun t => wRow S t (inn v)) (s_th S j i) := ⟨_, rfl⟩
  have hc := hR.2.2.2.2.2.1 j hj
  rw [pcell_rw (rw_of (by omega) (by omega))] at hc
  obtain ⟨f, h6, e6⟩ := hR.2.2.2.2.2.2.1 j hj (rw_of (by omega) (by omega))
  have hm := hI.sz5 hj (rw_pc (rw_of (show 8 ≤ s_kd S j by omega) (by omega)))
  refine lv_lconst (v := 0) hx hb dX4_worthBy_0 (by decide) ?_
  refine lv_lstore_n (lv' := [(2, .long 0), (0, .ref (B.2.1 j)), (1, .int (nI v))]) hx hb dX4_worthBy_1 rfl hl (by decide) rfl (fun ls hl => ?_)
  refine lv_iload_n hx hb dX4_worthBy_2 rfl (lv_at hl 2 rfl) ?_
  refine zm_callSN (As := [.int (nI v)]) (rest := []) hx hb hml hts hown hE hA hM hS (c_X5_isRow l G A _ (nI v)) cd_X5_isRow nl_X4_13 rfl rfl hl.1 (Nat.le_of_ble_eq_true rfl) ⟨Nat.le_of_ble_eq_true rfl, Nat.le_of_ble_eq_true rfl⟩ ⟨Nat.le_of_ble_eq_true rfl, Nat.le_of_ble_eq_true rfl⟩ dX4_worthBy_3 ?_
  rintro r M1 H locs ⟨rfl, e1⟩ hM hS
  rw [e1] at hM
  clear e1 M1
  refine W.eq (g2 := F0 m 6 ls [.int (bI (zbt 8 15 (nI v)))]) rfl ?_
  refine lv_if_eq (tgt := 58) hx hb dX4_worthBy_6 (by decide) (fun c6 => ?_) (fun c6 => ?_)
  · exact absurd (bI_0.mp c6) (by rw [zbt_rw v (by omega), rw_of (by omega) (by omega)]; decide)
  · refine lv_iconst (v := 0) hx hb dX4_worthBy_9 (by decide) ?_
    refine lv_istore (lv' := [(4, .int 0), (2, .long 0), (0, .ref (B.2.1 j)), (1, .int (nI v))]) hx hb dX4_worthBy_10 hl (by decide) rfl (fun ls hl => ?_)
    have loop : ∀ (n k : Nat), k ≤ s_sz S j → s_sz S j + 1 ≤ k + n → ∀ (ls : Array Slot) (H : Heap) (locs : List Loc), zm_P G A M H → va_S A s.heap H locs → lv_has ls 6 [(4, .int (nI k)), (2, .long (zsum g k)), (0, .ref (B.2.1 j)), (1, .int (nI v))] → W p l e (zm_rm 3 0 0) s m [.ref (B.2.1 j), .int (nI v)].toArray below meth c H locs 0 0 (MQ below (zm_Q G (fun r M' => r = some (.long (zsum (fun i => wAt (fun t => wRow S t (inn v)) (s_th S j i)) (s_sz S j))) ∧ M' = M) A) [.ref (B.2.1 j), .int (nI v)].toArray s 0 0 A) (F0 m 12 ls []) := by
      intro n
      induction n with
      | zero => intro k h1 h2; exact absurd h2 (by omega)
      | succ n ih =>
        intro k hk1 hk2 ls H locs hM hS hl
        refine lv_iload hx hb dX4_worthBy_12 (lv_at hl 0 rfl) ?_
        refine lv_aload_n hx hb dX4_worthBy_14 rfl (lv_at hl 2 rfl) ?_
        refine zm_get hx hb hts hown hE hM hc fl_X4_7_3 rfl dX4_worthBy_15 ?_
        refine zm_alenR hx hb hE hM h6 dX4_worthBy_18 ?_
        refine lv_icmp_ge (tgt := 58) hx hb dX4_worthBy_19 (by decide) (fun c19 => ?_) (fun c19 => ?_)
        · have hkk : k = s_sz S j := by have := (nI_leI (by omega) (by omega)).mp c19; omega
          refine lv_lload_n hx hb dX4_worthBy_58 rfl (lv_at hl 1 rfl) ?_
          refine zm_lret hx hb hr hlk hM hS ?_ ⟨Nat.le_refl _, Nat.le_refl _⟩ dX4_worthBy_59
          refine ⟨?_, rfl⟩
          rw [hkk, hg]
        · have hkk : k < s_sz S j := by rw [nI_leI (by omega) (by omega)] at c19; omega
          refine lv_aload_n hx hb dX4_worthBy_22 rfl (lv_at hl 2 rfl) ?_
          refine zm_get hx hb hts hown hE hM hc fl_X4_7_3 rfl dX4_worthBy_23 ?_
          refine lv_iload hx hb dX4_worthBy_26 (lv_at hl 0 rfl) ?_
          refine zm_aldR hx hb hE hM h6 (vp_in_nI hkk (by omega)) dX4_worthBy_28 ?_
          refine zt_eq (v' := va_rf (oA B (s_th S j k))) (by rw [nI_clamp (by omega), e6 k hkk]) ?_
          refine zq_astore (lv' := [(5, va_rf (oA B (s_th S j k))), (4, .int (nI k)), (2, .long (zsum g k)), (0, .ref (B.2.1 j)), (1, .int (nI v))]) hx hb dX4_worthBy_29 hl (by decide) rfl (fun ls hl => ?_)
          refine lv_lload_n hx hb dX4_worthBy_31 rfl (lv_at hl 2 rfl) ?_
          refine zq_aload hx hb dX4_worthBy_32 (lv_at hl 0 rfl) ?_
          refine zq_ifnonnull (tgt := 41) hx hb dX4_worthBy_34 (by decide) (fun a34 c34 => ?_) (fun c34 => ?_)
          · obtain ⟨t, hth, rfl⟩ := oA_some c34
            rw [hth] at hl
            have hl : lv_has ls 6 [(5, .ref (B.2.1 t)), (4, .int (nI k)), (2, .long (zsum g k)), (0, .ref (B.2.1 j)), (1, .int (nI v))] := hl
            obtain ⟨htn, hga⟩ := hI.2.2.2.1 j hj (by omega) k t hkk hth
            have ht16 := (hI.2.2.1 t htn).1
            obtain ⟨hkt, hkt2⟩ := gA_rw _ ht16 _ hk8 hk12 hga
            have hct := hR.2.2.2.2.2.1 t htn
            rw [pcell_rw (rw_of hkt (by omega))] at hct
            have hgk : zsum g (k + 1) = zsum g k + wRow S t (inn v) := by show zsum g k + g k = _; rw [show g k = wRow S t (inn v) by rw [hg]; show wAt _ (s_th S j k) = _; rw [hth]; rfl]
            refine lv_aload hx hb dX4_worthBy_41 (lv_at hl 0 rfl) ?_
            refine lv_iload_n hx hb dX4_worthBy_43 rfl (lv_at hl 4 rfl) ?_
            refine zm_callSN (As := [.int (nI v)]) (rest := [.ref (B.2.1 t), .long (zsum g k)]) hx hb hml hts hown hE hA hM hS (c_X5_partView l G A _ v (by omega) (by omega)) cd_X5_partView nl_X4_19 rfl rfl hl.1 (Nat.le_of_ble_eq_true rfl) ⟨Nat.le_of_ble_eq_true rfl, Nat.le_of_ble_eq_true rfl⟩ ⟨Nat.le_of_ble_eq_true rfl, Nat.le_of_ble_eq_true rfl⟩ dX4_worthBy_44 ?_
            rintro r M1 H locs ⟨rfl, e1⟩ hM hS
            rw [e1] at hM
            clear e1 M1
            refine W.eq (g2 := F0 m 47 ls [.int (nI (inn v)), .ref (B.2.1 t), .long (zsum g k)]) rfl ?_
            refine zm_callU (x := ⟨"PropStore$Prop", "worthBy", "(I)J"⟩) (As := [.int (nI (inn v))]) (rest := [.long (zsum g k)]) hx hb hml hts hown hE hA hM hS hct rfl (c_X4_worthBy1 l G A B S _ t (inn v) hI hR htn hkt hkt2 (inn_rw v hv8 hv12).1 (inn_rw v hv8 hv12).2) cd_X4_worthBy ⟨rfl, rfl, rfl⟩ mu_X4_23_3 rfl rfl hl.1 (Nat.le_of_ble_eq_true rfl) ⟨Nat.le_of_ble_eq_true rfl, Nat.le_of_ble_eq_true rfl⟩ ⟨Nat.le_of_ble_eq_true rfl, Nat.le_of_ble_eq_true rfl⟩ dX4_worthBy_47 ?_
            rintro r M1 H locs ⟨rfl, e1⟩ hM hS
            rw [e1] at hM
            clear e1 M1
            refine W.eq (g2 := F0 m 50 ls [.long (wRow S t (inn v)), .long (zsum g k)]) rfl ?_
            refine lv_ladd hx hb dX4_worthBy_50 ?_
            refine lv_lstore_n (lv' := [(2, .long ((zsum g k) + (wRow S t (inn v)))), (5, .ref (B.2.1 t)), (4, .int (nI k)), (0, .ref (B.2.1 j)), (1, .int (nI v))]) hx hb dX4_worthBy_51 rfl hl (by decide) rfl (fun ls hl => ?_)
            refine lv_iinc (v := nI (k + 1)) (lv' := [(4, .int (nI (k + 1))), (2, .long ((zsum g k) + (wRow S t (inn v)))), (5, .ref (B.2.1 t)), (0, .ref (B.2.1 j)), (1, .int (nI v))]) hx hb dX4_worthBy_52 hl (k := 2) rfl (nI_1 k) (by decide) rfl (fun ls hl => ?_)
            refine lv_goto (tgt := 12) hx hb dX4_worthBy_55 (by decide) ?_
            exact ih (k + 1) (by omega) (by omega) ls _ _ hM hS (by rw [hgk]; exact (lv_sub hl [0, 1, 3, 4] rfl))
          · have hth := oA_none c34
            have hgk : zsum g (k + 1) = zsum g k + 0 := by show zsum g k + g k = _; rw [show g k = 0 by rw [hg]; show wAt _ (s_th S j k) = _; rw [hth]; rfl]
            refine lv_lconst (v := 0) hx hb dX4_worthBy_37 (by decide) ?_
            refine lv_goto (tgt := 50) hx hb dX4_worthBy_38 (by decide) ?_
            refine lv_ladd hx hb dX4_worthBy_50 ?_
            refine lv_lstore_n (lv' := [(2, .long ((zsum g k) + 0)), (5, va_rf (oA B (s_th S j k))), (4, .int (nI k)), (0, .ref (B.2.1 j)), (1, .int (nI v))]) hx hb dX4_worthBy_51 rfl hl (by decide) rfl (fun ls hl => ?_)
            refine lv_iinc (v := nI (k + 1)) (lv' := [(4, .int (nI (k + 1))), (2, .long ((zsum g k) + 0)), (5, va_rf (oA B (s_th S j k))), (0, .ref (B.2.1 j)), (1, .int (nI v))]) hx hb dX4_worthBy_52 hl (k := 2) rfl (nI_1 k) (by decide) rfl (fun ls hl => ?_)
            refine lv_goto (tgt := 12) hx hb dX4_worthBy_55 (by decide) ?_
            exact ih (k + 1) (by omega) (by omega) ls _ _ hM hS (by rw [hgk]; exact (lv_sub hl [0, 1, 3, 4] rfl))
    exact loop (s_sz S j + 1) 0 (Nat.zero_le _) (by omega) ls _ _ hM hS (lv_sub hl [0, 1, 2, 3] rfl)
end
section
set_option maxRecDepth 100000 in
set_option maxHeartbeats 4000000 in
theorem c_X2_putOn (l : Launch) (G : zm_G) (A : Nat → Prop) (B : zB) (S : zS) (M : zm_M) (j v : Nat) (hI : zInv S) (hR : RepC G B S M) (hj : j < s_np S) (hk : isPc (s_kd S j) = true) : Met l yX2_putOn (zm_W yX2_putOn cX2_putOn 2 none) (zm_rm 0 0 0) (zm_Pc G [.ref (B.2.1 j), .int (nI v)] A M) (zm_Q G (fun r M' => r = none ∧ RepC G B (w_wr S (upd (s_wr S) j (s_wr S j + 1))) M') A) 0 0 A := by
  refine zm_start (by decide) (Nat.le_of_ble_eq_true rfl) ?_
  intro p e s m below meth c hx hb hml hr hts hown hlk hnm hE hA ls hl hM hS
  have hl : lv_has ls 2 [(0, .ref (B.2.1 j)), (1, .int (nI v))] := hl
  have hc := hR.2.2.2.2.2.1 j hj
  rw [pcell_pc hk] at hc
  refine lv_aload_n hx hb dX2_putOn_0 rfl (lv_at hl 0 rfl) ?_
  refine lv_dup hx hb dX2_putOn_1 rfl ?_
  refine zm_get hx hb hts hown hE hM hc fl_X2_15_2 rfl dX2_putOn_2 ?_
  refine lv_iconst (v := 1) hx hb dX2_putOn_5 (by decide) ?_
  refine lv_iadd hx hb dX2_putOn_6 ?_
  refine zm_put hx hb hts hown hE hM hS hc fp_X2_15_2 rfl rfl (Nat.le_of_ble_eq_true rfl) dX2_putOn_7 (fun H locs hM hS => ?_)
  have hR2 := hR.wear hI (v := s_wr S j + 1) hj hk
  refine zm_vret hx hb hr hlk hM hS ?_ ⟨Nat.le_refl _, Nat.le_refl _⟩ dX2_putOn_10
  exact ⟨rfl, hR2⟩
theorem wrR_w {S : zS} {w u : Nat → Int32} {j : Nat} : ∀ n, wrR (w_wr S w) j u n = wrR S j u n
  | 0 => rfl
  | n + 1 => by unfold wrR; rw [wrR_w n]
set_option maxRecDepth 100000 in
set_option maxHeartbeats 4000000 in
theorem c_X4_putOn1 (l : Launch) (G : zm_G) (A : Nat → Prop) (B : zB) (S : zS) (M : zm_M) (j v : Nat) (hI : zInv S) (hR : RepC G B S M) (hj : j < s_np S) (hk8 : 8 ≤ s_kd S j) (hk12 : s_kd S j ≤ 12) (hv8 : 8 ≤ v) (hv12 : v ≤ 12) : Met l yX4_putOn (zm_W yX4_putOn cX4_putOn 4 none) (zm_rm 2 0 0) (zm_Pc G [.ref (B.2.1 j), .int (nI v)] A M) (zm_Q G (fun r M' => r = none ∧ RepC G B (w_wr S (wrR S j (s_wr S) (s_sz S j))) M') A) 0 0 A := by
  refine zm_start (by decide) (Nat.le_of_ble_eq_true rfl) ?_
  intro p e s m below meth c hx hb hml hr hts hown hlk hnm hE hA ls hl hM hS
  have hl : lv_has ls 4 [(0, .ref (B.2.1 j)), (1, .int (nI v))] := hl
  have hrw := rw_of (show 8 ≤ s_kd S j by omega) (by omega)
  have hm := hI.sz5 hj (rw_pc hrw)
  refine lv_iload_n hx hb dX4_putOn_0 rfl (lv_at hl 1 rfl) ?_
  refine zm_callSN (As := [.int (nI v)]) (rest := []) hx hb hml hts hown hE hA hM hS (c_X5_isRow l G A _ (nI v)) cd_X5_isRow nl_X4_13 rfl rfl hl.1 (Nat.le_of_ble_eq_true rfl) ⟨Nat.le_of_ble_eq_true rfl, Nat.le_of_ble_eq_true rfl⟩ ⟨Nat.le_of_ble_eq_true rfl, Nat.le_of_ble_eq_true rfl⟩ dX4_putOn_1 ?_
  rintro r M1 H locs ⟨rfl, e1⟩ hM hS
  rw [e1] at hM
  clear e1 M1
  refine W.eq (g2 := F0 m 4 ls [.int (bI (zbt 8 15 (nI v)))]) rfl ?_
  refine lv_if_eq (tgt := 43) hx hb dX4_putOn_4 (by decide) (fun c4 => ?_) (fun c4 => ?_)
  · exact absurd (bI_0.mp c4) (by rw [zbt_rw v (by omega), rw_of (by omega) (by omega)]; decide)
  · refine lv_iconst (v := 0) hx hb dX4_putOn_7 (by decide) ?_
    refine lv_istore_n (lv' := [(2, .int 0), (0, .ref (B.2.1 j)), (1, .int (nI v))]) hx hb dX4_putOn_8 rfl hl (by decide) rfl (fun ls hl => ?_)
    have loop : ∀ (n k : Nat), k ≤ s_sz S j → s_sz S j + 1 ≤ k + n → ∀ (ls : Array Slot) (M : zm_M) (H : Heap) (locs : List Loc), RepC G B (w_wr S (wrR S j (s_wr S) k)) M → zm_P G A M H → va_S A s.heap H locs → lv_has ls 4 [(2, .int (nI k)), (0, .ref (B.2.1 j)), (1, .int (nI v))] → W p l e (zm_rm 2 0 0) s m [.ref (B.2.1 j), .int (nI v)].toArray below meth c H locs 0 0 (MQ below (zm_Q G (fun r M' => r = none ∧ RepC G B (w_wr S (wrR S j (s_wr S) (s_sz S j))) M') A) [.ref (B.2.1 j), .int (nI v)].toArray s 0 0 A) (F0 m 9 ls []) := by
      intro n
      induction n with
      | zero => intro k h1 h2; exact absurd h2 (by omega)
      | succ n ih =>
        intro k hk1 hk2 ls M H locs hRk hM hS hl
        have hc := hRk.2.2.2.2.2.1 j hj
        rw [pcell_rw (S := w_wr S (wrR S j (s_wr S) k)) hrw] at hc
        have hc : M (B.2.1 j) = some (.inr (3, [.int (nI j), .int (nI (s_kd S j)), .ref (B.2.2.1 j)])) := hc
        obtain ⟨f, h6, e6⟩ := hRk.2.2.2.2.2.2.1 j hj hrw
        have h6 : M (B.2.2.1 j) = some (zm_R G (s_sz S j) f) := h6
        have e6 : ∀ i, i < s_sz S j → f i = oA B (s_th S j i) := e6
        refine lv_iload_n hx hb dX4_putOn_9 rfl (lv_at hl 0 rfl) ?_
        refine lv_aload_n hx hb dX4_putOn_10 rfl (lv_at hl 1 rfl) ?_
        refine zm_get hx hb hts hown hE hM hc fl_X4_7_3 rfl dX4_putOn_11 ?_
        refine zm_alenR hx hb hE hM h6 dX4_putOn_14 ?_
        refine lv_icmp_ge (tgt := 43) hx hb dX4_putOn_15 (by decide) (fun c15 => ?_) (fun c15 => ?_)
        · have hkk : k = s_sz S j := by have := (nI_leI (by omega) (by omega)).mp c15; omega
          refine zm_vret hx hb hr hlk hM hS ?_ ⟨Nat.le_refl _, Nat.le_refl _⟩ dX4_putOn_43
          exact ⟨rfl, by rw [← hkk]; exact hRk⟩
        · have hkk : k < s_sz S j := by rw [nI_leI (by omega) (by omega)] at c15; omega
          refine lv_aload_n hx hb dX4_putOn_18 rfl (lv_at hl 1 rfl) ?_
          refine zm_get hx hb hts hown hE hM hc fl_X4_7_3 rfl dX4_putOn_19 ?_
          refine lv_iload_n hx hb dX4_putOn_22 rfl (lv_at hl 0 rfl) ?_
          refine zm_aldR hx hb hE hM h6 (vp_in_nI hkk (by omega)) dX4_putOn_23 ?_
          refine zt_eq (v' := va_rf (oA B (s_th S j k))) (by rw [nI_clamp (by omega), e6 k hkk]) ?_
          refine zq_astore_n (lv' := [(3, va_rf (oA B (s_th S j k))), (2, .int (nI k)), (0, .ref (B.2.1 j)), (1, .int (nI v))]) hx hb dX4_putOn_24 rfl hl (by decide) rfl (fun ls hl => ?_)
          refine zq_aload_n hx hb dX4_putOn_25 rfl (lv_at hl 0 rfl) ?_
          refine zq_ifnull (tgt := 37) hx hb dX4_putOn_26 (by decide) (fun c26 => ?_) (fun a26 c26 => ?_)
          · have hth := oA_none c26
            have hRn : RepC G B (w_wr S (wrR S j (s_wr S) (k + 1))) M := by
              show RepC G B (w_wr S (wInc (wrR S j (s_wr S) k) (s_th S j k))) M
              rw [hth]; exact hRk
            refine lv_iinc (v := nI (k + 1)) (lv' := [(2, .int (nI (k + 1))), (3, va_rf (oA B (s_th S j k))), (0, .ref (B.2.1 j)), (1, .int (nI v))]) hx hb dX4_putOn_37 hl (k := 1) rfl (nI_1 k) (by decide) rfl (fun ls hl => ?_)
            refine lv_goto (tgt := 9) hx hb dX4_putOn_40 (by decide) ?_
            exact ih (k + 1) (by omega) (by omega) ls _ _ _ hRn hM hS (lv_sub hl [0, 2, 3] rfl)
          · obtain ⟨t, hth, rfl⟩ := oA_some c26
            rw [hth] at hl
            have hl : lv_has ls 4 [(3, .ref (B.2.1 t)), (2, .int (nI k)), (0, .ref (B.2.1 j)), (1, .int (nI v))] := hl
            obtain ⟨htn, hga⟩ := hI.2.2.2.1 j hj (by omega) k t hkk hth
            have ht16 := (hI.2.2.1 t htn).1
            have hkt := gA_pc _ ht16 _ hk8 hk12 hga
            have hct := hRk.2.2.2.2.2.1 t htn
            rw [pcell_pc (S := w_wr S (wrR S j (s_wr S) k)) hkt] at hct
            refine lv_aload_n hx hb dX4_putOn_29 rfl (lv_at hl 0 rfl) ?_
            refine lv_iload_n hx hb dX4_putOn_30 rfl (lv_at hl 3 rfl) ?_
            refine zm_callSN (As := [.int (nI v)]) (rest := [.ref (B.2.1 t)]) hx hb hml hts hown hE hA hM hS (c_X5_partView l G A _ v (by omega) (by omega)) cd_X5_partView nl_X4_19 rfl rfl hl.1 (Nat.le_of_ble_eq_true rfl) ⟨Nat.le_of_ble_eq_true rfl, Nat.le_of_ble_eq_true rfl⟩ ⟨Nat.le_of_ble_eq_true rfl, Nat.le_of_ble_eq_true rfl⟩ dX4_putOn_31 ?_
            rintro r M1 H locs ⟨rfl, e1⟩ hM hS
            rw [e1] at hM
            clear e1 M1
            refine W.eq (g2 := F0 m 34 ls [.int (nI (inn v)), .ref (B.2.1 t)]) rfl ?_
            refine zm_callU (x := ⟨"PropStore$Prop", "putOn", "(I)V"⟩) (As := [.int (nI (inn v))]) (rest := []) hx hb hml hts hown hE hA hM hS hct rfl (c_X2_putOn l G A B (w_wr S (wrR S j (s_wr S) k)) _ t (inn v) hI hRk htn hkt) cd_X2_putOn ⟨rfl, rfl, rfl⟩ mu_X4_27_2 rfl rfl hl.1 (Nat.le_of_ble_eq_true rfl) ⟨Nat.le_of_ble_eq_true rfl, Nat.le_of_ble_eq_true rfl⟩ ⟨Nat.le_of_ble_eq_true rfl, Nat.le_of_ble_eq_true rfl⟩ dX4_putOn_34 ?_
            rintro r M1 H locs ⟨rfl, hR1⟩ hM hS
            refine W.eq (g2 := F0 m 37 ls []) rfl ?_
            have hRn : RepC G B (w_wr S (wrR S j (s_wr S) (k + 1))) M1 := by
              show RepC G B (w_wr S (wInc (wrR S j (s_wr S) k) (s_th S j k))) M1
              rw [hth]; exact hR1
            refine lv_iinc (v := nI (k + 1)) (lv' := [(2, .int (nI (k + 1))), (3, .ref (B.2.1 t)), (0, .ref (B.2.1 j)), (1, .int (nI v))]) hx hb dX4_putOn_37 hl (k := 1) rfl (nI_1 k) (by decide) rfl (fun ls hl => ?_)
            refine lv_goto (tgt := 9) hx hb dX4_putOn_40 (by decide) ?_
            exact ih (k + 1) (by omega) (by omega) ls _ _ _ hRn hM hS (lv_sub hl [0, 2, 3] rfl)
    exact loop (s_sz S j + 1) 0 (Nat.zero_le _) (by omega) ls _ _ _ hR hM hS (lv_sub hl [0, 1, 2] rfl)
set_option maxRecDepth 100000 in
set_option maxHeartbeats 4000000 in
theorem c_X4_putOn2 (l : Launch) (G : zm_G) (A : Nat → Prop) (B : zB) (S : zS) (M : zm_M) (j v : Nat) (hI : zInv S) (hR : RepC G B S M) (hj : j < s_np S) (hk8 : 13 ≤ s_kd S j) (hk12 : s_kd S j ≤ 15) (hv8 : 13 ≤ v) (hv12 : v ≤ 15) : Met l yX4_putOn (zm_W yX4_putOn cX4_putOn 4 none) (zm_rm 3 0 0) (zm_Pc G [.ref (B.2.1 j), .int (nI v)] A M) (zm_Q G (fun r M' => r = none ∧ RepC G B (w_wr S (wrS S j (s_wr S) (s_sz S j))) M') A) 0 0 A := by
  refine zm_start (by decide) (Nat.le_of_ble_eq_true rfl) ?_
  intro p e s m below meth c hx hb hml hr hts hown hlk hnm hE hA ls hl hM hS
  have hl : lv_has ls 4 [(0, .ref (B.2.1 j)), (1, .int (nI v))] := hl
  have hrw := rw_of (show 8 ≤ s_kd S j by omega) (by omega)
  have hm := hI.sz5 hj (rw_pc hrw)
  refine lv_iload_n hx hb dX4_putOn_0 rfl (lv_at hl 1 rfl) ?_
  refine zm_callSN (As := [.int (nI v)]) (rest := []) hx hb hml hts hown hE hA hM hS (c_X5_isRow l G A _ (nI v)) cd_X5_isRow nl_X4_13 rfl rfl hl.1 (Nat.le_of_ble_eq_true rfl) ⟨Nat.le_of_ble_eq_true rfl, Nat.le_of_ble_eq_true rfl⟩ ⟨Nat.le_of_ble_eq_true rfl, Nat.le_of_ble_eq_true rfl⟩ dX4_putOn_1 ?_
  rintro r M1 H locs ⟨rfl, e1⟩ hM hS
  rw [e1] at hM
  clear e1 M1
  refine W.eq (g2 := F0 m 4 ls [.int (bI (zbt 8 15 (nI v)))]) rfl ?_
  refine lv_if_eq (tgt := 43) hx hb dX4_putOn_4 (by decide) (fun c4 => ?_) (fun c4 => ?_)
  · exact absurd (bI_0.mp c4) (by rw [zbt_rw v (by omega), rw_of (by omega) (by omega)]; decide)
  · refine lv_iconst (v := 0) hx hb dX4_putOn_7 (by decide) ?_
    refine lv_istore_n (lv' := [(2, .int 0), (0, .ref (B.2.1 j)), (1, .int (nI v))]) hx hb dX4_putOn_8 rfl hl (by decide) rfl (fun ls hl => ?_)
    have loop : ∀ (n k : Nat), k ≤ s_sz S j → s_sz S j + 1 ≤ k + n → ∀ (ls : Array Slot) (M : zm_M) (H : Heap) (locs : List Loc), RepC G B (w_wr S (wrS S j (s_wr S) k)) M → zm_P G A M H → va_S A s.heap H locs → lv_has ls 4 [(2, .int (nI k)), (0, .ref (B.2.1 j)), (1, .int (nI v))] → W p l e (zm_rm 3 0 0) s m [.ref (B.2.1 j), .int (nI v)].toArray below meth c H locs 0 0 (MQ below (zm_Q G (fun r M' => r = none ∧ RepC G B (w_wr S (wrS S j (s_wr S) (s_sz S j))) M') A) [.ref (B.2.1 j), .int (nI v)].toArray s 0 0 A) (F0 m 9 ls []) := by
      intro n
      induction n with
      | zero => intro k h1 h2; exact absurd h2 (by omega)
      | succ n ih =>
        intro k hk1 hk2 ls M H locs hRk hM hS hl
        have hc := hRk.2.2.2.2.2.1 j hj
        rw [pcell_rw (S := w_wr S (wrS S j (s_wr S) k)) hrw] at hc
        have hc : M (B.2.1 j) = some (.inr (3, [.int (nI j), .int (nI (s_kd S j)), .ref (B.2.2.1 j)])) := hc
        obtain ⟨f, h6, e6⟩ := hRk.2.2.2.2.2.2.1 j hj hrw
        have h6 : M (B.2.2.1 j) = some (zm_R G (s_sz S j) f) := h6
        have e6 : ∀ i, i < s_sz S j → f i = oA B (s_th S j i) := e6
        refine lv_iload_n hx hb dX4_putOn_9 rfl (lv_at hl 0 rfl) ?_
        refine lv_aload_n hx hb dX4_putOn_10 rfl (lv_at hl 1 rfl) ?_
        refine zm_get hx hb hts hown hE hM hc fl_X4_7_3 rfl dX4_putOn_11 ?_
        refine zm_alenR hx hb hE hM h6 dX4_putOn_14 ?_
        refine lv_icmp_ge (tgt := 43) hx hb dX4_putOn_15 (by decide) (fun c15 => ?_) (fun c15 => ?_)
        · have hkk : k = s_sz S j := by have := (nI_leI (by omega) (by omega)).mp c15; omega
          refine zm_vret hx hb hr hlk hM hS ?_ ⟨Nat.le_refl _, Nat.le_refl _⟩ dX4_putOn_43
          exact ⟨rfl, by rw [← hkk]; exact hRk⟩
        · have hkk : k < s_sz S j := by rw [nI_leI (by omega) (by omega)] at c15; omega
          refine lv_aload_n hx hb dX4_putOn_18 rfl (lv_at hl 1 rfl) ?_
          refine zm_get hx hb hts hown hE hM hc fl_X4_7_3 rfl dX4_putOn_19 ?_
          refine lv_iload_n hx hb dX4_putOn_22 rfl (lv_at hl 0 rfl) ?_
          refine zm_aldR hx hb hE hM h6 (vp_in_nI hkk (by omega)) dX4_putOn_23 ?_
          refine zt_eq (v' := va_rf (oA B (s_th S j k))) (by rw [nI_clamp (by omega), e6 k hkk]) ?_
          refine zq_astore_n (lv' := [(3, va_rf (oA B (s_th S j k))), (2, .int (nI k)), (0, .ref (B.2.1 j)), (1, .int (nI v))]) hx hb dX4_putOn_24 rfl hl (by decide) rfl (fun ls hl => ?_)
          refine zq_aload_n hx hb dX4_putOn_25 rfl (lv_at hl 0 rfl) ?_
          refine zq_ifnull (tgt := 37) hx hb dX4_putOn_26 (by decide) (fun c26 => ?_) (fun a26 c26 => ?_)
          · have hth := oA_none c26
            have hRn : RepC G B (w_wr S (wrS S j (s_wr S) (k + 1))) M := by
              show RepC G B (w_wr S (wrO S (wrS S j (s_wr S) k) (s_th S j k))) M
              rw [hth]; exact hRk
            refine lv_iinc (v := nI (k + 1)) (lv' := [(2, .int (nI (k + 1))), (3, va_rf (oA B (s_th S j k))), (0, .ref (B.2.1 j)), (1, .int (nI v))]) hx hb dX4_putOn_37 hl (k := 1) rfl (nI_1 k) (by decide) rfl (fun ls hl => ?_)
            refine lv_goto (tgt := 9) hx hb dX4_putOn_40 (by decide) ?_
            exact ih (k + 1) (by omega) (by omega) ls _ _ _ hRn hM hS (lv_sub hl [0, 2, 3] rfl)
          · obtain ⟨t, hth, rfl⟩ := oA_some c26
            rw [hth] at hl
            have hl : lv_has ls 4 [(3, .ref (B.2.1 t)), (2, .int (nI k)), (0, .ref (B.2.1 j)), (1, .int (nI v))] := hl
            obtain ⟨htn, hga⟩ := hI.2.2.2.1 j hj (by omega) k t hkk hth
            have ht16 := (hI.2.2.1 t htn).1
            obtain ⟨hkt, hkt2⟩ := gA_rw _ ht16 _ hk8 hk12 hga
            have hct := hRk.2.2.2.2.2.1 t htn
            rw [pcell_rw (S := w_wr S (wrS S j (s_wr S) k)) (rw_of (show 8 ≤ s_kd S t from hkt) (by show s_kd S t ≤ 15; omega))] at hct
            refine lv_aload_n hx hb dX4_putOn_29 rfl (lv_at hl 0 rfl) ?_
            refine lv_iload_n hx hb dX4_putOn_30 rfl (lv_at hl 3 rfl) ?_
            refine zm_callSN (As := [.int (nI v)]) (rest := [.ref (B.2.1 t)]) hx hb hml hts hown hE hA hM hS (c_X5_partView l G A _ v (by omega) (by omega)) cd_X5_partView nl_X4_19 rfl rfl hl.1 (Nat.le_of_ble_eq_true rfl) ⟨Nat.le_of_ble_eq_true rfl, Nat.le_of_ble_eq_true rfl⟩ ⟨Nat.le_of_ble_eq_true rfl, Nat.le_of_ble_eq_true rfl⟩ dX4_putOn_31 ?_
            rintro r M1 H locs ⟨rfl, e1⟩ hM hS
            rw [e1] at hM
            clear e1 M1
            refine W.eq (g2 := F0 m 34 ls [.int (nI (inn v)), .ref (B.2.1 t)]) rfl ?_
            refine zm_callU (x := ⟨"PropStore$Prop", "putOn", "(I)V"⟩) (As := [.int (nI (inn v))]) (rest := []) hx hb hml hts hown hE hA hM hS hct rfl (c_X4_putOn1 l G A B (w_wr S (wrS S j (s_wr S) k)) _ t (inn v) hI hRk htn hkt hkt2 (inn_rw v hv8 hv12).1 (inn_rw v hv8 hv12).2) cd_X4_putOn ⟨rfl, rfl, rfl⟩ mu_X4_27_3 rfl rfl hl.1 (Nat.le_of_ble_eq_true rfl) ⟨Nat.le_of_ble_eq_true rfl, Nat.le_of_ble_eq_true rfl⟩ ⟨Nat.le_of_ble_eq_true rfl, Nat.le_of_ble_eq_true rfl⟩ dX4_putOn_34 ?_
            rintro r M1 H locs ⟨rfl, hR1⟩ hM hS
            refine W.eq (g2 := F0 m 37 ls []) rfl ?_
            have hRn : RepC G B (w_wr S (wrS S j (s_wr S) (k + 1))) M1 := by
              show RepC G B (w_wr S (wrO S (wrS S j (s_wr S) k) (s_th S j k))) M1
              rw [hth]; rw [wrR_w] at hR1; exact hR1
            refine lv_iinc (v := nI (k + 1)) (lv' := [(2, .int (nI (k + 1))), (3, .ref (B.2.1 t)), (0, .ref (B.2.1 j)), (1, .int (nI v))]) hx hb dX4_putOn_37 hl (k := 1) rfl (nI_1 k) (by decide) rfl (fun ls hl => ?_)
            refine lv_goto (tgt := 9) hx hb dX4_putOn_40 (by decide) ?_
            exact ih (k + 1) (by omega) (by omega) ls _ _ _ hRn hM hS (lv_sub hl [0, 2, 3] rfl)
    exact loop (s_sz S j + 1) 0 (Nat.zero_le _) (by omega) ls _ _ _ hR hM hS (lv_sub hl [0, 1, 2] rfl)
set_option maxRecDepth 20000 in
theorem gA_l1 : ∀ k, k < 16 → ∀ v, v < 17 → gA k v = true → k < 4 → v < 4 := by decide +kernel
set_option maxRecDepth 20000 in
theorem gA_l2b : ∀ k, k < 16 → ∀ v, v < 17 → (!(gA k v && isPc k) || (v == 4 || v == 5 || v == 6 || v == 7 || v == 16)) = true := by decide +kernel
theorem gA_l2 (k : Nat) (hk : k < 16) (v : Nat) (hv : v < 17) (h : gA k v = true) (h2 : isPc k = true) : v = 4 ∨ v = 5 ∨ v = 6 ∨ v = 7 ∨ v = 16 := by have := gA_l2b k hk v hv; rw [h, h2] at this; simp at this; omega
set_option maxRecDepth 20000 in
theorem gA_l3b : ∀ k, k < 16 → ∀ v, v < 17 → (!(gA k v && (decide (8 ≤ k) && decide (k ≤ 12))) || (decide (8 ≤ v) && decide (v ≤ 12))) = true := by decide +kernel
theorem gA_l3 (k : Nat) (hk : k < 16) (v : Nat) (hv : v < 17) (h : gA k v = true) (h2 : 8 ≤ k) (h3 : k ≤ 12) : 8 ≤ v ∧ v ≤ 12 := by have := gA_l3b k hk v hv; rw [h, decide_eq_true h2, decide_eq_true h3] at this; simp at this; omega
set_option maxRecDepth 20000 in
theorem gA_l4 : ∀ k, k < 16 → ∀ v, v < 17 → gA k v = true → 13 ≤ k → 13 ≤ v ∧ v ≤ 15 := by decide +kernel
theorem gA_lv0 (k : Nat) (hk : k < 16) (v : Nat) (hv : v < 17) (h : gA k v = true) : (k < 4 → v < 4) ∧ (isPc k = true → v = 4 ∨ v = 5 ∨ v = 6 ∨ v = 7 ∨ v = 16) ∧ (8 ≤ k → k ≤ 12 → 8 ≤ v ∧ v ≤ 12) ∧ (13 ≤ k → 13 ≤ v ∧ v ≤ 15) := ⟨gA_l1 k hk v hv h, gA_l2 k hk v hv h, gA_l3 k hk v hv h, gA_l4 k hk v hv h⟩
theorem has1 : ∀ v, v < 17 → hasV 1 v = true → ¬ v < 4 := by decide
theorem wOf_nu {S : zS} {j v : Nat} (h : v < 4) : wOf S j v = zsum (s_nu S j) (many S j) := by unfold wOf; rw [if_pos h]
theorem wOf_pc {S : zS} {j v : Nat} (h : v = 4 ∨ v = 5 ∨ v = 6 ∨ v = 7 ∨ v = 16) : wOf S j v = wOne S j v := by unfold wOf; rw [if_neg (by omega), if_pos (by omega)]
theorem wOf_r1 {S : zS} {j v : Nat} (h : 8 ≤ v) (h2 : v ≤ 12) : wOf S j v = wRow S j v := by unfold wOf; rw [if_neg (by omega), if_neg (by omega), if_pos (by omega)]
theorem wOf_r2 {S : zS} {j v : Nat} (h : 13 ≤ v) (h2 : v ≤ 15) : wOf S j v = zsum (fun i => wAt (fun t => wRow S t (inn v)) (s_th S j i)) (s_sz S j) := by unfold wOf; rw [if_neg (by omega), if_neg (by omega), if_neg (by omega)]
theorem wAll_pc {S : zS} {j : Nat} (h : isPc (s_kd S j) = true) : wAll S j = upd (s_wr S) j (s_wr S j + 1) := by unfold wAll; rw [if_pos (by simp [isPc] at h; omega)]
theorem wAll_r1 {S : zS} {j : Nat} (h : 8 ≤ s_kd S j) (h2 : s_kd S j ≤ 12) : wAll S j = wrR S j (s_wr S) (s_sz S j) := by unfold wAll; rw [if_neg (by omega), if_pos (by omega)]
theorem wAll_r2 {S : zS} {j : Nat} (h : 13 ≤ s_kd S j) : wAll S j = wrS S j (s_wr S) (s_sz S j) := by unfold wAll; rw [if_neg (by omega), if_neg (by omega)]
set_option maxRecDepth 100000 in
set_option maxHeartbeats 4000000 in
theorem c_X5_worth (l : Launch) (G : zm_G) (A : Nat → Prop) (B : zB) (S : zS) (M : zm_M) (q x : Int32) (hI : zInv S) (hR : RepC G B S M) : Met l yX5_worth (zm_W yX5_worth cX5_worth 4 (some .long)) (zm_rm 4 0 0) (zm_Pc G [.ref B.1.1, .int q, .int x] A M) (zm_Q G (fun r M' => r = some (.long (sp_worth S q x)) ∧ M' = M) A) 0 0 A := by
  refine zm_start (by decide) (Nat.le_of_ble_eq_true rfl) ?_
  intro p e s m below meth c hx hb hml hr hts hown hlk hnm hE hA ls hl hM hS
  have hl : lv_has ls 4 [(0, .ref B.1.1), (1, .int q), (2, .int x)] := hl
  refine lv_aload_n hx hb dX5_worth_0 rfl (lv_at hl 0 rfl) ?_
  refine lv_iload_n hx hb dX5_worth_1 rfl (lv_at hl 1 rfl) ?_
  refine zm_callV (As := [.int q]) (rest := []) hx hb hml hts hown hE hA hM hS hR.1 rfl (c_X5_find l G A B S _ q hI hR) cd_X5_find ml_X5_39 rfl rfl hl.1 (Nat.le_of_ble_eq_true rfl) ⟨Nat.le_of_ble_eq_true rfl, Nat.le_of_ble_eq_true rfl⟩ ⟨Nat.le_of_ble_eq_true rfl, Nat.le_of_ble_eq_true rfl⟩ dX5_worth_2 ?_
  rintro r M1 H locs ⟨rfl, e1⟩ hM hS
  rw [e1] at hM
  clear e1 M1
  refine W.eq (g2 := F0 m 5 ls [va_rf (oA B (ix (s_np S) q))]) rfl ?_
  refine zq_astore_n (lv' := [(3, va_rf (oA B (ix (s_np S) q))), (0, .ref B.1.1), (1, .int q), (2, .int x)]) hx hb dX5_worth_5 rfl hl (by decide) rfl (fun ls hl => ?_)
  refine zq_aload_n hx hb dX5_worth_6 rfl (lv_at hl 0 rfl) ?_
  refine zq_ifnull (tgt := 25) hx hb dX5_worth_7 (by decide) (fun c7 => ?_) (fun a7 c7 => ?_)
  · have hix := oA_none c7
    refine lv_lconst (v := 0) hx hb dX5_worth_25 (by decide) ?_
    refine zm_lret hx hb hr hlk hM hS ?_ ⟨Nat.le_refl _, Nat.le_refl _⟩ dX5_worth_26
    refine ⟨?_, rfl⟩
    unfold sp_worth
    first | (rw [hix, hiv]; show some (Value.long 0) = some (Value.long (if gA (s_kd S j) v = true then wOf S j v else 0)); rw [if_neg (by rw [show gA (s_kd S j) v = false from c22]; decide)]; done) | (rw [hix, isS_f c14]; done) | (rw [hix]; done)
  · obtain ⟨j, hix, rfl⟩ := oA_some c7
    have hj := ix_ho hI j hix
    rw [hix] at hl
    refine lv_iload_n hx hb dX5_worth_10 rfl (lv_at hl 3 rfl) ?_
    refine zm_callS (As := [.int x]) (rest := []) hx hb hml hts hown hE hA hM hS (c_X5_isView l G A _ x) cd_X5_isView ml_X5_61 rfl rfl hl.1 (Nat.le_of_ble_eq_true rfl) ⟨Nat.le_of_ble_eq_true rfl, Nat.le_of_ble_eq_true rfl⟩ ⟨Nat.le_of_ble_eq_true rfl, Nat.le_of_ble_eq_true rfl⟩ dX5_worth_11 ?_
    rintro r M1 H locs ⟨rfl, e1⟩ hM hS
    rw [e1] at hM
    clear e1 M1
    refine W.eq (g2 := F0 m 14 ls [.int (bI ((ix 17 x).isSome))]) rfl ?_
    refine lv_if_eq (tgt := 25) hx hb dX5_worth_14 (by decide) (fun c14 => ?_) (fun c14 => ?_)
    · rw [bI_0] at c14
      refine lv_lconst (v := 0) hx hb dX5_worth_25 (by decide) ?_
      refine zm_lret hx hb hr hlk hM hS ?_ ⟨Nat.le_refl _, Nat.le_refl _⟩ dX5_worth_26
      refine ⟨?_, rfl⟩
      unfold sp_worth
      first | (rw [hix, hiv]; show some (Value.long 0) = some (Value.long (if gA (s_kd S j) v = true then wOf S j v else 0)); rw [if_neg (by rw [show gA (s_kd S j) v = false from c22]; decide)]; done) | (rw [hix, isS_f c14]; done) | (rw [hix]; done)
    · rw [bI_n] at c14
      obtain ⟨v, hiv⟩ := isS_t c14
      obtain ⟨hv, rfl⟩ := ix_some (by decide) hiv
      refine zq_aload_n hx hb dX5_worth_17 rfl (lv_at hl 0 rfl) ?_
      refine lv_iload_n hx hb dX5_worth_18 rfl (lv_at hl 3 rfl) ?_
      refine zm_callS (As := [va_rf (oA B (some j)), .int (nI v)]) (rest := []) hx hb hml hts hown hE hA hM hS (c_X5_goesAs l G A B S _ (some j) v (hv) hI hR (fun t ht => by cases ht; exact hj)) cd_X5_goesAs ml_X5_91 rfl rfl hl.1 (Nat.le_of_ble_eq_true rfl) ⟨Nat.le_of_ble_eq_true rfl, Nat.le_of_ble_eq_true rfl⟩ ⟨Nat.le_of_ble_eq_true rfl, Nat.le_of_ble_eq_true rfl⟩ dX5_worth_19 ?_
      rintro r M1 H locs ⟨rfl, e1⟩ hM hS
      rw [e1] at hM
      clear e1 M1
      refine W.eq (g2 := F0 m 22 ls [.int (bI (goS S (some j) v))]) rfl ?_
      refine lv_if_ne (tgt := 27) hx hb dX5_worth_22 (by decide) (fun c22 => ?_) (fun c22 => ?_)
      · rw [bI_n] at c22
        have hga : gA (s_kd S j) v = true := c22
        have hv17 := hv
        have hl : lv_has ls 4 [(3, .ref (B.2.1 j)), (0, .ref B.1.1), (1, .int q), (2, .int (nI v))] := hl
        refine lv_aload_n hx hb dX5_worth_27 rfl (lv_at hl 0 rfl) ?_
        refine lv_iload_n hx hb dX5_worth_28 rfl (lv_at hl 3 rfl) ?_
        obtain ⟨g1, g2, g3, g4⟩ := gA_lv0 _ (hI.2.2.1 j hj).1 _ hv17 hga; rcases hR.at hI hj with ⟨hk, hc⟩ | ⟨hk, hc⟩ | ⟨hk, hc⟩
        · refine zm_callU (x := ⟨"PropStore$Prop", "worthBy", "(I)J"⟩) (As := [.int (nI v)]) (rest := []) hx hb hml hts hown hE hA hM hS hc rfl (c_X1_worthBy l G A B S _ j v hI hR hj hk) cd_X1_worthBy ⟨rfl, rfl, rfl⟩ mu_X5_95_1 rfl rfl hl.1 (Nat.le_of_ble_eq_true rfl) ⟨Nat.le_of_ble_eq_true rfl, Nat.le_of_ble_eq_true rfl⟩ ⟨Nat.le_of_ble_eq_true rfl, Nat.le_of_ble_eq_true rfl⟩ dX5_worth_29 ?_
          rintro r M1 H locs ⟨rfl, e1⟩ hM hS
          rw [e1] at hM
          clear e1 M1
          rw [← wOf_nu (g1 hk)]
          refine W.eq (g2 := F0 m 32 ls [.long (wOf S j v)]) rfl ?_
          refine zm_lret hx hb hr hlk hM hS ?_ ⟨Nat.le_refl _, Nat.le_refl _⟩ dX5_worth_32
          refine ⟨?_, rfl⟩
          unfold sp_worth
          rw [hix, hiv]
          show some (Value.long _) = some (Value.long (if gA (s_kd S j) v = true then wOf S j v else 0))
          rw [if_pos hga]
        · refine zm_callU (x := ⟨"PropStore$Prop", "worthBy", "(I)J"⟩) (As := [.int (nI v)]) (rest := []) hx hb hml hts hown hE hA hM hS hc rfl (c_X2_worthBy l G A B S _ j v hI hR hj hk (g2 hk)) cd_X2_worthBy ⟨rfl, rfl, rfl⟩ mu_X5_95_2 rfl rfl hl.1 (Nat.le_of_ble_eq_true rfl) ⟨Nat.le_of_ble_eq_true rfl, Nat.le_of_ble_eq_true rfl⟩ ⟨Nat.le_of_ble_eq_true rfl, Nat.le_of_ble_eq_true rfl⟩ dX5_worth_29 ?_
          rintro r M1 H locs ⟨rfl, e1⟩ hM hS
          rw [e1] at hM
          clear e1 M1
          rw [← wOf_pc (g2 hk)]
          refine W.eq (g2 := F0 m 32 ls [.long (wOf S j v)]) rfl ?_
          refine zm_lret hx hb hr hlk hM hS ?_ ⟨Nat.le_refl _, Nat.le_refl _⟩ dX5_worth_32
          refine ⟨?_, rfl⟩
          unfold sp_worth
          rw [hix, hiv]
          show some (Value.long _) = some (Value.long (if gA (s_kd S j) v = true then wOf S j v else 0))
          rw [if_pos hga]
        · simp only [isRw, Bool.and_eq_true, decide_eq_true_eq] at hk
          by_cases h12 : s_kd S j ≤ 12
          · refine zm_callU (x := ⟨"PropStore$Prop", "worthBy", "(I)J"⟩) (As := [.int (nI v)]) (rest := []) hx hb hml hts hown hE hA hM hS hc rfl (c_X4_worthBy1 l G A B S _ j v hI hR hj hk.1 h12 (g3 hk.1 h12).1 (g3 hk.1 h12).2) cd_X4_worthBy ⟨rfl, rfl, rfl⟩ mu_X5_95_3 rfl rfl hl.1 (Nat.le_of_ble_eq_true rfl) ⟨Nat.le_of_ble_eq_true rfl, Nat.le_of_ble_eq_true rfl⟩ ⟨Nat.le_of_ble_eq_true rfl, Nat.le_of_ble_eq_true rfl⟩ dX5_worth_29 ?_
            rintro r M1 H locs ⟨rfl, e1⟩ hM hS
            rw [e1] at hM
            clear e1 M1
            rw [show zsum (fun i => wAt (fun t => wOne S t (inn v)) (s_th S j i)) (s_sz S j) = wOf S j v from (wOf_r1 (g3 hk.1 h12).1 (g3 hk.1 h12).2).symm]
            refine W.eq (g2 := F0 m 32 ls [.long (wOf S j v)]) rfl ?_
            refine zm_lret hx hb hr hlk hM hS ?_ ⟨Nat.le_refl _, Nat.le_refl _⟩ dX5_worth_32
            refine ⟨?_, rfl⟩
            unfold sp_worth
            rw [hix, hiv]
            show some (Value.long _) = some (Value.long (if gA (s_kd S j) v = true then wOf S j v else 0))
            rw [if_pos hga]
          · refine zm_callU (x := ⟨"PropStore$Prop", "worthBy", "(I)J"⟩) (As := [.int (nI v)]) (rest := []) hx hb hml hts hown hE hA hM hS hc rfl (c_X4_worthBy2 l G A B S _ j v hI hR hj (by omega) (by omega) (g4 (by omega)).1 (g4 (by omega)).2) cd_X4_worthBy ⟨rfl, rfl, rfl⟩ mu_X5_95_3 rfl rfl hl.1 (Nat.le_of_ble_eq_true rfl) ⟨Nat.le_of_ble_eq_true rfl, Nat.le_of_ble_eq_true rfl⟩ ⟨Nat.le_of_ble_eq_true rfl, Nat.le_of_ble_eq_true rfl⟩ dX5_worth_29 ?_
            rintro r M1 H locs ⟨rfl, e1⟩ hM hS
            rw [e1] at hM
            clear e1 M1
            rw [← wOf_r2 (g4 (by omega)).1 (g4 (by omega)).2]
            refine W.eq (g2 := F0 m 32 ls [.long (wOf S j v)]) rfl ?_
            refine zm_lret hx hb hr hlk hM hS ?_ ⟨Nat.le_refl _, Nat.le_refl _⟩ dX5_worth_32
            refine ⟨?_, rfl⟩
            unfold sp_worth
            rw [hix, hiv]
            show some (Value.long _) = some (Value.long (if gA (s_kd S j) v = true then wOf S j v else 0))
            rw [if_pos hga]
      · rw [bI_0] at c22
        refine lv_lconst (v := 0) hx hb dX5_worth_25 (by decide) ?_
        refine zm_lret hx hb hr hlk hM hS ?_ ⟨Nat.le_refl _, Nat.le_refl _⟩ dX5_worth_26
        refine ⟨?_, rfl⟩
        unfold sp_worth
        first | (rw [hix, hiv]; show some (Value.long 0) = some (Value.long (if gA (s_kd S j) v = true then wOf S j v else 0)); rw [if_neg (by rw [show gA (s_kd S j) v = false from c22]; decide)]; done) | (rw [hix, isS_f c14]; done) | (rw [hix]; done)
set_option maxRecDepth 100000 in
set_option maxHeartbeats 4000000 in
theorem c_X5_showProp (l : Launch) (G : zm_G) (A : Nat → Prop) (B : zB) (S : zS) (M : zm_M) (o : Option Nat) (v : Nat) (hv17 : v < 17) (ho : ∀ j, o = some j → j < s_np S) (hgo : goS S o v = true) (hI : zInv S) (hR : RepC G B S M) : Met l yX5_showProp (zm_W yX5_showProp cX5_showProp 3 (some .int)) (zm_rm 4 0 0) (zm_Pc G [.ref B.1.1, va_rf (oA B o), .int (nI v)] A M) (zm_Q G (fun r M' => (o = none ∧ r = some (.int (-4)) ∧ RepC G B S M') ∨ ∃ j, o = some j ∧ r = some (.int 0) ∧ RepC G B (w_po S (s_po S + wOf S j v)) M') A) 0 0 A := by
  refine zm_start (by decide) (by generalize (oA B o) = z; cases z <;> exact Nat.le_of_ble_eq_true rfl) ?_
  intro p e s m below meth c hx hb hml hr hts hown hlk hnm hE hA ls hl hM hS
  have hl : lv_has ls 3 [(0, .ref B.1.1), (1, va_rf (oA B o)), (2, .int (nI v))] := by revert hl; generalize (oA B o) = z; cases z <;> exact id
  refine zq_aload_n hx hb dX5_showProp_0 rfl (lv_at hl 1 rfl) ?_
  refine zq_ifnonnull (tgt := 7) hx hb dX5_showProp_1 (by decide) (fun a1 c1 => ?_) (fun c1 => ?_)
  · obtain ⟨j, rfl, rfl⟩ := oA_some c1
    have hj := ho j rfl
    have hga : gA (s_kd S j) v = true := hgo
    have hl : lv_has ls 3 [(0, .ref B.1.1), (1, .ref (B.2.1 j)), (2, .int (nI v))] := hl
    refine lv_aload_n hx hb dX5_showProp_7 rfl (lv_at hl 0 rfl) ?_
    refine lv_dup hx hb dX5_showProp_8 rfl ?_
    refine zm_get hx hb hts hown hE hM hR.1 fl_X5_87_4 rfl dX5_showProp_9 ?_
    refine lv_aload_n hx hb dX5_showProp_12 rfl (lv_at hl 1 rfl) ?_
    refine lv_iload_n hx hb dX5_showProp_13 rfl (lv_at hl 2 rfl) ?_
    obtain ⟨g1, g2, g3, g4⟩ := gA_lv0 _ (hI.2.2.1 j hj).1 _ hv17 hga; rcases hR.at hI hj with ⟨hk, hc⟩ | ⟨hk, hc⟩ | ⟨hk, hc⟩
    · refine zm_callU (x := ⟨"PropStore$Prop", "worthBy", "(I)J"⟩) (As := [.int (nI v)]) (rest := [.long (s_po S), .ref B.1.1]) hx hb hml hts hown hE hA hM hS hc rfl (c_X1_worthBy l G A B S _ j v hI hR hj hk) cd_X1_worthBy ⟨rfl, rfl, rfl⟩ mu_X5_95_1 rfl rfl hl.1 (Nat.le_of_ble_eq_true rfl) ⟨Nat.le_of_ble_eq_true rfl, Nat.le_of_ble_eq_true rfl⟩ ⟨Nat.le_of_ble_eq_true rfl, Nat.le_of_ble_eq_true rfl⟩ dX5_showProp_14 ?_
      rintro r M1 H locs ⟨rfl, e1⟩ hM hS
      rw [e1] at hM
      clear e1 M1
      rw [← wOf_nu (g1 hk)]
      refine W.eq (g2 := F0 m 17 ls [.long (wOf S j v), .long (s_po S), .ref B.1.1]) rfl ?_
      refine lv_ladd hx hb dX5_showProp_17 ?_
      refine zm_put hx hb hts hown hE hM hS hR.1 fp_X5_87_4 rfl rfl (Nat.le_of_ble_eq_true rfl) dX5_showProp_18 (fun H locs hM hS => ?_)
      have hR2 := hR.fld (S' := w_po S (s_po S + wOf S j v)) rfl rfl rfl rfl (Nat.le_refl _) rfl
      refine lv_iconst (v := 0) hx hb dX5_showProp_21 (by decide) ?_
      refine zm_iret hx hb hr hlk hM hS ?_ ⟨Nat.le_refl _, Nat.le_refl _⟩ dX5_showProp_22
      exact Or.inr ⟨j, rfl, rfl, hR2⟩
    · refine zm_callU (x := ⟨"PropStore$Prop", "worthBy", "(I)J"⟩) (As := [.int (nI v)]) (rest := [.long (s_po S), .ref B.1.1]) hx hb hml hts hown hE hA hM hS hc rfl (c_X2_worthBy l G A B S _ j v hI hR hj hk (g2 hk)) cd_X2_worthBy ⟨rfl, rfl, rfl⟩ mu_X5_95_2 rfl rfl hl.1 (Nat.le_of_ble_eq_true rfl) ⟨Nat.le_of_ble_eq_true rfl, Nat.le_of_ble_eq_true rfl⟩ ⟨Nat.le_of_ble_eq_true rfl, Nat.le_of_ble_eq_true rfl⟩ dX5_showProp_14 ?_
      rintro r M1 H locs ⟨rfl, e1⟩ hM hS
      rw [e1] at hM
      clear e1 M1
      rw [← wOf_pc (g2 hk)]
      refine W.eq (g2 := F0 m 17 ls [.long (wOf S j v), .long (s_po S), .ref B.1.1]) rfl ?_
      refine lv_ladd hx hb dX5_showProp_17 ?_
      refine zm_put hx hb hts hown hE hM hS hR.1 fp_X5_87_4 rfl rfl (Nat.le_of_ble_eq_true rfl) dX5_showProp_18 (fun H locs hM hS => ?_)
      have hR2 := hR.fld (S' := w_po S (s_po S + wOf S j v)) rfl rfl rfl rfl (Nat.le_refl _) rfl
      refine lv_iconst (v := 0) hx hb dX5_showProp_21 (by decide) ?_
      refine zm_iret hx hb hr hlk hM hS ?_ ⟨Nat.le_refl _, Nat.le_refl _⟩ dX5_showProp_22
      exact Or.inr ⟨j, rfl, rfl, hR2⟩
    · simp only [isRw, Bool.and_eq_true, decide_eq_true_eq] at hk
      by_cases h12 : s_kd S j ≤ 12
      · refine zm_callU (x := ⟨"PropStore$Prop", "worthBy", "(I)J"⟩) (As := [.int (nI v)]) (rest := [.long (s_po S), .ref B.1.1]) hx hb hml hts hown hE hA hM hS hc rfl (c_X4_worthBy1 l G A B S _ j v hI hR hj hk.1 h12 (g3 hk.1 h12).1 (g3 hk.1 h12).2) cd_X4_worthBy ⟨rfl, rfl, rfl⟩ mu_X5_95_3 rfl rfl hl.1 (Nat.le_of_ble_eq_true rfl) ⟨Nat.le_of_ble_eq_true rfl, Nat.le_of_ble_eq_true rfl⟩ ⟨Nat.le_of_ble_eq_true rfl, Nat.le_of_ble_eq_true rfl⟩ dX5_showProp_14 ?_
        rintro r M1 H locs ⟨rfl, e1⟩ hM hS
        rw [e1] at hM
        clear e1 M1
        rw [show zsum (fun i => wAt (fun t => wOne S t (inn v)) (s_th S j i)) (s_sz S j) = wOf S j v from (wOf_r1 (g3 hk.1 h12).1 (g3 hk.1 h12).2).symm]
        refine W.eq (g2 := F0 m 17 ls [.long (wOf S j v), .long (s_po S), .ref B.1.1]) rfl ?_
        refine lv_ladd hx hb dX5_showProp_17 ?_
        refine zm_put hx hb hts hown hE hM hS hR.1 fp_X5_87_4 rfl rfl (Nat.le_of_ble_eq_true rfl) dX5_showProp_18 (fun H locs hM hS => ?_)
        have hR2 := hR.fld (S' := w_po S (s_po S + wOf S j v)) rfl rfl rfl rfl (Nat.le_refl _) rfl
        refine lv_iconst (v := 0) hx hb dX5_showProp_21 (by decide) ?_
        refine zm_iret hx hb hr hlk hM hS ?_ ⟨Nat.le_refl _, Nat.le_refl _⟩ dX5_showProp_22
        exact Or.inr ⟨j, rfl, rfl, hR2⟩
      · refine zm_callU (x := ⟨"PropStore$Prop", "worthBy", "(I)J"⟩) (As := [.int (nI v)]) (rest := [.long (s_po S), .ref B.1.1]) hx hb hml hts hown hE hA hM hS hc rfl (c_X4_worthBy2 l G A B S _ j v hI hR hj (by omega) (by omega) (g4 (by omega)).1 (g4 (by omega)).2) cd_X4_worthBy ⟨rfl, rfl, rfl⟩ mu_X5_95_3 rfl rfl hl.1 (Nat.le_of_ble_eq_true rfl) ⟨Nat.le_of_ble_eq_true rfl, Nat.le_of_ble_eq_true rfl⟩ ⟨Nat.le_of_ble_eq_true rfl, Nat.le_of_ble_eq_true rfl⟩ dX5_showProp_14 ?_
        rintro r M1 H locs ⟨rfl, e1⟩ hM hS
        rw [e1] at hM
        clear e1 M1
        rw [← wOf_r2 (g4 (by omega)).1 (g4 (by omega)).2]
        refine W.eq (g2 := F0 m 17 ls [.long (wOf S j v), .long (s_po S), .ref B.1.1]) rfl ?_
        refine lv_ladd hx hb dX5_showProp_17 ?_
        refine zm_put hx hb hts hown hE hM hS hR.1 fp_X5_87_4 rfl rfl (Nat.le_of_ble_eq_true rfl) dX5_showProp_18 (fun H locs hM hS => ?_)
        have hR2 := hR.fld (S' := w_po S (s_po S + wOf S j v)) rfl rfl rfl rfl (Nat.le_refl _) rfl
        refine lv_iconst (v := 0) hx hb dX5_showProp_21 (by decide) ?_
        refine zm_iret hx hb hr hlk hM hS ?_ ⟨Nat.le_refl _, Nat.le_refl _⟩ dX5_showProp_22
        exact Or.inr ⟨j, rfl, rfl, hR2⟩
  · obtain rfl := oA_none c1
    refine lv_bipush (v := (-4)) hx hb dX5_showProp_4 (by decide) ?_
    refine zm_iret hx hb hr hlk hM hS ?_ ⟨Nat.le_refl _, Nat.le_refl _⟩ dX5_showProp_6
    exact Or.inl ⟨rfl, rfl, hR⟩
set_option maxRecDepth 100000 in
set_option maxHeartbeats 4000000 in
theorem c_X5_wearProp (l : Launch) (G : zm_G) (A : Nat → Prop) (B : zB) (S : zS) (M : zm_M) (o : Option Nat) (v : Nat) (hv17 : v < 17) (ho : ∀ j, o = some j → j < s_np S) (hgo : goS S o v = true) (hhas : hasV 1 v = true) (hI : zInv S) (hR : RepC G B S M) : Met l yX5_wearProp (zm_W yX5_wearProp cX5_wearProp 2 (some .int)) (zm_rm 4 0 0) (zm_Pc G [va_rf (oA B o), .int (nI v)] A M) (zm_Q G (fun r M' => (o = none ∧ r = some (.int (-4)) ∧ RepC G B S M') ∨ ∃ j, o = some j ∧ r = some (.int 0) ∧ RepC G B (w_wr S (wAll S j)) M') A) 0 0 A := by
  refine zm_start (by decide) (by generalize (oA B o) = z; cases z <;> exact Nat.le_of_ble_eq_true rfl) ?_
  intro p e s m below meth c hx hb hml hr hts hown hlk hnm hE hA ls hl hM hS
  have hl : lv_has ls 2 [(0, va_rf (oA B o)), (1, .int (nI v))] := by revert hl; generalize (oA B o) = z; cases z <;> exact id
  refine zq_aload_n hx hb dX5_wearProp_0 rfl (lv_at hl 0 rfl) ?_
  refine zq_ifnonnull (tgt := 7) hx hb dX5_wearProp_1 (by decide) (fun a1 c1 => ?_) (fun c1 => ?_)
  · obtain ⟨j, rfl, rfl⟩ := oA_some c1
    have hj := ho j rfl
    have hga : gA (s_kd S j) v = true := hgo
    have hl : lv_has ls 2 [(0, .ref (B.2.1 j)), (1, .int (nI v))] := hl
    refine lv_aload_n hx hb dX5_wearProp_7 rfl (lv_at hl 0 rfl) ?_
    refine lv_iload_n hx hb dX5_wearProp_8 rfl (lv_at hl 1 rfl) ?_
    obtain ⟨g1, g2, g3, g4⟩ := gA_lv0 _ (hI.2.2.1 j hj).1 _ hv17 hga; rcases hR.at hI hj with ⟨hk, hc⟩ | ⟨hk, hc⟩ | ⟨hk, hc⟩
    · exact absurd (g1 hk) (has1 v hv17 hhas)
    · refine zm_callU (x := ⟨"PropStore$Prop", "putOn", "(I)V"⟩) (As := [.int (nI v)]) (rest := []) hx hb hml hts hown hE hA hM hS hc rfl (c_X2_putOn l G A B S _ j v hI hR hj hk) cd_X2_putOn ⟨rfl, rfl, rfl⟩ mu_X5_141_2 rfl rfl hl.1 (Nat.le_of_ble_eq_true rfl) ⟨Nat.le_of_ble_eq_true rfl, Nat.le_of_ble_eq_true rfl⟩ ⟨Nat.le_of_ble_eq_true rfl, Nat.le_of_ble_eq_true rfl⟩ dX5_wearProp_9 ?_
      rintro r M1 H locs ⟨rfl, hR1⟩ hM hS
      rw [← wAll_pc hk] at hR1
      refine W.eq (g2 := F0 m 12 ls []) rfl ?_
      refine lv_iconst (v := 0) hx hb dX5_wearProp_12 (by decide) ?_
      refine zm_iret hx hb hr hlk hM hS ?_ ⟨Nat.le_refl _, Nat.le_refl _⟩ dX5_wearProp_13
      exact Or.inr ⟨j, rfl, rfl, hR1⟩
    · simp only [isRw, Bool.and_eq_true, decide_eq_true_eq] at hk
      by_cases h12 : s_kd S j ≤ 12
      · refine zm_callU (x := ⟨"PropStore$Prop", "putOn", "(I)V"⟩) (As := [.int (nI v)]) (rest := []) hx hb hml hts hown hE hA hM hS hc rfl (c_X4_putOn1 l G A B S _ j v hI hR hj hk.1 h12 (g3 hk.1 h12).1 (g3 hk.1 h12).2) cd_X4_putOn ⟨rfl, rfl, rfl⟩ mu_X5_141_3 rfl rfl hl.1 (Nat.le_of_ble_eq_true rfl) ⟨Nat.le_of_ble_eq_true rfl, Nat.le_of_ble_eq_true rfl⟩ ⟨Nat.le_of_ble_eq_true rfl, Nat.le_of_ble_eq_true rfl⟩ dX5_wearProp_9 ?_
        rintro r M1 H locs ⟨rfl, hR1⟩ hM hS
        rw [← wAll_r1 hk.1 h12] at hR1
        refine W.eq (g2 := F0 m 12 ls []) rfl ?_
        refine lv_iconst (v := 0) hx hb dX5_wearProp_12 (by decide) ?_
        refine zm_iret hx hb hr hlk hM hS ?_ ⟨Nat.le_refl _, Nat.le_refl _⟩ dX5_wearProp_13
        exact Or.inr ⟨j, rfl, rfl, hR1⟩
      · refine zm_callU (x := ⟨"PropStore$Prop", "putOn", "(I)V"⟩) (As := [.int (nI v)]) (rest := []) hx hb hml hts hown hE hA hM hS hc rfl (c_X4_putOn2 l G A B S _ j v hI hR hj (by omega) (by omega) (g4 (by omega)).1 (g4 (by omega)).2) cd_X4_putOn ⟨rfl, rfl, rfl⟩ mu_X5_141_3 rfl rfl hl.1 (Nat.le_of_ble_eq_true rfl) ⟨Nat.le_of_ble_eq_true rfl, Nat.le_of_ble_eq_true rfl⟩ ⟨Nat.le_of_ble_eq_true rfl, Nat.le_of_ble_eq_true rfl⟩ dX5_wearProp_9 ?_
        rintro r M1 H locs ⟨rfl, hR1⟩ hM hS
        rw [← wAll_r2 (by omega)] at hR1
        refine W.eq (g2 := F0 m 12 ls []) rfl ?_
        refine lv_iconst (v := 0) hx hb dX5_wearProp_12 (by decide) ?_
        refine zm_iret hx hb hr hlk hM hS ?_ ⟨Nat.le_refl _, Nat.le_refl _⟩ dX5_wearProp_13
        exact Or.inr ⟨j, rfl, rfl, hR1⟩
  · obtain rfl := oA_none c1
    refine lv_bipush (v := (-4)) hx hb dX5_wearProp_4 (by decide) ?_
    refine zm_iret hx hb hr hlk hM hS ?_ ⟨Nat.le_refl _, Nat.le_refl _⟩ dX5_wearProp_6
    exact Or.inl ⟨rfl, rfl, hR⟩
end
section
theorem ix_dec {n i : Nat} (hn : n < 1000) (hi : i < 1000) : (ix n (nI i)).isSome = decide (i < n) := by
  by_cases h : i < n
  · rw [ix_nI (by omega) h]; simp [h]
  · rw [ix_ge (nI_le (by omega) (by omega))]; simp [h]
set_option maxRecDepth 100000 in
set_option maxHeartbeats 4000000 in
theorem c_X5_takePart (l : Launch) (G : zm_G) (A : Nat → Prop) (B : zB) (S : zS) (M : zm_M) (o : Option Nat) (ho : ∀ j, o = some j → j < s_np S) (hrow : ∀ j, o = some j → isRw (s_kd S j) = true) (ii : Nat) (hii : ii < 10) (hI : zInv S) (hR : RepC G B S M) : Met l yX5_takePart (zm_W yX5_takePart cX5_takePart 4 (some .int)) (zm_rm 1 0 0) (zm_Pc G [.ref B.1.1, va_rf (oA B o), .int (nI ii)] A M) (zm_Q G (fun r M' => (o = none ∧ r = some (.int (-4)) ∧ RepC G B S M') ∨ ∃ j, o = some j ∧ ((ii < s_sz S j ∧ r = some (.int 0) ∧ RepC G B (w_th (w_hd S (s_th S j ii)) (up2 (s_th S) j ii none)) M') ∨ (¬ ii < s_sz S j ∧ r = some (.int (-6)) ∧ RepC G B S M'))) A) 0 0 A := by
  refine zm_start (by decide) (by generalize (oA B o) = z; cases z <;> exact Nat.le_of_ble_eq_true rfl) ?_
  intro p e s m below meth c hx hb hml hr hts hown hlk hnm hE hA ls hl hM hS
  have hl : lv_has ls 4 [(0, .ref B.1.1), (1, va_rf (oA B o)), (2, .int (nI ii))] := by revert hl; generalize (oA B o) = z; cases z <;> exact id
  refine zq_aload_n hx hb dX5_takePart_0 rfl (lv_at hl 1 rfl) ?_
  rcases o with _ | j
  · refine zt_eq (v' := .null) rfl ?_
    refine lv_instN hx hb dX5_takePart_1 ?_
    have hl : lv_has ls 4 [(0, .ref B.1.1), (1, .null), (2, .int (nI ii))] := hl
    refine lv_if_eq (tgt := 15) hx hb dX5_takePart_4 (by decide) (fun c4 => ?_) (fun c4 => ?_)
    · refine lv_bipush (v := (-4)) hx hb dX5_takePart_15 (by decide) ?_
      refine zm_iret hx hb hr hlk hM hS ?_ ⟨Nat.le_refl _, Nat.le_refl _⟩ dX5_takePart_17
      exact Or.inl ⟨rfl, rfl, hR⟩
    · exact absurd rfl c4
  · have hj := ho j rfl
    have hk := hrow j rfl
    have hc := hR.2.2.2.2.2.1 j hj
    rw [pcell_rw hk] at hc
    have hl : lv_has ls 4 [(0, .ref B.1.1), (1, .ref (B.2.1 j)), (2, .int (nI ii))] := hl
    obtain ⟨f6, h6, e6⟩ := hR.2.2.2.2.2.2.1 j hj hk
    have h5 := hI.sz5 hj (rw_pc hk)
    have h8 : 8 ≤ s_kd S j ∧ s_kd S j ≤ 15 := by simpa [isRw] using hk
    refine zt_eq (v' := .ref (B.2.1 j)) rfl ?_
    refine zm_instY hx hb hts hown hE hM hc rfl (by decide) clk_X5_107 dX5_takePart_1 ?_
    refine lv_if_eq (tgt := 15) hx hb dX5_takePart_4 (by decide) (fun c4 => ?_) (fun c4 => ?_)
    · exact absurd c4 (by decide)
    · refine lv_aload_n hx hb dX5_takePart_7 rfl (lv_at hl 1 rfl) ?_
      refine zm_cast hx hb hts hown hE hM hc rfl (by decide) clk_X5_107 dX5_takePart_8 ?_
      refine lv_astore_n (lv' := [(3, .ref (B.2.1 j)), (0, .ref B.1.1), (1, .ref (B.2.1 j)), (2, .int (nI ii))]) hx hb dX5_takePart_11 rfl hl (by decide) rfl (fun ls hl => ?_)
      refine lv_goto (tgt := 18) hx hb dX5_takePart_12 (by decide) ?_
      refine lv_aload_n hx hb dX5_takePart_18 rfl (lv_at hl 0 rfl) ?_
      refine lv_iload_n hx hb dX5_takePart_19 rfl (lv_at hl 3 rfl) ?_
      refine zm_callV (As := [.int (nI ii)]) (rest := []) hx hb hml hts hown hE hA hM hS hc rfl (c_X4_hasPlace l G A _ _ _ (s_sz S j) (nI j) (nI (s_kd S j)) (nI ii) f6 (by omega) hc h6) cd_X4_hasPlace ml_X5_109 rfl rfl hl.1 (Nat.le_of_ble_eq_true rfl) ⟨Nat.le_of_ble_eq_true rfl, Nat.le_of_ble_eq_true rfl⟩ ⟨Nat.le_of_ble_eq_true rfl, Nat.le_of_ble_eq_true rfl⟩ dX5_takePart_20 ?_
      rintro r M1 H locs ⟨rfl, e1⟩ hM hS
      rw [e1] at hM
      clear e1 M1
      refine W.eq (g2 := F0 m 23 ls [.int (bI (ix (s_sz S j) (nI ii)).isSome)]) rfl ?_
      refine lv_if_ne (tgt := 29) hx hb dX5_takePart_23 (by decide) (fun c23 => ?_) (fun c23 => ?_)
      · rw [bI_n, ix_dec (by omega) (by omega)] at c23
        have hi := of_decide_eq_true c23
        refine lv_aload_n hx hb dX5_takePart_29 rfl (lv_at hl 1 rfl) ?_
        refine lv_aload_n hx hb dX5_takePart_30 rfl (lv_at hl 0 rfl) ?_
        refine zm_get hx hb hts hown hE hM hc fl_X5_112_3 rfl dX5_takePart_31 ?_
        refine lv_iload_n hx hb dX5_takePart_34 rfl (lv_at hl 3 rfl) ?_
        refine zm_aldR hx hb hE hM h6 (vp_in_nI hi (by omega)) dX5_takePart_35 ?_
        refine zt_eq (v' := va_rf (oA B (s_th S j ii))) (by rw [nI_clamp (by omega), e6 ii hi]) ?_
        refine zm_put hx hb hts hown hE hM hS hR.1 fp_X5_57_4 (zq_nar _) (zq_fit _) (Nat.le_of_ble_eq_true rfl) dX5_takePart_36 (fun H locs hM hS => ?_)
        have hR1 := hR.fld (S' := w_hd S (s_th S j ii)) rfl rfl rfl rfl (Nat.le_refl _) rfl
        have hI1 : zInv (w_hd S (s_th S j ii)) := hI.hd (fun t ht => (hI.2.2.2.1 j hj h8.1 ii t hi ht).1)
        have hc1 := hR1.2.2.2.2.2.1 j hj
        rw [pcell_rw (S := w_hd S (s_th S j ii)) hk] at hc1
        obtain ⟨f6, h6, e6⟩ := hR1.2.2.2.2.2.2.1 j hj hk
        refine lv_aload_n hx hb dX5_takePart_39 rfl (lv_at hl 0 rfl) ?_
        refine zm_get hx hb hts hown hE hM hc1 fl_X5_112_3 rfl dX5_takePart_40 ?_
        refine lv_iload_n hx hb dX5_takePart_43 rfl (lv_at hl 3 rfl) ?_
        refine lv_null hx hb dX5_takePart_44 ?_
        refine zm_astN hx hb hE hM hS h6 (vp_in_nI (show ii < s_sz S j from hi) (show s_sz S j < _ by omega)) dX5_takePart_45 (fun H locs hM hS => ?_)
        rw [nI_clamp (by omega)] at hM
        have hR2 := hR1.place hI1 (i := ii) (o := none) hj hk h6 e6
        refine lv_iconst (v := 0) hx hb dX5_takePart_46 (by decide) ?_
        refine zm_iret hx hb hr hlk hM hS ?_ ⟨Nat.le_refl _, Nat.le_refl _⟩ dX5_takePart_47
        exact Or.inr ⟨j, rfl, Or.inl ⟨hi, rfl, hR2⟩⟩
      · rw [bI_0, ix_dec (by omega) (by omega)] at c23
        have hi := of_decide_eq_false c23
        refine lv_bipush (v := (-6)) hx hb dX5_takePart_26 (by decide) ?_
        refine zm_iret hx hb hr hlk hM hS ?_ ⟨Nat.le_refl _, Nat.le_refl _⟩ dX5_takePart_28
        exact Or.inr ⟨j, rfl, Or.inr ⟨hi, rfl, hR⟩⟩
theorem inn17 : ∀ v, inn v < 17 := by intro v; unfold inn; split <;> decide
set_option maxRecDepth 100000 in
set_option maxHeartbeats 4000000 in
theorem c_X5_layPart (l : Launch) (G : zm_G) (A : Nat → Prop) (B : zB) (S : zS) (M : zm_M) (o : Option Nat) (ho : ∀ j, o = some j → j < s_np S) (hrow : ∀ j, o = some j → isRw (s_kd S j) = true) (v ii : Nat) (hv8 : 8 ≤ v) (hv15 : v ≤ 15) (hii : ii < 10) (hI : zInv S) (hR : RepC G B S M) : Met l yX5_layPart (zm_W yX5_layPart cX5_layPart 5 (some .int)) (zm_rm 2 0 0) (zm_Pc G [.ref B.1.1, va_rf (oA B o), .int (nI v), .int (nI ii)] A M) (zm_Q G (fun r M' => (goS S (s_hd S) (inn v) = false ∧ r = some (.int (-5)) ∧ RepC G B S M') ∨ (goS S (s_hd S) (inn v) = true ∧ ((o = none ∧ r = some (.int (-4)) ∧ RepC G B S M') ∨ ∃ j, o = some j ∧ ((¬ ii < s_sz S j ∧ r = some (.int (-6)) ∧ RepC G B S M') ∨ (ii < s_sz S j ∧ ((goS S (s_hd S) (inn (s_kd S j)) = false ∧ r = some (.int (-7)) ∧ RepC G B S M') ∨ (goS S (s_hd S) (inn (s_kd S j)) = true ∧ r = some (.int 0) ∧ RepC G B (w_th (w_hd S none) (up2 (s_th S) j ii (s_hd S))) M'))))))) A) 0 0 A := by
  refine zm_start (by decide) (by generalize (oA B o) = z; cases z <;> exact Nat.le_of_ble_eq_true rfl) ?_
  intro p e s m below meth c hx hb hml hr hts hown hlk hnm hE hA ls hl hM hS
  have hl : lv_has ls 5 [(0, .ref B.1.1), (1, va_rf (oA B o)), (2, .int (nI v)), (3, .int (nI ii))] := by revert hl; generalize (oA B o) = z; cases z <;> exact id
  refine lv_aload_n hx hb dX5_layPart_0 rfl (lv_at hl 0 rfl) ?_
  refine zm_get hx hb hts hown hE hM hR.1 fl_X5_57_4 rfl dX5_layPart_1 ?_
  refine lv_iload_n hx hb dX5_layPart_4 rfl (lv_at hl 2 rfl) ?_
  refine zm_callS (As := [.int (nI v)]) (rest := [va_rf (oA B (s_hd S))]) hx hb hml hts hown hE hA hM hS (c_X5_partView l G A _ v (by omega) (by omega)) cd_X5_partView ml_X5_145 rfl rfl hl.1 (by simp only [List.map_cons, List.map_nil, zq_cat]; exact Nat.le_of_ble_eq_true rfl) ⟨Nat.le_of_ble_eq_true rfl, Nat.le_of_ble_eq_true rfl⟩ ⟨Nat.le_of_ble_eq_true rfl, Nat.le_of_ble_eq_true rfl⟩ dX5_layPart_5 ?_
  rintro r M1 H locs ⟨rfl, e1⟩ hM hS
  rw [e1] at hM
  clear e1 M1
  refine W.eq (g2 := F0 m 8 ls [.int (nI (inn v)), va_rf (oA B (s_hd S))]) rfl ?_
  refine zm_callS (As := [va_rf (oA B (s_hd S)), .int (nI (inn v))]) (rest := []) hx hb hml hts hown hE hA hM hS (c_X5_goesAs l G A B S _ (s_hd S) (inn v) (inn17 _) hI hR (hI.2.2.2.2.2.1)) cd_X5_goesAs ml_X5_91 rfl rfl hl.1 (Nat.le_of_ble_eq_true rfl) ⟨Nat.le_of_ble_eq_true rfl, Nat.le_of_ble_eq_true rfl⟩ ⟨Nat.le_of_ble_eq_true rfl, Nat.le_of_ble_eq_true rfl⟩ dX5_layPart_8 ?_
  rintro r M1 H locs ⟨rfl, e1⟩ hM hS
  rw [e1] at hM
  clear e1 M1
  refine W.eq (g2 := F0 m 11 ls [.int (bI (goS S (s_hd S) (inn v)))]) rfl ?_
  refine lv_if_ne (tgt := 17) hx hb dX5_layPart_11 (by decide) (fun c11 => ?_) (fun c11 => ?_)
  · rw [bI_n] at c11
    refine zq_aload_n hx hb dX5_layPart_17 rfl (lv_at hl 1 rfl) ?_
    rcases o with _ | j
    · refine zt_eq (v' := .null) rfl ?_
      refine lv_instN hx hb dX5_layPart_18 ?_
      have hl : lv_has ls 5 [(0, .ref B.1.1), (1, .null), (2, .int (nI v)), (3, .int (nI ii))] := hl
      refine lv_if_eq (tgt := 33) hx hb dX5_layPart_21 (by decide) (fun c21 => ?_) (fun c21 => ?_)
      · refine lv_bipush (v := (-4)) hx hb dX5_layPart_33 (by decide) ?_
        refine zm_iret hx hb hr hlk hM hS ?_ ⟨Nat.le_refl _, Nat.le_refl _⟩ dX5_layPart_35
        exact Or.inr ⟨c11, Or.inl ⟨rfl, rfl, hR⟩⟩
      · exact absurd rfl c21
    · have hj := ho j rfl
      have hk := hrow j rfl
      have hc := hR.2.2.2.2.2.1 j hj
      rw [pcell_rw hk] at hc
      have hl : lv_has ls 5 [(0, .ref B.1.1), (1, .ref (B.2.1 j)), (2, .int (nI v)), (3, .int (nI ii))] := hl
      obtain ⟨f6, h6, e6⟩ := hR.2.2.2.2.2.2.1 j hj hk
      have h5 := hI.sz5 hj (rw_pc hk)
      have h8 : 8 ≤ s_kd S j ∧ s_kd S j ≤ 15 := by simpa [isRw] using hk
      refine zt_eq (v' := .ref (B.2.1 j)) rfl ?_
      refine zm_instY hx hb hts hown hE hM hc rfl (by decide) clk_X5_107 dX5_layPart_18 ?_
      refine lv_if_eq (tgt := 33) hx hb dX5_layPart_21 (by decide) (fun c21 => ?_) (fun c21 => ?_)
      · exact absurd c21 (by decide)
      · refine lv_aload_n hx hb dX5_layPart_24 rfl (lv_at hl 1 rfl) ?_
        refine zm_cast hx hb hts hown hE hM hc rfl (by decide) clk_X5_107 dX5_layPart_25 ?_
        refine lv_astore (lv' := [(4, .ref (B.2.1 j)), (0, .ref B.1.1), (1, .ref (B.2.1 j)), (2, .int (nI v)), (3, .int (nI ii))]) hx hb dX5_layPart_28 hl (by decide) rfl (fun ls hl => ?_)
        refine lv_goto (tgt := 36) hx hb dX5_layPart_30 (by decide) ?_
        refine lv_aload hx hb dX5_layPart_36 (lv_at hl 0 rfl) ?_
        refine lv_iload_n hx hb dX5_layPart_38 rfl (lv_at hl 4 rfl) ?_
        refine zm_callV (As := [.int (nI ii)]) (rest := []) hx hb hml hts hown hE hA hM hS hc rfl (c_X4_hasPlace l G A _ _ _ (s_sz S j) (nI j) (nI (s_kd S j)) (nI ii) f6 (by omega) hc h6) cd_X4_hasPlace ml_X5_109 rfl rfl hl.1 (Nat.le_of_ble_eq_true rfl) ⟨Nat.le_of_ble_eq_true rfl, Nat.le_of_ble_eq_true rfl⟩ ⟨Nat.le_of_ble_eq_true rfl, Nat.le_of_ble_eq_true rfl⟩ dX5_layPart_39 ?_
        rintro r M1 H locs ⟨rfl, e1⟩ hM hS
        rw [e1] at hM
        clear e1 M1
        refine W.eq (g2 := F0 m 42 ls [.int (bI (ix (s_sz S j) (nI ii)).isSome)]) rfl ?_
        refine lv_if_ne (tgt := 48) hx hb dX5_layPart_42 (by decide) (fun c42 => ?_) (fun c42 => ?_)
        · rw [bI_n, ix_dec (by omega) (by omega)] at c42
          have hi := of_decide_eq_true c42
          refine lv_aload_n hx hb dX5_layPart_48 rfl (lv_at hl 1 rfl) ?_
          refine zm_get hx hb hts hown hE hM hR.1 fl_X5_57_4 rfl dX5_layPart_49 ?_
          refine lv_aload hx hb dX5_layPart_52 (lv_at hl 0 rfl) ?_
          refine zm_get hx hb hts hown hE hM hc fl_X5_148_3 rfl dX5_layPart_54 ?_
          refine zm_callS (As := [.int (nI (s_kd S j))]) (rest := [va_rf (oA B (s_hd S))]) hx hb hml hts hown hE hA hM hS (c_X5_partView l G A _ (s_kd S j) (by omega) (by omega)) cd_X5_partView ml_X5_145 rfl rfl hl.1 (by simp only [List.map_cons, List.map_nil, zq_cat]; exact Nat.le_of_ble_eq_true rfl) ⟨Nat.le_of_ble_eq_true rfl, Nat.le_of_ble_eq_true rfl⟩ ⟨Nat.le_of_ble_eq_true rfl, Nat.le_of_ble_eq_true rfl⟩ dX5_layPart_57 ?_
          rintro r M1 H locs ⟨rfl, e1⟩ hM hS
          rw [e1] at hM
          clear e1 M1
          refine W.eq (g2 := F0 m 60 ls [.int (nI (inn (s_kd S j))), va_rf (oA B (s_hd S))]) rfl ?_
          refine zm_callS (As := [va_rf (oA B (s_hd S)), .int (nI (inn (s_kd S j)))]) (rest := []) hx hb hml hts hown hE hA hM hS (c_X5_goesAs l G A B S _ (s_hd S) (inn (s_kd S j)) (inn17 _) hI hR (hI.2.2.2.2.2.1)) cd_X5_goesAs ml_X5_91 rfl rfl hl.1 (Nat.le_of_ble_eq_true rfl) ⟨Nat.le_of_ble_eq_true rfl, Nat.le_of_ble_eq_true rfl⟩ ⟨Nat.le_of_ble_eq_true rfl, Nat.le_of_ble_eq_true rfl⟩ dX5_layPart_60 ?_
          rintro r M1 H locs ⟨rfl, e1⟩ hM hS
          rw [e1] at hM
          clear e1 M1
          refine W.eq (g2 := F0 m 63 ls [.int (bI (goS S (s_hd S) (inn (s_kd S j))))]) rfl ?_
          refine lv_if_ne (tgt := 69) hx hb dX5_layPart_63 (by decide) (fun c63 => ?_) (fun c63 => ?_)
          · rw [bI_n] at c63
            refine lv_aload hx hb dX5_layPart_69 (lv_at hl 0 rfl) ?_
            refine zm_get hx hb hts hown hE hM hc fl_X5_112_3 rfl dX5_layPart_71 ?_
            refine lv_iload_n hx hb dX5_layPart_74 rfl (lv_at hl 4 rfl) ?_
            refine lv_aload_n hx hb dX5_layPart_75 rfl (lv_at hl 1 rfl) ?_
            refine zm_get hx hb hts hown hE hM hR.1 fl_X5_57_4 rfl dX5_layPart_76 ?_
            refine zm_astO hx hb hE hM hS h6 (hR.cls hI.2.2.2.2.2.1) (vp_in_nI hi (by omega)) dX5_layPart_79 (fun H locs hM hS => ?_)
            rw [nI_clamp (by omega)] at hM
            have hR1 := hR.place hI (i := ii) (o := s_hd S) hj hk h6 e6
            refine lv_aload_n hx hb dX5_layPart_80 rfl (lv_at hl 1 rfl) ?_
            refine lv_null hx hb dX5_layPart_81 ?_
            refine zm_put hx hb hts hown hE hM hS hR1.1 fp_X5_57_4 rfl rfl (Nat.le_of_ble_eq_true rfl) dX5_layPart_82 (fun H locs hM hS => ?_)
            have hR2 := hR1.fld (S' := w_th (w_hd S none) (up2 (s_th S) j ii (s_hd S))) rfl rfl rfl rfl (Nat.le_refl _) rfl
            refine lv_iconst (v := 0) hx hb dX5_layPart_85 (by decide) ?_
            refine zm_iret hx hb hr hlk hM hS ?_ ⟨Nat.le_refl _, Nat.le_refl _⟩ dX5_layPart_86
            exact Or.inr ⟨c11, Or.inr ⟨j, rfl, Or.inr ⟨hi, Or.inr ⟨c63, rfl, hR2⟩⟩⟩⟩
          · rw [bI_0] at c63
            refine lv_bipush (v := (-7)) hx hb dX5_layPart_66 (by decide) ?_
            refine zm_iret hx hb hr hlk hM hS ?_ ⟨Nat.le_refl _, Nat.le_refl _⟩ dX5_layPart_68
            exact Or.inr ⟨c11, Or.inr ⟨j, rfl, Or.inr ⟨hi, Or.inl ⟨c63, rfl, hR⟩⟩⟩⟩
        · rw [bI_0, ix_dec (by omega) (by omega)] at c42
          have hi := of_decide_eq_false c42
          refine lv_bipush (v := (-6)) hx hb dX5_layPart_45 (by decide) ?_
          refine zm_iret hx hb hr hlk hM hS ?_ ⟨Nat.le_refl _, Nat.le_refl _⟩ dX5_layPart_47
          exact Or.inr ⟨c11, Or.inr ⟨j, rfl, Or.inl ⟨hi, rfl, hR⟩⟩⟩
  · rw [bI_0] at c11
    refine lv_bipush (v := (-5)) hx hb dX5_layPart_14 (by decide) ?_
    refine zm_iret hx hb hr hlk hM hS ?_ ⟨Nat.le_refl _, Nat.le_refl _⟩ dX5_layPart_16
    exact Or.inl ⟨c11, rfl, hR⟩
theorem stp_cast {S : zS} {c : Nat} (h : goS S (s_sl S (s_cu S c).2.1) (s_cu S c).2.2.1 = false) : stp S c = (-5, S) := by unfold stp; rw [if_pos h]
theorem rowgo {S : zS} (hI : zInv S) {j v : Nat} (hj : j < s_np S) (h1 : 8 ≤ v) (h2 : v ≤ 15) (h : gA (s_kd S j) v = true) : isRw (s_kd S j) = true := by
  have h16 := (hI.2.2.1 j hj).1
  exact rw_of (gA_row _ h16 _ h1 h2 h) (by omega)
set_option maxRecDepth 100000 in
set_option maxHeartbeats 4000000 in
theorem c_X5_perform (l : Launch) (G : zm_G) (A : Nat → Prop) (B : zB) (S : zS) (M : zm_M) (c0 : Nat) (hc0 : c0 < s_nc S) (hI : zInv S) (hR : RepC G B S M) : Met l yX5_perform (zm_W yX5_perform cX5_perform 3 (some .int)) (zm_rm 5 0 0) (zm_Pc G [.ref B.1.1, .ref (B.2.2.2 c0)] A M) (zm_Q G (fun r M' => r = some (.int (stp S c0).1) ∧ RepC G B (stp S c0).2 M') A) 0 0 A := by
  refine zm_start (by decide) (Nat.le_of_ble_eq_true rfl) ?_
  intro p e s m below meth c hx hb hml hr hts hown hlk hnm hE hA ls hl hM hS
  have hl : lv_has ls 3 [(0, .ref B.1.1), (1, .ref (B.2.2.2 c0))] := hl
  obtain ⟨k1, k2, k3, k4, k5⟩ := hI.2.2.2.2.2.2 c0 hc0
  have hcu := hR.2.2.2.2.1 c0 hc0
  obtain ⟨f2, h2, e2⟩ := hR.2.2.1
  have hso : ∀ j, s_sl S (s_cu S c0).2.1 = some j → j < s_np S := fun t ht => hI.2.2.2.2.1 _ t k2 ht
  refine lv_aload_n hx hb dX5_perform_0 rfl (lv_at hl 0 rfl) ?_
  refine zm_get hx hb hts hown hE hM hR.1 fl_X5_15_4 rfl dX5_perform_1 ?_
  refine lv_aload_n hx hb dX5_perform_4 rfl (lv_at hl 1 rfl) ?_
  refine zm_get hx hb hts hown hE hM hcu fl_X5_115_0 rfl dX5_perform_5 ?_
  refine zm_aldR hx hb hE hM h2 (vp_in_nI k2 (by decide)) dX5_perform_8 ?_
  refine zt_eq (v' := va_rf (oA B (s_sl S (s_cu S c0).2.1))) (by rw [nI_clamp (by omega), e2 _ k2]) ?_
  refine zq_astore_n (lv' := [(2, va_rf (oA B (s_sl S (s_cu S c0).2.1))), (0, .ref B.1.1), (1, .ref (B.2.2.2 c0))]) hx hb dX5_perform_9 rfl hl (by decide) rfl (fun ls hl => ?_)
  refine zq_aload_n hx hb dX5_perform_10 rfl (lv_at hl 0 rfl) ?_
  refine lv_aload_n hx hb dX5_perform_11 rfl (lv_at hl 2 rfl) ?_
  refine zm_get hx hb hts hown hE hM hcu fl_X5_118_0 rfl dX5_perform_12 ?_
  refine zm_callS (As := [va_rf (oA B (s_sl S (s_cu S c0).2.1)), .int (nI (s_cu S c0).2.2.1)]) (rest := []) hx hb hml hts hown hE hA hM hS (c_X5_goesAs l G A B S _ (s_sl S (s_cu S c0).2.1) ((s_cu S c0).2.2.1) (k3) hI hR (hso)) cd_X5_goesAs ml_X5_91 rfl rfl hl.1 (Nat.le_of_ble_eq_true rfl) ⟨Nat.le_of_ble_eq_true rfl, Nat.le_of_ble_eq_true rfl⟩ ⟨Nat.le_of_ble_eq_true rfl, Nat.le_of_ble_eq_true rfl⟩ dX5_perform_15 ?_
  rintro r M1 H locs ⟨rfl, e1⟩ hM hS
  rw [e1] at hM
  clear e1 M1
  refine W.eq (g2 := F0 m 18 ls [.int (bI (goS S (s_sl S (s_cu S c0).2.1) ((s_cu S c0).2.2.1)))]) rfl ?_
  refine lv_if_ne (tgt := 24) hx hb dX5_perform_18 (by decide) (fun c18 => ?_) (fun c18 => ?_)
  · rw [bI_n] at c18
    refine lv_aload_n hx hb dX5_perform_24 rfl (lv_at hl 2 rfl) ?_
    refine zm_get hx hb hts hown hE hM hcu fl_X5_121_0 rfl dX5_perform_25 ?_
    rcases (show (s_cu S c0).1 = 0 ∨ (s_cu S c0).1 = 1 ∨ (s_cu S c0).1 = 2 ∨ (s_cu S c0).1 = 3 ∨ (s_cu S c0).1 = 4 ∨ (s_cu S c0).1 = 5 by omega) with ha | ha | ha | ha | ha | ha
    · refine lv_tableIn (off := 36) (tgt := 64) hx hb dX5_perform_28 (by rw [ha]; decide) (by rw [ha]; decide) (by rw [ha]; rfl) (by decide) ?_
      refine lv_aload_n hx hb dX5_perform_64 rfl (lv_at hl 1 rfl) ?_
      refine zq_aload_n hx hb dX5_perform_65 rfl (lv_at hl 0 rfl) ?_
      refine lv_aload_n hx hb dX5_perform_66 rfl (lv_at hl 2 rfl) ?_
      refine zm_get hx hb hts hown hE hM hcu fl_X5_118_0 rfl dX5_perform_67 ?_
      refine zm_callV (As := [va_rf (oA B (s_sl S (s_cu S c0).2.1)), .int (nI (s_cu S c0).2.2.1)]) (rest := []) hx hb hml hts hown hE hA hM hS hR.1 rfl (c_X5_showProp l G A B S _ (s_sl S (s_cu S c0).2.1) (s_cu S c0).2.2.1 k3 hso c18 hI hR) cd_X5_showProp ml_X5_124 rfl rfl hl.1 (Nat.le_of_ble_eq_true rfl) ⟨Nat.le_of_ble_eq_true rfl, Nat.le_of_ble_eq_true rfl⟩ ⟨Nat.le_of_ble_eq_true rfl, Nat.le_of_ble_eq_true rfl⟩ dX5_perform_70 ?_
      rintro r M1 H locs (⟨ho, rfl, hR1⟩ | ⟨j, ho, rfl, hR1⟩) hM hS
      · refine W.eq (g2 := F0 m 73 ls [.int (-4)]) rfl ?_
        refine zm_iret hx hb hr hlk hM hS ?_ ⟨Nat.le_refl _, Nat.le_refl _⟩ dX5_perform_73
        have hs : stp S c0 = (-4, S) := by unfold stp; rw [if_neg (by rw [c18]; decide), ha]; simp only [ho]
        exact ⟨by rw [hs], by rw [hs]; exact hR1⟩
      · refine W.eq (g2 := F0 m 73 ls [.int 0]) rfl ?_
        refine zm_iret hx hb hr hlk hM hS ?_ ⟨Nat.le_refl _, Nat.le_refl _⟩ dX5_perform_73
        have hs : stp S c0 = (0, w_po S (s_po S + wOf S j (s_cu S c0).2.2.1)) := by unfold stp; rw [if_neg (by rw [c18]; decide), ha]; simp only [ho]
        exact ⟨by rw [hs], by rw [hs]; exact hR1⟩
    · refine lv_tableIn (off := 46) (tgt := 74) hx hb dX5_perform_28 (by rw [ha]; decide) (by rw [ha]; decide) (by rw [ha]; rfl) (by decide) ?_
      refine zq_aload_n hx hb dX5_perform_74 rfl (lv_at hl 0 rfl) ?_
      refine lv_aload_n hx hb dX5_perform_75 rfl (lv_at hl 2 rfl) ?_
      refine zm_get hx hb hts hown hE hM hcu fl_X5_118_0 rfl dX5_perform_76 ?_
      refine zm_callS (As := [va_rf (oA B (s_sl S (s_cu S c0).2.1)), .int (nI (s_cu S c0).2.2.1)]) (rest := []) hx hb hml hts hown hE hA hM hS (c_X5_wearProp l G A B S _ (s_sl S (s_cu S c0).2.1) (s_cu S c0).2.2.1 k3 hso c18 (by rw [ha] at k5; exact k5) hI hR) cd_X5_wearProp ml_X5_128 rfl rfl hl.1 (Nat.le_of_ble_eq_true rfl) ⟨Nat.le_of_ble_eq_true rfl, Nat.le_of_ble_eq_true rfl⟩ ⟨Nat.le_of_ble_eq_true rfl, Nat.le_of_ble_eq_true rfl⟩ dX5_perform_79 ?_
      rintro r M1 H locs (⟨ho, rfl, hR1⟩ | ⟨j, ho, rfl, hR1⟩) hM hS
      · refine W.eq (g2 := F0 m 82 ls [.int (-4)]) rfl ?_
        refine zm_iret hx hb hr hlk hM hS ?_ ⟨Nat.le_refl _, Nat.le_refl _⟩ dX5_perform_82
        have hs : stp S c0 = (-4, S) := by unfold stp; rw [if_neg (by rw [c18]; decide), ha]; simp only [ho]
        exact ⟨by rw [hs], by rw [hs]; exact hR1⟩
      · refine W.eq (g2 := F0 m 82 ls [.int 0]) rfl ?_
        refine zm_iret hx hb hr hlk hM hS ?_ ⟨Nat.le_refl _, Nat.le_refl _⟩ dX5_perform_82
        have hs : stp S c0 = (0, w_wr S (wAll S j)) := by unfold stp; rw [if_neg (by rw [c18]; decide), ha]; simp only [ho]
        exact ⟨by rw [hs], by rw [hs]; exact hR1⟩
    · refine lv_tableIn (off := 55) (tgt := 83) hx hb dX5_perform_28 (by rw [ha]; decide) (by rw [ha]; decide) (by rw [ha]; rfl) (by decide) ?_
      refine lv_aload_n hx hb dX5_perform_83 rfl (lv_at hl 1 rfl) ?_
      refine zq_aload_n hx hb dX5_perform_84 rfl (lv_at hl 0 rfl) ?_
      refine lv_aload_n hx hb dX5_perform_85 rfl (lv_at hl 2 rfl) ?_
      refine zm_get hx hb hts hown hE hM hcu fl_X5_131_0 rfl dX5_perform_86 ?_
      have k6 : 8 ≤ (s_cu S c0).2.2.1 ∧ (s_cu S c0).2.2.1 ≤ 15 := by rw [ha] at k5; simpa [hasV] using k5
      refine zm_callV (As := [va_rf (oA B (s_sl S (s_cu S c0).2.1)), .int (nI (s_cu S c0).2.2.2)]) (rest := []) hx hb hml hts hown hE hA hM hS hR.1 rfl (c_X5_takePart l G A B S _ (s_sl S (s_cu S c0).2.1) hso (fun j hj => rowgo hI (hso j hj) k6.1 k6.2 (by rw [hj] at c18; exact c18)) (s_cu S c0).2.2.2 k4 hI hR) cd_X5_takePart ml_X5_134 rfl rfl hl.1 (Nat.le_of_ble_eq_true rfl) ⟨Nat.le_of_ble_eq_true rfl, Nat.le_of_ble_eq_true rfl⟩ ⟨Nat.le_of_ble_eq_true rfl, Nat.le_of_ble_eq_true rfl⟩ dX5_perform_89 ?_
      rintro r M1 H locs (⟨ho, rfl, hR1⟩ | ⟨j, ho, ⟨hi, rfl, hR1⟩ | ⟨hi, rfl, hR1⟩⟩) hM hS
      · refine W.eq (g2 := F0 m 92 ls [.int (-4)]) rfl ?_
        refine zm_iret hx hb hr hlk hM hS ?_ ⟨Nat.le_refl _, Nat.le_refl _⟩ dX5_perform_92
        have hs : stp S c0 = (-4, S) := by unfold stp; rw [if_neg (by rw [c18]; decide), ha]; simp only [ho]
        exact ⟨by rw [hs], by rw [hs]; exact hR1⟩
      · refine W.eq (g2 := F0 m 92 ls [.int 0]) rfl ?_
        refine zm_iret hx hb hr hlk hM hS ?_ ⟨Nat.le_refl _, Nat.le_refl _⟩ dX5_perform_92
        have hs : stp S c0 = (0, w_th (w_hd S (s_th S j (s_cu S c0).2.2.2)) (up2 (s_th S) j (s_cu S c0).2.2.2 none)) := by unfold stp; rw [if_neg (by rw [c18]; decide), ha]; simp only [ho, if_pos hi]
        exact ⟨by rw [hs], by rw [hs]; exact hR1⟩
      · refine W.eq (g2 := F0 m 92 ls [.int (-6)]) rfl ?_
        refine zm_iret hx hb hr hlk hM hS ?_ ⟨Nat.le_refl _, Nat.le_refl _⟩ dX5_perform_92
        have hs : stp S c0 = (-6, S) := by unfold stp; rw [if_neg (by rw [c18]; decide), ha]; simp only [ho, if_neg hi]
        exact ⟨by rw [hs], by rw [hs]; exact hR1⟩
    · refine lv_tableIn (off := 65) (tgt := 93) hx hb dX5_perform_28 (by rw [ha]; decide) (by rw [ha]; decide) (by rw [ha]; rfl) (by decide) ?_
      refine lv_aload_n hx hb dX5_perform_93 rfl (lv_at hl 1 rfl) ?_
      refine zq_aload_n hx hb dX5_perform_94 rfl (lv_at hl 0 rfl) ?_
      refine lv_aload_n hx hb dX5_perform_95 rfl (lv_at hl 2 rfl) ?_
      refine zm_get hx hb hts hown hE hM hcu fl_X5_118_0 rfl dX5_perform_96 ?_
      refine lv_aload_n hx hb dX5_perform_99 rfl (lv_at hl 2 rfl) ?_
      refine zm_get hx hb hts hown hE hM hcu fl_X5_131_0 rfl dX5_perform_100 ?_
      have k6 : 8 ≤ (s_cu S c0).2.2.1 ∧ (s_cu S c0).2.2.1 ≤ 15 := by rw [ha] at k5; simpa [hasV] using k5
      refine zm_callV (As := [va_rf (oA B (s_sl S (s_cu S c0).2.1)), .int (nI (s_cu S c0).2.2.1), .int (nI (s_cu S c0).2.2.2)]) (rest := []) hx hb hml hts hown hE hA hM hS hR.1 rfl (c_X5_layPart l G A B S _ (s_sl S (s_cu S c0).2.1) hso (fun j hj => rowgo hI (hso j hj) k6.1 k6.2 (by rw [hj] at c18; exact c18)) (s_cu S c0).2.2.1 (s_cu S c0).2.2.2 k6.1 k6.2 k4 hI hR) cd_X5_layPart ml_X5_137 rfl rfl hl.1 (Nat.le_of_ble_eq_true rfl) ⟨Nat.le_of_ble_eq_true rfl, Nat.le_of_ble_eq_true rfl⟩ ⟨Nat.le_of_ble_eq_true rfl, Nat.le_of_ble_eq_true rfl⟩ dX5_perform_103 ?_
      rintro r M1 H locs (⟨hg, rfl, hR1⟩ | ⟨hg, ⟨ho, rfl, hR1⟩ | ⟨j, ho, ⟨hi, rfl, hR1⟩ | ⟨hi, ⟨hq, rfl, hR1⟩ | ⟨hq, rfl, hR1⟩⟩⟩⟩) hM hS
      · refine W.eq (g2 := F0 m 106 ls [.int (-5)]) rfl ?_
        refine zm_iret hx hb hr hlk hM hS ?_ ⟨Nat.le_refl _, Nat.le_refl _⟩ dX5_perform_106
        have hs : stp S c0 = (-5, S) := by unfold stp; rw [if_neg (by rw [c18]; decide), ha]; simp only [if_pos hg]
        exact ⟨by rw [hs], by rw [hs]; exact hR1⟩
      · refine W.eq (g2 := F0 m 106 ls [.int (-4)]) rfl ?_
        refine zm_iret hx hb hr hlk hM hS ?_ ⟨Nat.le_refl _, Nat.le_refl _⟩ dX5_perform_106
        have hs : stp S c0 = (-4, S) := by unfold stp; rw [if_neg (by rw [c18]; decide), ha]; simp only [if_neg (show ¬ goS S (s_hd S) (inn (s_cu S c0).2.2.1) = false by rw [hg]; decide), ho]
        exact ⟨by rw [hs], by rw [hs]; exact hR1⟩
      · refine W.eq (g2 := F0 m 106 ls [.int (-6)]) rfl ?_
        refine zm_iret hx hb hr hlk hM hS ?_ ⟨Nat.le_refl _, Nat.le_refl _⟩ dX5_perform_106
        have hs : stp S c0 = (-6, S) := by unfold stp; rw [if_neg (by rw [c18]; decide), ha]; simp only [if_neg (show ¬ goS S (s_hd S) (inn (s_cu S c0).2.2.1) = false by rw [hg]; decide), ho, if_neg hi]
        exact ⟨by rw [hs], by rw [hs]; exact hR1⟩
      · refine W.eq (g2 := F0 m 106 ls [.int (-7)]) rfl ?_
        refine zm_iret hx hb hr hlk hM hS ?_ ⟨Nat.le_refl _, Nat.le_refl _⟩ dX5_perform_106
        have hs : stp S c0 = (-7, S) := by unfold stp; rw [if_neg (by rw [c18]; decide), ha]; simp only [if_neg (show ¬ goS S (s_hd S) (inn (s_cu S c0).2.2.1) = false by rw [hg]; decide), ho, if_pos hi, if_pos hq]
        exact ⟨by rw [hs], by rw [hs]; exact hR1⟩
      · refine W.eq (g2 := F0 m 106 ls [.int 0]) rfl ?_
        refine zm_iret hx hb hr hlk hM hS ?_ ⟨Nat.le_refl _, Nat.le_refl _⟩ dX5_perform_106
        have hs : stp S c0 = (0, w_th (w_hd S none) (up2 (s_th S) j (s_cu S c0).2.2.2 (s_hd S))) := by unfold stp; rw [if_neg (by rw [c18]; decide), ha]; simp only [if_neg (show ¬ goS S (s_hd S) (inn (s_cu S c0).2.2.1) = false by rw [hg]; decide), ho, if_pos hi, if_neg (show ¬ goS S (s_hd S) (inn (s_kd S j)) = false by rw [hq]; decide)]
        exact ⟨by rw [hs], by rw [hs]; exact hR1⟩
    · refine lv_tableIn (off := 79) (tgt := 107) hx hb dX5_perform_28 (by rw [ha]; decide) (by rw [ha]; decide) (by rw [ha]; rfl) (by decide) ?_
      refine lv_aload_n hx hb dX5_perform_107 rfl (lv_at hl 1 rfl) ?_
      refine zm_get hx hb hts hown hE hM hR.1 fl_X5_15_4 rfl dX5_perform_108 ?_
      refine lv_aload_n hx hb dX5_perform_111 rfl (lv_at hl 2 rfl) ?_
      refine zm_get hx hb hts hown hE hM hcu fl_X5_115_0 rfl dX5_perform_112 ?_
      refine lv_aload_n hx hb dX5_perform_115 rfl (lv_at hl 1 rfl) ?_
      refine zm_get hx hb hts hown hE hM hR.1 fl_X5_57_4 rfl dX5_perform_116 ?_
      refine zm_astO hx hb hE hM hS h2 (hR.cls hI.2.2.2.2.2.1) (vp_in_nI k2 (by decide)) dX5_perform_119 (fun H locs hM hS => ?_)
      rw [nI_clamp (by omega)] at hM
      have hR1 := hR.slot hI (i := (s_cu S c0).2.1) (o := s_hd S) h2 e2
      refine lv_aload_n hx hb dX5_perform_120 rfl (lv_at hl 1 rfl) ?_
      refine zq_aload_n hx hb dX5_perform_121 rfl (lv_at hl 0 rfl) ?_
      refine zm_put hx hb hts hown hE hM hS hR1.1 fp_X5_57_4 (zq_nar _) (zq_fit _) (Nat.le_of_ble_eq_true rfl) dX5_perform_122 (fun H locs hM hS => ?_)
      have hR2 := hR1.fld (S' := w_hd (w_sl S (va_up (s_sl S) (s_cu S c0).2.1 (s_hd S))) (s_sl S (s_cu S c0).2.1)) rfl rfl rfl rfl (Nat.le_refl _) rfl
      refine lv_iconst (v := 0) hx hb dX5_perform_125 (by decide) ?_
      refine zm_iret hx hb hr hlk hM hS ?_ ⟨Nat.le_refl _, Nat.le_refl _⟩ dX5_perform_126
      have hs : stp S c0 = (0, w_hd (w_sl S (va_up (s_sl S) (s_cu S c0).2.1 (s_hd S))) (s_sl S (s_cu S c0).2.1)) := by unfold stp; rw [if_neg (by rw [c18]; decide), ha]; rfl
      exact ⟨by rw [hs], by rw [hs]; exact hR2⟩
    · refine lv_tableOut (tgt := 127) hx hb dX5_perform_28 (by rw [ha]; decide) (by decide) ?_
      refine lv_aload_n hx hb dX5_perform_127 rfl (lv_at hl 1 rfl) ?_
      refine zm_get hx hb hts hown hE hM hR.1 fl_X5_15_4 rfl dX5_perform_128 ?_
      refine lv_aload_n hx hb dX5_perform_131 rfl (lv_at hl 2 rfl) ?_
      refine zm_get hx hb hts hown hE hM hcu fl_X5_131_0 rfl dX5_perform_132 ?_
      refine zq_aload_n hx hb dX5_perform_135 rfl (lv_at hl 0 rfl) ?_
      refine zm_astO hx hb hE hM hS h2 (hR.cls hso) (vp_in_nI k4 (by decide)) dX5_perform_136 (fun H locs hM hS => ?_)
      rw [nI_clamp (by omega)] at hM
      have hR2 := hR.slot hI (i := (s_cu S c0).2.2.2) (o := s_sl S (s_cu S c0).2.1) h2 e2
      refine lv_iconst (v := 0) hx hb dX5_perform_137 (by decide) ?_
      refine zm_iret hx hb hr hlk hM hS ?_ ⟨Nat.le_refl _, Nat.le_refl _⟩ dX5_perform_138
      have hs : stp S c0 = (0, w_sl S (va_up (s_sl S) (s_cu S c0).2.2.2 (s_sl S (s_cu S c0).2.1))) := by unfold stp; rw [if_neg (by rw [c18]; decide), ha]; rfl
      exact ⟨by rw [hs], by rw [hs]; exact hR2⟩
  · rw [bI_0] at c18
    refine lv_bipush (v := (-5)) hx hb dX5_perform_21 (by decide) ?_
    refine zm_iret hx hb hr hlk hM hS ?_ ⟨Nat.le_refl _, Nat.le_refl _⟩ dX5_perform_23
    exact ⟨by rw [stp_cast c18], by rw [stp_cast c18]; exact hR⟩
end
section
/-! a prop more, a cue more -/
theorem zm_uu (M : zm_M) (a : Nat) (e e' : va_E) : zm_up (zm_up M a e) a e' = zm_up M a e' := by
  funext q
  by_cases h : q = a
  · subst h; rw [zm_up_s, zm_up_s]
  · rw [zm_up_n h, zm_up_n h, zm_up_n h]
abbrev addS (S : zS) (kk nn : Nat) : zS := ((s_np S + 1, s_nc S), (va_up (s_kd S) (s_np S) kk, va_up (s_sz S) (s_np S) nn, upd (s_wr S) (s_np S) 0), (va_up (s_nu S) (s_np S) (fun _ => 0), va_up (s_th S) (s_np S) (fun _ => none)), S.2.2.2)
abbrev addB (B : zB) (S : zS) (q qa : Nat) : zB := (B.1, va_up B.2.1 (s_np S) q, va_up B.2.2.1 (s_np S) qa, B.2.2.2)
theorem oA_add {B : zB} {S : zS} {q qa : Nat} {o : Option Nat} (ho : ∀ t, o = some t → t < s_np S) : oA (addB B S q qa) o = oA B o := by
  cases o with
  | none => rfl
  | some t => exact congrArg some (va_up_ne _ _ (by have := ho t rfl; omega))
theorem pcell_add {B : zB} {S : zS} {q qa kk nn j : Nat} (hj : j < s_np S) : pcell (addB B S q qa) (addS S kk nn) j = pcell B S j := by
  have e : j ≠ s_np S := by omega
  unfold pcell
  dsimp only [addB, addS, s_kd, s_sz, s_wr]
  simp only [va_up_ne _ _ e, pk_un e]
theorem many_add {S : zS} {kk nn j : Nat} (hj : j < s_np S) : many (addS S kk nn) j = many S j := by
  have e : j ≠ s_np S := by omega
  unfold many
  dsimp only [addS, s_kd, s_sz]
  simp only [va_up_ne _ _ e]
theorem RepC.add {G : zm_G} {B : zB} {S : zS} {M M' : zm_M} {f1 : Nat → Option Nat} {kk nn q qa : Nat} (h : RepC G B S M) (hI : zInv S) (e1 : ∀ j, j < s_np S → f1 j = some (B.2.1 j)) (hqa : isPc kk = false → M qa = none)
    (g0 : M' B.1.1 = some (.inr (4, objC (addB B S q qa) (addS S kk nn)))) (g1 : M' B.1.2.1 = some (zm_R G 50 (va_up f1 (s_np S) (some q)))) (gc : M' q = some (pcell (addB B S q qa) (addS S kk nn) (s_np S))) (ga : isRw kk = true → M' qa = some (zm_R G nn (fun _ => none))) (gn : kk < 4 → M' qa = some (zm_J G (if kk = 3 then 3 * nn else nn) (fun _ => 0)))
    (go : ∀ x e, M x = some e → x ≠ B.1.1 → x ≠ B.1.2.1 → M' x = some e) : RepC G (addB B S q qa) (addS S kk nn) M' := by
  obtain ⟨h0, ⟨f1', h1, x1⟩, ⟨f2, h2, x2⟩, ⟨f3, h3, x3⟩, h4, h5, h6, h7, h8⟩ := h
  refine ⟨g0, ⟨_, g1, fun j hj => ?_⟩, ⟨f2, go _ _ h2 (zm_ne h2 h0 (by simp)) (zm_ne h2 h1 (by simp)), fun i hi => ?_⟩, ⟨f3, go _ _ h3 (zm_ne h3 h0 (by simp)) (zm_ne h3 h1 (by simp)), x3⟩, fun c hc => go _ _ (h4 c hc) (zm_ne (h4 c hc) h0 (by simp)) (zm_ne (h4 c hc) h1 (by simp)), fun j hj => ?_, fun j hj hk => ?_, fun j hj hk => ?_, fun j k hj hk hpj hpk he => ?_⟩
  · have hj : j < s_np S + 1 := hj
    show va_up f1 (s_np S) (some q) j = some (va_up B.2.1 (s_np S) q j)
    by_cases e : j = s_np S
    · subst e; rw [va_up_self, va_up_self]
    · rw [va_up_ne _ _ e, va_up_ne _ _ e]; exact e1 j (by omega)
  · rw [x2 i hi]; exact (oA_add (fun t ht => hI.2.2.2.2.1 i t hi ht)).symm
  · have hj : j < s_np S + 1 := hj
    by_cases e : j = s_np S
    · subst e; show M' (va_up B.2.1 (s_np S) q (s_np S)) = _; rw [va_up_self]; exact gc
    · have hj' : j < s_np S := by omega
      rw [pcell_add hj']
      show M' (va_up B.2.1 (s_np S) q j) = _
      rw [va_up_ne _ _ e]
      exact go _ _ (h5 j hj') (zm_ne (h5 j hj') h0 (pcell_ne (by simp))) (zm_ne (h5 j hj') h1 pcell_nl)
  · have hj : j < s_np S + 1 := hj
    by_cases e : j = s_np S
    · subst e
      have hk : isRw kk = true := by
        have : isRw (va_up (s_kd S) (s_np S) kk (s_np S)) = true := hk
        rwa [va_up_self] at this
      refine ⟨fun _ => none, ?_, fun i _ => ?_⟩
      · show M' (va_up B.2.2.1 (s_np S) qa (s_np S)) = some (zm_R G (va_up (s_sz S) (s_np S) nn (s_np S)) _)
        rw [va_up_self, va_up_self]; exact ga hk
      · show none = oA _ (va_up (s_th S) (s_np S) (fun _ => none) (s_np S) i)
        rw [va_up_self]; rfl
    · have hj' : j < s_np S := by omega
      have hk : isRw (s_kd S j) = true := by
        have : isRw (va_up (s_kd S) (s_np S) kk j) = true := hk
        rwa [va_up_ne _ _ e] at this
      obtain ⟨g, y1, y2⟩ := h6 j hj' hk
      have h5j := hI.sz5 hj' (rw_pc hk)
      refine ⟨g, ?_, fun i hi => ?_⟩
      · show M' (va_up B.2.2.1 (s_np S) qa j) = some (zm_R G (va_up (s_sz S) (s_np S) nn j) g)
        rw [va_up_ne _ _ e, va_up_ne _ _ e]
        refine go _ _ y1 (zm_ne y1 h0 (by simp)) (zm_ne y1 h1 (fun z => ?_))
        injection z with z
        injection z with z1 z2
        injection z2 with z3 z4
        omega
      · have hi : i < s_sz S j := by
          have : i < va_up (s_sz S) (s_np S) nn j := hi
          rwa [va_up_ne _ _ e] at this
        show g i = oA _ (va_up (s_th S) (s_np S) (fun _ => none) j i)
        rw [va_up_ne _ _ e, y2 i hi]
        have h8j : 8 ≤ s_kd S j := by simp [isRw] at hk; omega
        exact (oA_add (fun t ht => (hI.2.2.2.1 j hj' h8j i t hi ht).1)).symm
  · have hj : j < s_np S + 1 := hj
    by_cases e : j = s_np S
    · subst e
      have hk : kk < 4 := by
        have : va_up (s_kd S) (s_np S) kk (s_np S) < 4 := hk
        rwa [va_up_self] at this
      refine ⟨fun _ => 0, ?_, fun i _ => ?_⟩
      · show M' (va_up B.2.2.1 (s_np S) qa (s_np S)) = some (zm_J G (if va_up (s_kd S) (s_np S) kk (s_np S) = 3 then 3 * va_up (s_sz S) (s_np S) nn (s_np S) else va_up (s_sz S) (s_np S) nn (s_np S)) _)
        rw [va_up_self, va_up_self, va_up_self]; exact gn hk
      · show 0 = va_up (s_nu S) (s_np S) (fun _ => 0) (s_np S) i
        rw [va_up_self]
    · have hj' : j < s_np S := by omega
      have hk : s_kd S j < 4 := by
        have : va_up (s_kd S) (s_np S) kk j < 4 := hk
        rwa [va_up_ne _ _ e] at this
      obtain ⟨g, y1, y2⟩ := h7 j hj' hk
      refine ⟨g, ?_, fun i hi => ?_⟩
      · rw [many_add hj']
        show M' (va_up B.2.2.1 (s_np S) qa j) = _
        rw [va_up_ne _ _ e]
        exact go _ _ y1 (zm_ne y1 h0 (by simp)) (zm_ne y1 h1 (by simp))
      · rw [many_add hj'] at hi
        show g i = va_up (s_nu S) (s_np S) (fun _ => 0) j i
        rw [va_up_ne _ _ e]
        exact y2 i hi
  · have hj : j < s_np S + 1 := hj
    have hk : k < s_np S + 1 := hk
    have hpj : isPc (va_up (s_kd S) (s_np S) kk j) = false := hpj
    have hpk : isPc (va_up (s_kd S) (s_np S) kk k) = false := hpk
    have he : va_up B.2.2.1 (s_np S) qa j = va_up B.2.2.1 (s_np S) qa k := he
    have old : ∀ a, a < s_np S → isPc (s_kd S a) = false → isPc kk = false → B.2.2.1 a ≠ qa := by
      intro a ha hp hkk
      have hka := (hI.2.2.1 a ha).1
      by_cases h4' : s_kd S a < 4
      · obtain ⟨g, y1, -⟩ := h7 a ha h4'
        exact zm_neN y1 (hqa hkk)
      · obtain ⟨g, y1, -⟩ := h6 a ha (by simp only [isRw, isPc, Bool.and_eq_true, decide_eq_true_eq, Bool.and_eq_false_iff, decide_eq_false_iff_not] at *; omega)
        exact zm_neN y1 (hqa hkk)
    by_cases ej : j = s_np S
    · by_cases ek : k = s_np S
      · rw [ej, ek]
      · subst ej
        rw [va_up_self] at he hpj
        rw [va_up_ne _ _ ek] at he hpk
        exact absurd he.symm (old k (by omega) hpk hpj)
    · by_cases ek : k = s_np S
      · subst ek
        rw [va_up_self] at he hpk
        rw [va_up_ne _ _ ej] at he hpj
        exact absurd he (old j (by omega) hpj hpk)
      · rw [va_up_ne _ _ ej] at he hpj
        rw [va_up_ne _ _ ek] at he hpk
        exact h8 j k (by omega) (by omega) hpj hpk he
abbrev addCB (B : zB) (S : zS) (q : Nat) : zB := (B.1, B.2.1, B.2.2.1, va_up B.2.2.2 (s_nc S) q)
theorem RepC.addC {G : zm_G} {B : zB} {S : zS} {M M' : zm_M} {f3 : Nat → Option Nat} {q : Nat} {t : Nat × Nat × Nat × Nat} (h : RepC G B S M) (hI : zInv S) (e3 : ∀ c, c < s_nc S → f3 c = some (B.2.2.2 c))
    (g0 : M' B.1.1 = some (.inr (4, objC (addCB B S q) (w_cu S (s_nc S + 1) (va_up (s_cu S) (s_nc S) t))))) (g1 : M' B.1.2.2.2 = some (zm_C G 30 (va_up f3 (s_nc S) (some q)))) (gc : M' q = some (.inr (0, [.int (nI t.1), .int (nI t.2.1), .int (nI t.2.2.1), .int (nI t.2.2.2)])))
    (go : ∀ x e, M x = some e → x ≠ B.1.1 → x ≠ B.1.2.2.2 → M' x = some e) : RepC G (addCB B S q) (w_cu S (s_nc S + 1) (va_up (s_cu S) (s_nc S) t)) M' := by
  obtain ⟨h0, ⟨f1, h1, x1⟩, ⟨f2, h2, x2⟩, ⟨f3', h3, x3⟩, h4, h5, h6, h7, h8⟩ := h
  refine ⟨g0, ⟨f1, go _ _ h1 (zm_ne h1 h0 (by simp)) (zm_ne h1 h3 (by simp)), x1⟩, ⟨f2, go _ _ h2 (zm_ne h2 h0 (by simp)) (zm_ne h2 h3 (by simp)), x2⟩, ⟨_, g1, fun c hc => ?_⟩, fun c hc => ?_, fun j hj => go _ _ (h5 j hj) (zm_ne (h5 j hj) h0 (pcell_ne (by simp))) (zm_ne (h5 j hj) h3 pcell_nl), fun j hj hk => ?_, fun j hj hk => ?_, h8⟩
  · have hc : c < s_nc S + 1 := hc
    show va_up f3 (s_nc S) (some q) c = some (va_up B.2.2.2 (s_nc S) q c)
    by_cases e : c = s_nc S
    · subst e; rw [va_up_self, va_up_self]
    · rw [va_up_ne _ _ e, va_up_ne _ _ e]; exact e3 c (by omega)
  · have hc : c < s_nc S + 1 := hc
    by_cases e : c = s_nc S
    · subst e
      show M' (va_up B.2.2.2 (s_nc S) q (s_nc S)) = some (.inr (0, [.int (nI (va_up (s_cu S) (s_nc S) t (s_nc S)).1), .int (nI (va_up (s_cu S) (s_nc S) t (s_nc S)).2.1), .int (nI (va_up (s_cu S) (s_nc S) t (s_nc S)).2.2.1), .int (nI (va_up (s_cu S) (s_nc S) t (s_nc S)).2.2.2)]))
      rw [va_up_self, va_up_self]; exact gc
    · have hc' : c < s_nc S := by omega
      show M' (va_up B.2.2.2 (s_nc S) q c) = some (.inr (0, [.int (nI (va_up (s_cu S) (s_nc S) t c).1), .int (nI (va_up (s_cu S) (s_nc S) t c).2.1), .int (nI (va_up (s_cu S) (s_nc S) t c).2.2.1), .int (nI (va_up (s_cu S) (s_nc S) t c).2.2.2)]))
      rw [va_up_ne _ _ e, va_up_ne _ _ e]
      exact go _ _ (h4 c hc') (zm_ne (h4 c hc') h0 (by simp)) (zm_ne (h4 c hc') h3 (by simp))
  · obtain ⟨g, y1, y2⟩ := h6 j hj hk
    have h5j := hI.sz5 hj (rw_pc hk)
    refine ⟨g, go _ _ y1 (zm_ne y1 h0 (by simp)) (zm_ne y1 h3 (fun z => ?_)), y2⟩
    injection z with z
    injection z with z1 z2
    injection z2 with z3 z4
    omega
  · obtain ⟨g, y1, y2⟩ := h7 j hj hk
    exact ⟨g, go _ _ y1 (zm_ne y1 h0 (by simp)) (zm_ne y1 h3 (by simp)), y2⟩
theorem play_bad {S : zS} {a b : Int32} (hI : zInv S) (h : a < 0 ∨ b < a ∨ nI (s_nc S) ≤ b) : sp_play S a b = (-2, S) := by
  have hn := hI.2.1
  unfold sp_play
  rcases h with h | h | h
  · rw [ix_lt h]
  · cases ha : ix (s_nc S) a with
    | none => rfl
    | some x =>
      cases hb : ix (s_nc S) b with
      | none => rfl
      | some y =>
        obtain ⟨h1, rfl⟩ := ix_some (by omega) ha
        obtain ⟨h2, rfl⟩ := ix_some (by omega) hb
        rw [nI_ltI (by omega) (by omega)] at h
        show (if x ≤ y then _ else _) = _
        rw [if_neg (by omega)]
  · rw [ix_ge h]
    cases ix (s_nc S) a <;> rfl
theorem play_ok {S : zS} {a b : Int32} (hI : zInv S) (h1 : ¬ a < 0) (h2 : ¬ b < a) (h3 : b < nI (s_nc S)) : ∃ x y, a = nI x ∧ b = nI y ∧ x ≤ y ∧ y < s_nc S ∧ sp_play S a b = (nI (pls (y + 1 - x) x (w_ms S 0 (-1) (s_of S))).1, (pls (y + 1 - x) x (w_ms S 0 (-1) (s_of S))).2) := by
  have hn := hI.2.1
  have hb0 : ¬ b < 0 := by
    intro q
    rw [Int32.lt_iff_toInt_lt] at *
    simp at h1 q
    omega
  obtain ⟨y, hy, rfl, hiy⟩ := ix_in (n := s_nc S) (by omega) hb0 (by rw [Int32.not_le]; exact h3)
  have ha : ¬ nI (s_nc S) ≤ a := by
    intro q
    rw [Int32.le_iff_toInt_le] at q
    rw [Int32.lt_iff_toInt_lt] at h2 h3
    omega
  obtain ⟨x, hx, rfl, hix⟩ := ix_in (n := s_nc S) (by omega) h1 ha
  rw [nI_ltI (by omega) (by omega)] at h2
  refine ⟨x, y, rfl, rfl, by omega, hy, ?_⟩
  unfold sp_play
  rw [hix, hiy]
  show (if x ≤ y then _ else _) = _
  rw [if_pos (by omega)]
theorem pls_s {n c : Nat} {S : zS} (h : (stp S c).1 = 0) : pls (n + 1) c S = ((pls n (c + 1) (stp S c).2).1 + 1, (pls n (c + 1) (stp S c).2).2) := by rw [pls, if_pos h]
theorem pls_f {n c : Nat} {S : zS} (h : ¬ (stp S c).1 = 0) : pls (n + 1) c S = (0, w_ms S (stp S c).1 (nI c) (s_of S + 1)) := by rw [pls, if_neg h]
end
section
theorem zm_sw {M : zm_M} {a b : Nat} {x y z : va_E} (h : b ≠ a) : zm_up (zm_up (zm_up M a x) b y) a z = zm_up (zm_up (zm_up M b y) a x) a z := by
  funext q
  by_cases h1 : q = a
  · subst h1; rw [zm_up_s, zm_up_s]
  · rw [zm_up_n h1, zm_up_n h1, zm_up_n h1]
    by_cases h2 : q = b
    · subst h2; rw [zm_up_s, zm_up_s]
    · rw [zm_up_n h2, zm_up_n h2, zm_up_n h1]
set_option maxRecDepth 100000 in
set_option maxHeartbeats 4000000 in
theorem c_X5_play (l : Launch) (G : zm_G) (A : Nat → Prop) (B : zB) (S : zS) (M : zm_M) (a b : Int32) (hI : zInv S) (hR : RepC G B S M) : Met l yX5_play (zm_W yX5_play cX5_play 5 (some .int)) (zm_rm 6 0 0) (zm_Pc G [.ref B.1.1, .int a, .int b] A M) (zm_Q G (fun r M' => ∃ B', B'.1 = B.1 ∧ r = some (.int (sp_play S a b).1) ∧ RepC G B' (sp_play S a b).2 M') A) 0 0 A := by
  refine zm_start (by decide) (Nat.le_of_ble_eq_true rfl) ?_
  intro p e s m below meth c hx hb hml hr hts hown hlk hnm hE hA ls hl hM hS
  have hl : lv_has ls 5 [(0, .ref B.1.1), (1, .int a), (2, .int b)] := hl
  refine lv_iload_n hx hb dX5_play_0 rfl (lv_at hl 1 rfl) ?_
  refine lv_if_lt (tgt := 17) hx hb dX5_play_1 (by decide) (fun c1 => ?_) (fun c1 => ?_)
  · refine lv_bipush (v := (-2)) hx hb dX5_play_17 (by decide) ?_
    refine zm_iret hx hb hr hlk hM hS ?_ ⟨Nat.le_refl _, Nat.le_refl _⟩ dX5_play_19
    have hs : sp_play S a b = (-2, S) := play_bad hI (by first | exact Or.inl c1 | exact Or.inr (Or.inl c6) | exact Or.inr (Or.inr (by rw [Int32.not_lt] at c14; exact c14)))
    exact ⟨B, rfl, by rw [hs], by rw [hs]; exact hR⟩
  · refine lv_iload_n hx hb dX5_play_4 rfl (lv_at hl 2 rfl) ?_
    refine lv_iload_n hx hb dX5_play_5 rfl (lv_at hl 1 rfl) ?_
    refine lv_icmp_lt (tgt := 17) hx hb dX5_play_6 (by decide) (fun c6 => ?_) (fun c6 => ?_)
    · refine lv_bipush (v := (-2)) hx hb dX5_play_17 (by decide) ?_
      refine zm_iret hx hb hr hlk hM hS ?_ ⟨Nat.le_refl _, Nat.le_refl _⟩ dX5_play_19
      have hs : sp_play S a b = (-2, S) := play_bad hI (by first | exact Or.inl c1 | exact Or.inr (Or.inl c6) | exact Or.inr (Or.inr (by rw [Int32.not_lt] at c14; exact c14)))
      exact ⟨B, rfl, by rw [hs], by rw [hs]; exact hR⟩
    · refine lv_iload_n hx hb dX5_play_9 rfl (lv_at hl 2 rfl) ?_
      refine lv_aload_n hx hb dX5_play_10 rfl (lv_at hl 0 rfl) ?_
      refine zm_get hx hb hts hown hE hM hR.1 fl_X5_71_4 rfl dX5_play_11 ?_
      refine lv_icmp_lt (tgt := 20) hx hb dX5_play_14 (by decide) (fun c14 => ?_) (fun c14 => ?_)
      · obtain ⟨x, y, rfl, rfl, hxy, hy, hs⟩ := play_ok hI c1 c6 c14
        have hnc := hI.2.1
        refine lv_aload_n hx hb dX5_play_20 rfl (lv_at hl 0 rfl) ?_
        refine lv_iconst (v := 0) hx hb dX5_play_21 (by decide) ?_
        refine zm_put hx hb hts hown hE hM hS hR.1 fp_X5_77_4 rfl rfl (Nat.le_of_ble_eq_true rfl) dX5_play_22 (fun H locs hM hS => ?_)
        have hR1 := hR.fld (S' := w_ms S 0 (s_at S) (s_of S)) rfl rfl rfl rfl (Nat.le_refl _) rfl
        refine lv_aload_n hx hb dX5_play_25 rfl (lv_at hl 0 rfl) ?_
        refine lv_iconst (v := (-1)) hx hb dX5_play_26 (by decide) ?_
        refine zm_put hx hb hts hown hE hM hS hR1.1 fp_X5_24_4 rfl rfl (Nat.le_of_ble_eq_true rfl) dX5_play_27 (fun H locs hM hS => ?_)
        have hR0 := hR1.fld (S' := w_ms S 0 (-1) (s_of S)) rfl rfl rfl rfl (Nat.le_refl _) rfl
        refine lv_iload_n hx hb dX5_play_30 rfl (lv_at hl 1 rfl) ?_
        refine lv_istore_n (lv' := [(3, .int (nI x)), (0, .ref B.1.1), (1, .int (nI x)), (2, .int (nI y))]) hx hb dX5_play_31 rfl hl (by decide) rfl (fun ls hl => ?_)
        have loop : ∀ (n k : Nat), x ≤ k → k ≤ y + 1 → y + 2 ≤ k + n → ∀ (ls : Array Slot) (S1 : zS) (M : zm_M) (H : Heap) (locs : List Loc), zInv S1 → s_nc S1 = s_nc S → pls (y + 1 - x) x (w_ms S 0 (-1) (s_of S)) = ((pls (y + 1 - k) k S1).1 + (k - x), (pls (y + 1 - k) k S1).2) → RepC G B S1 M → zm_P G A M H → va_S A s.heap H locs → lv_has ls 5 [(3, .int (nI k)), (0, .ref B.1.1), (1, .int (nI x)), (2, .int (nI y))] → W p l e (zm_rm 6 0 0) s m [.ref B.1.1, .int (nI x), .int (nI y)].toArray below meth c H locs 0 0 (MQ below (zm_Q G (fun r M' => ∃ B', B'.1 = B.1 ∧ r = some (.int (sp_play S (nI x) (nI y)).1) ∧ RepC G B' (sp_play S (nI x) (nI y)).2 M') A) [.ref B.1.1, .int (nI x), .int (nI y)].toArray s 0 0 A) (F0 m 32 ls []) := by
          intro n
          induction n with
          | zero => intro k h0 h1 h2; exact absurd h2 (by omega)
          | succ n ih =>
            intro k hk0 hk1 hk2 ls S1 M H locs hI1 hn1 hp hR1 hM hS hl
            refine lv_iload_n hx hb dX5_play_32 rfl (lv_at hl 0 rfl) ?_
            refine lv_iload_n hx hb dX5_play_33 rfl (lv_at hl 3 rfl) ?_
            refine lv_icmp_gt (tgt := 85) hx hb dX5_play_34 (by decide) (fun c34 => ?_) (fun c34 => ?_)
            · rw [nI_ltI (by omega) (by omega)] at c34
              refine lv_iload_n hx hb dX5_play_85 rfl (lv_at hl 3 rfl) ?_
              refine lv_iload_n hx hb dX5_play_86 rfl (lv_at hl 2 rfl) ?_
              refine lv_isub hx hb dX5_play_87 ?_
              refine lv_iconst (v := 1) hx hb dX5_play_88 (by decide) ?_
              refine lv_iadd hx hb dX5_play_89 ?_
              refine zm_iret hx hb hr hlk hM hS ?_ ⟨Nat.le_refl _, Nat.le_refl _⟩ dX5_play_90
              rw [show y + 1 - k = 0 by omega] at hp
              rw [hs, hp]
              exact ⟨B, rfl, by rw [pk_sub hxy, nI_1]; show _ = some (Value.int (nI (0 + (k - x)))); rw [show y - x + 1 = 0 + (k - x) by omega], hR1⟩
            · rw [nI_ltI (by omega) (by omega)] at c34
              refine lv_aload_n hx hb dX5_play_37 rfl (lv_at hl 1 rfl) ?_
              refine lv_aload_n hx hb dX5_play_38 rfl (lv_at hl 1 rfl) ?_
              refine zm_get hx hb hts hown hE hM hR1.1 fl_X5_20_4 rfl dX5_play_39 ?_
              refine lv_iload_n hx hb dX5_play_42 rfl (lv_at hl 0 rfl) ?_
              have hkn : k < s_nc S1 := by omega
              obtain ⟨f3, h3, e3⟩ := hR1.2.2.2.1
              refine zm_aldC hx hb hE hM h3 (vp_in_nI (show k < 30 by omega) (by decide)) dX5_play_43 ?_
              refine zt_eq (v' := .ref (B.2.2.2 k)) (by rw [nI_clamp (by omega), e3 k hkn]; rfl) ?_
              refine zm_callV (As := [.ref (B.2.2.2 k)]) (rest := []) hx hb hml hts hown hE hA hM hS hR1.1 rfl (c_X5_perform l G A B S1 _ k hkn hI1 hR1) cd_X5_perform ml_X5_80 rfl rfl hl.1 (Nat.le_of_ble_eq_true rfl) ⟨Nat.le_of_ble_eq_true rfl, Nat.le_of_ble_eq_true rfl⟩ ⟨Nat.le_of_ble_eq_true rfl, Nat.le_of_ble_eq_true rfl⟩ dX5_play_44 ?_
              rintro r M1 H locs ⟨rfl, hR2⟩ hM hS
              refine W.eq (g2 := F0 m 47 ls [.int ((stp S1 k).1)]) rfl ?_
              refine lv_istore (lv' := [(4, .int ((stp S1 k).1)), (3, .int (nI k)), (0, .ref B.1.1), (1, .int (nI x)), (2, .int (nI y))]) hx hb dX5_play_47 hl (by decide) rfl (fun ls hl => ?_)
              refine lv_iload hx hb dX5_play_49 (lv_at hl 0 rfl) ?_
              refine lv_if_eq (tgt := 79) hx hb dX5_play_51 (by decide) (fun c51 => ?_) (fun c51 => ?_)
              · refine lv_iinc (v := nI (k + 1)) (lv' := [(3, .int (nI (k + 1))), (4, .int ((stp S1 k).1)), (0, .ref B.1.1), (1, .int (nI x)), (2, .int (nI y))]) hx hb dX5_play_79 hl (k := 1) rfl (nI_1 k) (by decide) rfl (fun ls hl => ?_)
                refine lv_goto (tgt := 32) hx hb dX5_play_82 (by decide) ?_
                exact ih (k + 1) (by omega) (by omega) (by omega) ls _ _ _ _ (stp_inv hI1 hkn).1 ((stp_inv hI1 hkn).2.1.trans hn1) (by rw [hp, show y + 1 - k = (y + 1 - (k + 1)) + 1 by omega, pls_s c51]; exact Prod.ext (by show _ + 1 + (k - x) = _ + (k + 1 - x); omega) rfl) hR2 hM hS (lv_sub hl [0, 2, 3, 4] rfl)
              · have hS1 := (stp_inv hI1 hkn).2.2.2.2.2 c51
                rw [hS1] at hR2
                refine lv_aload_n hx hb dX5_play_54 rfl (lv_at hl 2 rfl) ?_
                refine lv_iload hx hb dX5_play_55 (lv_at hl 0 rfl) ?_
                refine zm_put hx hb hts hown hE hM hS hR2.1 fp_X5_77_4 rfl rfl (Nat.le_of_ble_eq_true rfl) dX5_play_57 (fun H locs hM hS => ?_)
                have hR3 := hR2.fld (S' := w_ms S1 (stp S1 k).1 (s_at S1) (s_of S1)) rfl rfl rfl rfl (Nat.le_refl _) rfl
                refine lv_aload_n hx hb dX5_play_60 rfl (lv_at hl 2 rfl) ?_
                refine lv_iload_n hx hb dX5_play_61 rfl (lv_at hl 1 rfl) ?_
                refine zm_put hx hb hts hown hE hM hS hR3.1 fp_X5_24_4 rfl rfl (Nat.le_of_ble_eq_true rfl) dX5_play_62 (fun H locs hM hS => ?_)
                have hR4 := hR3.fld (S' := w_ms S1 (stp S1 k).1 (nI k) (s_of S1)) rfl rfl rfl rfl (Nat.le_refl _) rfl
                refine lv_aload_n hx hb dX5_play_65 rfl (lv_at hl 2 rfl) ?_
                refine lv_dup hx hb dX5_play_66 rfl ?_
                refine zm_get hx hb hts hown hE hM hR4.1 fl_X5_84_4 rfl dX5_play_67 ?_
                refine lv_iconst (v := 1) hx hb dX5_play_70 (by decide) ?_
                refine lv_iadd hx hb dX5_play_71 ?_
                refine zm_put hx hb hts hown hE hM hS hR4.1 fp_X5_84_4 rfl rfl (Nat.le_of_ble_eq_true rfl) dX5_play_72 (fun H locs hM hS => ?_)
                have hR5 := hR4.fld (S' := w_ms S1 (stp S1 k).1 (nI k) (s_of S1 + 1)) rfl rfl rfl rfl (Nat.le_refl _) rfl
                refine lv_iload_n hx hb dX5_play_75 rfl (lv_at hl 1 rfl) ?_
                refine lv_iload_n hx hb dX5_play_76 rfl (lv_at hl 3 rfl) ?_
                refine lv_isub hx hb dX5_play_77 ?_
                refine zm_iret hx hb hr hlk hM hS ?_ ⟨Nat.le_refl _, Nat.le_refl _⟩ dX5_play_78
                rw [show y + 1 - k = (y - k) + 1 by omega, pls_f c51] at hp
                rw [hs, hp]
                exact ⟨B, rfl, by rw [pk_sub hk0]; simp, hR5⟩
        exact loop (y + 2) x (Nat.le_refl _) (by omega) (by omega) ls (w_ms S 0 (-1) (s_of S)) _ _ _ (hI.ms 0 (-1) (s_of S)) rfl (by simp) hR0 hM hS (lv_sub hl [0, 1, 2, 3] rfl)
      · refine lv_bipush (v := (-2)) hx hb dX5_play_17 (by decide) ?_
        refine zm_iret hx hb hr hlk hM hS ?_ ⟨Nat.le_refl _, Nat.le_refl _⟩ dX5_play_19
        have hs : sp_play S a b = (-2, S) := play_bad hI (by first | exact Or.inl c1 | exact Or.inr (Or.inl c6) | exact Or.inr (Or.inr (by rw [Int32.not_lt] at c14; exact c14)))
        exact ⟨B, rfl, by rw [hs], by rw [hs]; exact hR⟩
set_option maxRecDepth 100000 in
set_option maxHeartbeats 4000000 in
theorem c_X3_init_1 (l : Launch) (G : zm_G) (A : Nat → Prop) (M : zm_M) (a : Nat) (n k : Int32) (h0 : M a = some (.inr (1, [.int 0, .int 0, .null]))) : Met l yX3_init (zm_W yX3_init cX3_init 3 none) (zm_rm 1 0 0) (zm_Pc G [.ref a, .int n, .int k] A M) (zm_Q G (fun r M' => r = none ∧ M' = zm_up M a (.inr (1, [.int n, .int k, .null]))) A) 0 0 A := by
  refine zm_start (by decide) (Nat.le_of_ble_eq_true rfl) ?_
  intro p e s m below meth c hx hb hml hr hts hown hlk hnm hE hA ls hl hM hS
  have hl : lv_has ls 3 [(0, .ref a), (1, .int n), (2, .int k)] := hl
  refine lv_aload_n hx hb dX3_init_0 rfl (lv_at hl 0 rfl) ?_
  refine zm_objInit hx hb hml hts hown ml_X3_1 hl.1 (by decide) (Nat.le_of_ble_eq_true rfl) dX3_init_1 ?_
  refine lv_aload_n hx hb dX3_init_4 rfl (lv_at hl 0 rfl) ?_
  refine lv_iload_n hx hb dX3_init_5 rfl (lv_at hl 1 rfl) ?_
  refine zm_putF hx hb hts hown hnm hE hM hS h0 fp_X3_7_1 rfl rfl (Nat.le_of_ble_eq_true rfl) dX3_init_6 (fun H locs hM hS => ?_)
  refine lv_aload_n hx hb dX3_init_9 rfl (lv_at hl 0 rfl) ?_
  refine lv_iload_n hx hb dX3_init_10 rfl (lv_at hl 2 rfl) ?_
  refine zm_putF hx hb hts hown hnm hE hM hS zm_up_s fp_X3_13_1 rfl rfl (Nat.le_of_ble_eq_true rfl) dX3_init_11 (fun H locs hM hS => ?_)
  rw [zm_uu] at hM
  refine zm_vret hx hb hr hlk hM hS ?_ ⟨Nat.le_refl _, Nat.le_refl _⟩ dX3_init_14
  exact ⟨rfl, rfl⟩
set_option maxRecDepth 100000 in
set_option maxHeartbeats 4000000 in
theorem c_X3_init_2 (l : Launch) (G : zm_G) (A : Nat → Prop) (M : zm_M) (a : Nat) (n k : Int32) (h0 : M a = some (.inr (2, [.int 0, .int 0, .int 0, .int 0]))) : Met l yX3_init (zm_W yX3_init cX3_init 3 none) (zm_rm 1 0 0) (zm_Pc G [.ref a, .int n, .int k] A M) (zm_Q G (fun r M' => r = none ∧ M' = zm_up M a (.inr (2, [.int n, .int k, .int 0, .int 0]))) A) 0 0 A := by
  refine zm_start (by decide) (Nat.le_of_ble_eq_true rfl) ?_
  intro p e s m below meth c hx hb hml hr hts hown hlk hnm hE hA ls hl hM hS
  have hl : lv_has ls 3 [(0, .ref a), (1, .int n), (2, .int k)] := hl
  refine lv_aload_n hx hb dX3_init_0 rfl (lv_at hl 0 rfl) ?_
  refine zm_objInit hx hb hml hts hown ml_X3_1 hl.1 (by decide) (Nat.le_of_ble_eq_true rfl) dX3_init_1 ?_
  refine lv_aload_n hx hb dX3_init_4 rfl (lv_at hl 0 rfl) ?_
  refine lv_iload_n hx hb dX3_init_5 rfl (lv_at hl 1 rfl) ?_
  refine zm_putF hx hb hts hown hnm hE hM hS h0 fp_X3_7_2 rfl rfl (Nat.le_of_ble_eq_true rfl) dX3_init_6 (fun H locs hM hS => ?_)
  refine lv_aload_n hx hb dX3_init_9 rfl (lv_at hl 0 rfl) ?_
  refine lv_iload_n hx hb dX3_init_10 rfl (lv_at hl 2 rfl) ?_
  refine zm_putF hx hb hts hown hnm hE hM hS zm_up_s fp_X3_13_2 rfl rfl (Nat.le_of_ble_eq_true rfl) dX3_init_11 (fun H locs hM hS => ?_)
  rw [zm_uu] at hM
  refine zm_vret hx hb hr hlk hM hS ?_ ⟨Nat.le_refl _, Nat.le_refl _⟩ dX3_init_14
  exact ⟨rfl, rfl⟩
set_option maxRecDepth 100000 in
set_option maxHeartbeats 4000000 in
theorem c_X3_init_3 (l : Launch) (G : zm_G) (A : Nat → Prop) (M : zm_M) (a : Nat) (n k : Int32) (h0 : M a = some (.inr (3, [.int 0, .int 0, .null]))) : Met l yX3_init (zm_W yX3_init cX3_init 3 none) (zm_rm 1 0 0) (zm_Pc G [.ref a, .int n, .int k] A M) (zm_Q G (fun r M' => r = none ∧ M' = zm_up M a (.inr (3, [.int n, .int k, .null]))) A) 0 0 A := by
  refine zm_start (by decide) (Nat.le_of_ble_eq_true rfl) ?_
  intro p e s m below meth c hx hb hml hr hts hown hlk hnm hE hA ls hl hM hS
  have hl : lv_has ls 3 [(0, .ref a), (1, .int n), (2, .int k)] := hl
  refine lv_aload_n hx hb dX3_init_0 rfl (lv_at hl 0 rfl) ?_
  refine zm_objInit hx hb hml hts hown ml_X3_1 hl.1 (by decide) (Nat.le_of_ble_eq_true rfl) dX3_init_1 ?_
  refine lv_aload_n hx hb dX3_init_4 rfl (lv_at hl 0 rfl) ?_
  refine lv_iload_n hx hb dX3_init_5 rfl (lv_at hl 1 rfl) ?_
  refine zm_putF hx hb hts hown hnm hE hM hS h0 fp_X3_7_3 rfl rfl (Nat.le_of_ble_eq_true rfl) dX3_init_6 (fun H locs hM hS => ?_)
  refine lv_aload_n hx hb dX3_init_9 rfl (lv_at hl 0 rfl) ?_
  refine lv_iload_n hx hb dX3_init_10 rfl (lv_at hl 2 rfl) ?_
  refine zm_putF hx hb hts hown hnm hE hM hS zm_up_s fp_X3_13_3 rfl rfl (Nat.le_of_ble_eq_true rfl) dX3_init_11 (fun H locs hM hS => ?_)
  rw [zm_uu] at hM
  refine zm_vret hx hb hr hlk hM hS ?_ ⟨Nat.le_refl _, Nat.le_refl _⟩ dX3_init_14
  exact ⟨rfl, rfl⟩
set_option maxRecDepth 100000 in
set_option maxHeartbeats 4000000 in
theorem c_X2_init (l : Launch) (G : zm_G) (A : Nat → Prop) (M : zm_M) (a : Nat) (n k z : Int32) (h0 : M a = some (.inr (2, [.int 0, .int 0, .int 0, .int 0]))) : Met l yX2_init (zm_W yX2_init cX2_init 4 none) (zm_rm 2 0 0) (zm_Pc G [.ref a, .int n, .int k, .int z] A M) (zm_Q G (fun r M' => r = none ∧ M' = zm_up M a (.inr (2, [.int n, .int k, .int z, .int 0]))) A) 0 0 A := by
  refine zm_start (by decide) (Nat.le_of_ble_eq_true rfl) ?_
  intro p e s m below meth c hx hb hml hr hts hown hlk hnm hE hA ls hl hM hS
  have hl : lv_has ls 4 [(0, .ref a), (1, .int n), (2, .int k), (3, .int z)] := hl
  refine lv_aload_n hx hb dX2_init_0 rfl (lv_at hl 0 rfl) ?_
  refine lv_iload_n hx hb dX2_init_1 rfl (lv_at hl 1 rfl) ?_
  refine lv_iload_n hx hb dX2_init_2 rfl (lv_at hl 2 rfl) ?_
  refine zm_callI (As := [.int n, .int k]) (rest := []) hx hb hml hts hown hE hA hM hS (c_X3_init_2 l G A _ a n k h0) cd_X3_init ml_X2_3 rfl rfl hl.1 (Nat.le_of_ble_eq_true rfl) ⟨Nat.le_of_ble_eq_true rfl, Nat.le_of_ble_eq_true rfl⟩ ⟨Nat.le_of_ble_eq_true rfl, Nat.le_of_ble_eq_true rfl⟩ dX2_init_3 ?_
  rintro r M1 H locs ⟨rfl, rfl⟩ hM hS
  refine W.eq (g2 := F0 m 6 ls []) rfl ?_
  refine lv_aload_n hx hb dX2_init_6 rfl (lv_at hl 0 rfl) ?_
  refine lv_iload_n hx hb dX2_init_7 rfl (lv_at hl 3 rfl) ?_
  refine zm_putF hx hb hts hown hnm hE hM hS zm_up_s fp_X2_9_2 rfl rfl (Nat.le_of_ble_eq_true rfl) dX2_init_8 (fun H locs hM hS => ?_)
  rw [zm_uu] at hM
  refine zm_vret hx hb hr hlk hM hS ?_ ⟨Nat.le_refl _, Nat.le_refl _⟩ dX2_init_11
  exact ⟨rfl, rfl⟩
set_option maxRecDepth 100000 in
set_option maxHeartbeats 4000000 in
theorem c_X4_init (l : Launch) (G : zm_G) (A : Nat → Prop) (M : zm_M) (a len : Nat) (n k : Int32) (hlen : len ≤ 5) (h0 : M a = some (.inr (3, [.int 0, .int 0, .null]))) : Met l yX4_init (zm_W yX4_init cX4_init 4 none) (zm_rm 2 1 5) (zm_Pc G [.ref a, .int n, .int k, .int (nI len)] A M) (zm_Q G (fun r M' => r = none ∧ ∃ q, q ≠ a ∧ M q = none ∧ M' = zm_up (zm_up M q (zm_R G len (fun _ => none))) a (.inr (3, [.int n, .int k, .ref q]))) A) 1 5 A := by
  refine zm_start (by decide) (Nat.le_of_ble_eq_true rfl) ?_
  intro p e s m below meth c hx hb hml hr hts hown hlk hnm hE hA ls hl hM hS
  have hl : lv_has ls 4 [(0, .ref a), (1, .int n), (2, .int k), (3, .int (nI len))] := hl
  refine lv_aload_n hx hb dX4_init_0 rfl (lv_at hl 0 rfl) ?_
  refine lv_iload_n hx hb dX4_init_1 rfl (lv_at hl 1 rfl) ?_
  refine lv_iload_n hx hb dX4_init_2 rfl (lv_at hl 2 rfl) ?_
  refine zm_callI (As := [.int n, .int k]) (rest := []) hx hb hml hts hown hE hA hM hS (c_X3_init_3 l G A _ a n k h0) cd_X3_init ml_X4_1 rfl rfl hl.1 (Nat.le_of_ble_eq_true rfl) ⟨Nat.le_of_ble_eq_true rfl, Nat.le_of_ble_eq_true rfl⟩ ⟨Nat.le_of_ble_eq_true rfl, Nat.le_of_ble_eq_true rfl⟩ dX4_init_3 ?_
  rintro r M1 H locs ⟨rfl, rfl⟩ hM hS
  refine W.eq (g2 := F0 m 6 ls []) rfl ?_
  refine lv_aload_n hx hb dX4_init_6 rfl (lv_at hl 0 rfl) ?_
  refine lv_iload_n hx hb dX4_init_7 rfl (lv_at hl 3 rfl) ?_
  refine zm_newq hx hb hts hown hE hA hM hS 3 rfl clk_X4_2 hE.2.2.2.1.2 (nI_pos (by omega)) (nI_clamp (by omega)) (by omega) (Nat.le_of_ble_eq_true rfl) (by show 0 + len ≤ 5; omega) dX4_init_8 (fun q H hq hM hS => ?_)
  have hqa : q ≠ a := fun z => by rw [z, zm_up_s] at hq; cases hq
  have hq0 : M q = none := by rw [← hq, zm_up_n hqa]
  refine zm_putF hx hb hts hown hnm hE hM hS (zm_up_k (Ne.symm hqa) zm_up_s) fp_X4_7_3 rfl rfl (Nat.le_of_ble_eq_true rfl) dX4_init_11 (fun H locs hM hS => ?_)
  rw [zm_sw hqa, zm_uu] at hM
  refine zm_vret hx hb hr hlk hM hS ?_ ⟨Nat.le_refl _, by show 0 + len ≤ 5; omega⟩ dX4_init_14
  exact ⟨rfl, q, hqa, hq0, rfl⟩
set_option maxRecDepth 100000 in
set_option maxHeartbeats 4000000 in
theorem c_X1_init (l : Launch) (G : zm_G) (A : Nat → Prop) (M : zm_M) (a len : Nat) (n k : Int32) (hlen : len ≤ 15) (h0 : M a = some (.inr (1, [.int 0, .int 0, .null]))) : Met l yX1_init (zm_W yX1_init cX1_init 4 none) (zm_rm 2 1 15) (zm_Pc G [.ref a, .int n, .int k, .int (nI len)] A M) (zm_Q G (fun r M' => r = none ∧ ∃ q, q ≠ a ∧ M q = none ∧ M' = zm_up (zm_up M q (zm_J G len (fun _ => 0))) a (.inr (1, [.int n, .int k, .ref q]))) A) 1 15 A := by
  refine zm_start (by decide) (Nat.le_of_ble_eq_true rfl) ?_
  intro p e s m below meth c hx hb hml hr hts hown hlk hnm hE hA ls hl hM hS
  have hl : lv_has ls 4 [(0, .ref a), (1, .int n), (2, .int k), (3, .int (nI len))] := hl
  refine lv_aload_n hx hb dX1_init_0 rfl (lv_at hl 0 rfl) ?_
  refine lv_iload_n hx hb dX1_init_1 rfl (lv_at hl 1 rfl) ?_
  refine lv_iload_n hx hb dX1_init_2 rfl (lv_at hl 2 rfl) ?_
  refine zm_callI (As := [.int n, .int k]) (rest := []) hx hb hml hts hown hE hA hM hS (c_X3_init_1 l G A _ a n k h0) cd_X3_init ml_X1_3 rfl rfl hl.1 (Nat.le_of_ble_eq_true rfl) ⟨Nat.le_of_ble_eq_true rfl, Nat.le_of_ble_eq_true rfl⟩ ⟨Nat.le_of_ble_eq_true rfl, Nat.le_of_ble_eq_true rfl⟩ dX1_init_3 ?_
  rintro r M1 H locs ⟨rfl, rfl⟩ hM hS
  refine W.eq (g2 := F0 m 6 ls []) rfl ?_
  refine lv_aload_n hx hb dX1_init_6 rfl (lv_at hl 0 rfl) ?_
  refine lv_iload_n hx hb dX1_init_7 rfl (lv_at hl 3 rfl) ?_
  refine zm_newJ hx hb hts hE hA hM hS aw_long (nI_pos (by omega)) (nI_clamp (by omega)) (by show len * 8 ≤ _; omega) (Nat.le_of_ble_eq_true rfl) (by show 0 + len ≤ 15; omega) dX1_init_8 (fun q H hq hM hS => ?_)
  have hqa : q ≠ a := fun z => by rw [z, zm_up_s] at hq; cases hq
  have hq0 : M q = none := by rw [← hq, zm_up_n hqa]
  refine zm_putF hx hb hts hown hnm hE hM hS (zm_up_k (Ne.symm hqa) zm_up_s) fp_X1_9_1 rfl rfl (Nat.le_of_ble_eq_true rfl) dX1_init_10 (fun H locs hM hS => ?_)
  rw [zm_sw hqa, zm_uu] at hM
  refine zm_vret hx hb hr hlk hM hS ?_ ⟨Nat.le_refl _, by show 0 + len ≤ 15; omega⟩ dX1_init_13
  exact ⟨rfl, q, hqa, hq0, rfl⟩
set_option maxRecDepth 100000 in
set_option maxHeartbeats 4000000 in
theorem c_X0_init (l : Launch) (G : zm_G) (A : Nat → Prop) (M : zm_M) (a : Nat) (x1 x2 x3 x4 : Int32) (h0 : M a = some (.inr (0, [.int 0, .int 0, .int 0, .int 0]))) : Met l yX0_init (zm_W yX0_init cX0_init 5 none) (zm_rm 1 0 0) (zm_Pc G [.ref a, .int x1, .int x2, .int x3, .int x4] A M) (zm_Q G (fun r M' => r = none ∧ M' = zm_up M a (.inr (0, [.int x1, .int x2, .int x3, .int x4]))) A) 0 0 A := by
  refine zm_start (by decide) (Nat.le_of_ble_eq_true rfl) ?_
  intro p e s m below meth c hx hb hml hr hts hown hlk hnm hE hA ls hl hM hS
  have hl : lv_has ls 5 [(0, .ref a), (1, .int x1), (2, .int x2), (3, .int x3), (4, .int x4)] := hl
  refine lv_aload_n hx hb dX0_init_0 rfl (lv_at hl 0 rfl) ?_
  refine zm_objInit hx hb hml hts hown ml_X0_1 hl.1 (by decide) (Nat.le_of_ble_eq_true rfl) dX0_init_1 ?_
  refine lv_aload_n hx hb dX0_init_4 rfl (lv_at hl 0 rfl) ?_
  refine lv_iload_n hx hb dX0_init_5 rfl (lv_at hl 1 rfl) ?_
  refine zm_putF hx hb hts hown hnm hE hM hS h0 fp_X0_7_0 rfl rfl (Nat.le_of_ble_eq_true rfl) dX0_init_6 (fun H locs hM hS => ?_)
  refine lv_aload_n hx hb dX0_init_9 rfl (lv_at hl 0 rfl) ?_
  refine lv_iload_n hx hb dX0_init_10 rfl (lv_at hl 2 rfl) ?_
  refine zm_putF hx hb hts hown hnm hE hM hS zm_up_s fp_X0_13_0 rfl rfl (Nat.le_of_ble_eq_true rfl) dX0_init_11 (fun H locs hM hS => ?_)
  rw [zm_uu] at hM
  refine lv_aload_n hx hb dX0_init_14 rfl (lv_at hl 0 rfl) ?_
  refine lv_iload_n hx hb dX0_init_15 rfl (lv_at hl 3 rfl) ?_
  refine zm_putF hx hb hts hown hnm hE hM hS zm_up_s fp_X0_16_0 rfl rfl (Nat.le_of_ble_eq_true rfl) dX0_init_16 (fun H locs hM hS => ?_)
  rw [zm_uu] at hM
  refine lv_aload_n hx hb dX0_init_19 rfl (lv_at hl 0 rfl) ?_
  refine lv_iload hx hb dX0_init_20 (lv_at hl 4 rfl) ?_
  refine zm_putF hx hb hts hown hnm hE hM hS zm_up_s fp_X0_19_0 rfl rfl (Nat.le_of_ble_eq_true rfl) dX0_init_22 (fun H locs hM hS => ?_)
  rw [zm_uu] at hM
  refine zm_vret hx hb hr hlk hM hS ?_ ⟨Nat.le_refl _, Nat.le_refl _⟩ dX0_init_25
  exact ⟨rfl, rfl⟩
end
section
set_option maxRecDepth 100000 in
set_option maxHeartbeats 4000000 in
theorem c_X5_newProp (l : Launch) (G : zm_G) (A : Nat → Prop) (M : zm_M) (x : Int32) (k n : Nat) (hk : k < 16) (hn : n ≤ 100) (hn5 : isPc k = false → n ≤ 5) : Met l yX5_newProp (zm_W yX5_newProp cX5_newProp 3 (some (.object "PropStore$Prop"))) (zm_rm 3 2 18) (zm_Pc G [.int x, .int (nI k), .int (nI n)] A M) (zm_Q G (fun r M' => ∃ q, r = some (va_rf (some q)) ∧ M q = none ∧ ((isPc k = true ∧ M' = zm_up M q (.inr (2, [.int x, .int (nI k), .int (nI n), .int 0]))) ∨ (isRw k = true ∧ ∃ qa, qa ≠ q ∧ M qa = none ∧ M' = zm_up (zm_up M qa (zm_R G n (fun _ => none))) q (.inr (3, [.int x, .int (nI k), .ref qa]))) ∨ (k < 4 ∧ ∃ qa, qa ≠ q ∧ M qa = none ∧ M' = zm_up (zm_up M qa (zm_J G (if k = 3 then 3 * n else n) (fun _ => 0))) q (.inr (1, [.int x, .int (nI k), .ref qa]))))) A) 2 18 A := by
  refine zm_start (by decide) (Nat.le_of_ble_eq_true rfl) ?_
  intro p e s m below meth c hx hb hml hr hts hown hlk hnm hE hA ls hl hM hS
  have hl : lv_has ls 3 [(0, .int x), (1, .int (nI k)), (2, .int (nI n))] := hl
  refine lv_iload_n hx hb dX5_newProp_0 rfl (lv_at hl 1 rfl) ?_
  refine zm_callS (As := [.int (nI k)]) (rest := []) hx hb hml hts hown hE hA hM hS (c_X5_isPiece l G A _ (nI k)) cd_X5_isPiece ml_X5_149 rfl rfl hl.1 (Nat.le_of_ble_eq_true rfl) ⟨Nat.le_of_ble_eq_true rfl, Nat.le_of_ble_eq_true rfl⟩ ⟨Nat.le_of_ble_eq_true rfl, Nat.le_of_ble_eq_true rfl⟩ dX5_newProp_1 ?_
  rintro r M1 H locs ⟨rfl, e1⟩ hM hS
  rw [e1] at hM
  clear e1 M1
  refine W.eq (g2 := F0 m 4 ls [.int (bI (zbt 4 7 (nI k)))]) rfl ?_
  refine lv_if_eq (tgt := 18) hx hb dX5_newProp_4 (by decide) (fun c4 => ?_) (fun c4 => ?_)
  · rw [zbt_pc k hk, bI_0] at c4
    have hn5 := hn5 c4
    refine lv_iload_n hx hb dX5_newProp_18 rfl (lv_at hl 1 rfl) ?_
    refine zm_callS (As := [.int (nI k)]) (rest := []) hx hb hml hts hown hE hA hM hS (c_X5_isRow l G A _ (nI k)) cd_X5_isRow ml_X5_155 rfl rfl hl.1 (Nat.le_of_ble_eq_true rfl) ⟨Nat.le_of_ble_eq_true rfl, Nat.le_of_ble_eq_true rfl⟩ ⟨Nat.le_of_ble_eq_true rfl, Nat.le_of_ble_eq_true rfl⟩ dX5_newProp_19 ?_
    rintro r M1 H locs ⟨rfl, e1⟩ hM hS
    rw [e1] at hM
    clear e1 M1
    refine W.eq (g2 := F0 m 22 ls [.int (bI (zbt 8 15 (nI k)))]) rfl ?_
    refine lv_if_eq (tgt := 36) hx hb dX5_newProp_22 (by decide) (fun c22 => ?_) (fun c22 => ?_)
    · rw [zbt_rw k (by omega), bI_0] at c22
      have hk4 : k < 4 := by simp only [isRw, isPc, Bool.and_eq_false_iff, decide_eq_false_iff_not] at c4 c22; omega
      refine zm_new (fs := [.int 0, .int 0, .null]) hx hb hts hown hE hA hM hS 1 rfl inlX1 tyX1 tyX1_ok clk_X5_43 in_X1.1 in_X1.2 (fun j hj => by rcases (show j = 0 ∨ j = 1 ∨ j = 2 by omega) with rfl | rfl | rfl <;> rfl) (Nat.le_of_ble_eq_true rfl) (Nat.le_of_ble_eq_true rfl) dX5_newProp_36 (fun q H hq hM hS => ?_)
      refine lv_dup hx hb dX5_newProp_39 rfl ?_
      refine lv_iload_n hx hb dX5_newProp_40 rfl (lv_at hl 0 rfl) ?_
      refine lv_iload_n hx hb dX5_newProp_41 rfl (lv_at hl 1 rfl) ?_
      refine lv_iload_n hx hb dX5_newProp_42 rfl (lv_at hl 1 rfl) ?_
      refine lv_iconst (v := 3) hx hb dX5_newProp_43 (by decide) ?_
      refine lv_icmp_ne (tgt := 53) hx hb dX5_newProp_44 (by decide) (fun c44 => ?_) (fun c44 => ?_)
      · have h3 : ¬ k = 3 := fun z => c44 (by rw [z]; rfl)
        refine lv_iload_n hx hb dX5_newProp_53 rfl (lv_at hl 2 rfl) ?_
        refine zm_callI (As := [.int x, .int (nI k), .int (nI n)]) (rest := [.ref q]) hx hb hml hts hown hE hA hM hS (c_X1_init l G A _ q n x (nI k) (by omega) zm_up_s) cd_X1_init ml_X5_159 rfl rfl hl.1 (Nat.le_of_ble_eq_true rfl) ⟨Nat.le_of_ble_eq_true rfl, Nat.le_of_ble_eq_true rfl⟩ ⟨Nat.le_of_ble_eq_true rfl, Nat.le_of_ble_eq_true rfl⟩ dX5_newProp_54 ?_
        rintro r M1 H locs ⟨rfl, qa, hne, hqa, rfl⟩ hM hS
        rw [zm_sw hne, zm_uu] at hM
        have hqa0 : M qa = none := by rw [← hqa, zm_up_n hne]
        refine W.eq (g2 := F0 m 57 ls [.ref q]) rfl ?_
        refine zm_aret (r := some q) hx hb hr hlk hM hS ?_ ⟨Nat.le_of_ble_eq_true rfl, Nat.le_of_ble_eq_true rfl⟩ dX5_newProp_57
        exact ⟨q, rfl, hq, Or.inr (Or.inr ⟨hk4, qa, hne, hqa0, by first | rw [if_pos h3] | rw [if_neg h3]⟩)⟩
      · have h3 : k = 3 := (nI_eq (b := 3) (by omega) (by omega)).mp c44
        refine lv_iload_n hx hb dX5_newProp_47 rfl (lv_at hl 2 rfl) ?_
        refine lv_iconst (v := 3) hx hb dX5_newProp_48 (by decide) ?_
        refine lv_imul hx hb dX5_newProp_49 ?_
        refine zt_eq (v' := .int (nI (3 * n))) (congrArg Value.int ((pk_mul n 3).trans (by rw [Nat.mul_comm]))) ?_
        refine lv_goto (tgt := 54) hx hb dX5_newProp_50 (by decide) ?_
        refine zm_callI (As := [.int x, .int (nI k), .int (nI (3 * n))]) (rest := [.ref q]) hx hb hml hts hown hE hA hM hS (c_X1_init l G A _ q (3 * n) x (nI k) (by omega) zm_up_s) cd_X1_init ml_X5_159 rfl rfl hl.1 (Nat.le_of_ble_eq_true rfl) ⟨Nat.le_of_ble_eq_true rfl, Nat.le_of_ble_eq_true rfl⟩ ⟨Nat.le_of_ble_eq_true rfl, Nat.le_of_ble_eq_true rfl⟩ dX5_newProp_54 ?_
        rintro r M1 H locs ⟨rfl, qa, hne, hqa, rfl⟩ hM hS
        rw [zm_sw hne, zm_uu] at hM
        have hqa0 : M qa = none := by rw [← hqa, zm_up_n hne]
        refine W.eq (g2 := F0 m 57 ls [.ref q]) rfl ?_
        refine zm_aret (r := some q) hx hb hr hlk hM hS ?_ ⟨Nat.le_of_ble_eq_true rfl, Nat.le_of_ble_eq_true rfl⟩ dX5_newProp_57
        exact ⟨q, rfl, hq, Or.inr (Or.inr ⟨hk4, qa, hne, hqa0, by first | rw [if_pos h3] | rw [if_neg h3]⟩)⟩
    · rw [zbt_rw k (by omega), bI_n] at c22
      refine zm_new (fs := [.int 0, .int 0, .null]) hx hb hts hown hE hA hM hS 3 rfl inlX4 tyX4 tyX4_ok clk_X5_107 in_X4.1 in_X4.2 (fun j hj => by rcases (show j = 0 ∨ j = 1 ∨ j = 2 by omega) with rfl | rfl | rfl <;> rfl) (Nat.le_of_ble_eq_true rfl) (Nat.le_of_ble_eq_true rfl) dX5_newProp_25 (fun q H hq hM hS => ?_)
      refine lv_dup hx hb dX5_newProp_28 rfl ?_
      refine lv_iload_n hx hb dX5_newProp_29 rfl (lv_at hl 0 rfl) ?_
      refine lv_iload_n hx hb dX5_newProp_30 rfl (lv_at hl 1 rfl) ?_
      refine lv_iload_n hx hb dX5_newProp_31 rfl (lv_at hl 2 rfl) ?_
      refine zm_callI (As := [.int x, .int (nI k), .int (nI n)]) (rest := [.ref q]) hx hb hml hts hown hE hA hM hS (c_X4_init l G A _ q n x (nI k) (by omega) zm_up_s) cd_X4_init ml_X5_158 rfl rfl hl.1 (Nat.le_of_ble_eq_true rfl) ⟨Nat.le_of_ble_eq_true rfl, Nat.le_of_ble_eq_true rfl⟩ ⟨Nat.le_of_ble_eq_true rfl, Nat.le_of_ble_eq_true rfl⟩ dX5_newProp_32 ?_
      rintro r M1 H locs ⟨rfl, qa, hne, hqa, rfl⟩ hM hS
      rw [zm_sw hne, zm_uu] at hM
      have hqa0 : M qa = none := by rw [← hqa, zm_up_n hne]
      refine W.eq (g2 := F0 m 35 ls [.ref q]) rfl ?_
      refine zm_aret (r := some q) hx hb hr hlk hM hS ?_ ⟨Nat.le_of_ble_eq_true rfl, Nat.le_of_ble_eq_true rfl⟩ dX5_newProp_35
      exact ⟨q, rfl, hq, Or.inr (Or.inl ⟨c22, qa, hne, hqa0, rfl⟩)⟩
  · rw [zbt_pc k hk, bI_n] at c4
    refine zm_new (fs := [.int 0, .int 0, .int 0, .int 0]) hx hb hts hown hE hA hM hS 2 rfl inlX2 tyX2 tyX2_ok clk_X5_99 in_X2.1 in_X2.2 (fun j hj => by rcases (show j = 0 ∨ j = 1 ∨ j = 2 ∨ j = 3 by omega) with rfl | rfl | rfl | rfl <;> rfl) (Nat.le_of_ble_eq_true rfl) (Nat.le_of_ble_eq_true rfl) dX5_newProp_7 (fun q H hq hM hS => ?_)
    refine lv_dup hx hb dX5_newProp_10 rfl ?_
    refine lv_iload_n hx hb dX5_newProp_11 rfl (lv_at hl 0 rfl) ?_
    refine lv_iload_n hx hb dX5_newProp_12 rfl (lv_at hl 1 rfl) ?_
    refine lv_iload_n hx hb dX5_newProp_13 rfl (lv_at hl 2 rfl) ?_
    refine zm_callI (As := [.int x, .int (nI k), .int (nI n)]) (rest := [.ref q]) hx hb hml hts hown hE hA hM hS (c_X2_init l G A _ q x (nI k) (nI n) zm_up_s) cd_X2_init ml_X5_152 rfl rfl hl.1 (Nat.le_of_ble_eq_true rfl) ⟨Nat.le_of_ble_eq_true rfl, Nat.le_of_ble_eq_true rfl⟩ ⟨Nat.le_of_ble_eq_true rfl, Nat.le_of_ble_eq_true rfl⟩ dX5_newProp_14 ?_
    rintro r M1 H locs ⟨rfl, rfl⟩ hM hS
    rw [zm_uu] at hM
    refine W.eq (g2 := F0 m 17 ls [.ref q]) rfl ?_
    refine zm_aret (r := some q) hx hb hr hlk hM hS ?_ ⟨Nat.le_of_ble_eq_true rfl, Nat.le_of_ble_eq_true rfl⟩ dX5_newProp_17
    exact ⟨q, rfl, hq, Or.inl ⟨c4, rfl⟩⟩
theorem prop_bad1 {S : zS} {k n : Int32} (h : ix 16 k = none) : sp_prop S k n = (-2, S) := by unfold sp_prop; rw [h]
theorem prop_bad2 {S : zS} {k n : Int32} {kk : Nat} (h : ix 16 k = some kk) (h2 : ix (if isPc kk = true then 101 else 6) n = none) : sp_prop S k n = (-2, S) := by unfold sp_prop; simp only [h, h2]
theorem prop_full {S : zS} {k n : Int32} {kk nn : Nat} (h : ix 16 k = some kk) (h2 : ix (if isPc kk = true then 101 else 6) n = some nn) (h3 : s_np S = 50) : sp_prop S k n = (-3, S) := by unfold sp_prop; simp only [h, h2, if_pos h3]
theorem prop_ok {S : zS} {k n : Int32} {kk nn : Nat} (h : ix 16 k = some kk) (h2 : ix (if isPc kk = true then 101 else 6) n = some nn) (h3 : ¬ s_np S = 50) : sp_prop S k n = (nI (s_np S), addS S kk nn) := by unfold sp_prop; simp only [h, h2, if_neg h3]
theorem most_n {kk : Nat} {n : Int32} : n ≤ nI (if isPc kk = true then 100 else 5) ↔ ¬ nI (if isPc kk = true then 101 else 6) ≤ n := by
  have e1 : (nI (if isPc kk = true then 100 else 5)).toInt + 1 = (nI (if isPc kk = true then 101 else 6)).toInt := by split <;> decide
  rw [← le_pred e1, Int32.not_lt]
theorem objC_add {B : zB} {S : zS} (hI : zInv S) (q qa kk nn : Nat) : objC (addB B S q qa) (addS S kk nn) = [.ref B.1.2.1, .int (nI (s_np S) + 1), .ref B.1.2.2.1, va_rf (oA B (s_hd S)), .ref B.1.2.2.2, .int (nI (s_nc S)), .long (s_po S), .int (s_wy S), .int (s_at S), .int (s_of S)] := by
  rw [nI_1]
  show [Value.ref B.1.2.1, Value.int (nI (s_np S + 1)), Value.ref B.1.2.2.1, va_rf (oA (addB B S q qa) (s_hd S)), _, _, _, _, _, _] = _
  rw [oA_add hI.2.2.2.2.2.1]
theorem nI_p1 (n : Nat) : nI n + 1 - 1 = nI n := by rw [nI_1, nI_pred]
theorem pcell_new {B : zB} {S : zS} {q qa kk nn : Nat} : pcell (addB B S q qa) (addS S kk nn) (s_np S) = if isPc kk = true then .inr (2, [.int (nI (s_np S)), .int (nI kk), .int (nI nn), .int 0]) else if isRw kk = true then .inr (3, [.int (nI (s_np S)), .int (nI kk), .ref qa]) else .inr (1, [.int (nI (s_np S)), .int (nI kk), .ref qa]) := by
  unfold pcell
  dsimp only [addB, addS, s_kd, s_sz, s_wr]
  simp only [va_up_self, pk_us]
set_option maxRecDepth 100000 in
set_option maxHeartbeats 4000000 in
theorem c_X5_prop (l : Launch) (G : zm_G) (A : Nat → Prop) (B : zB) (S : zS) (M : zm_M) (k n : Int32) (hI : zInv S) (hR : RepC G B S M) : Met l yX5_prop (zm_W yX5_prop cX5_prop 3 (some .int)) (zm_rm 4 2 18) (zm_Pc G [.ref B.1.1, .int k, .int n] A M) (zm_Q G (fun r M' => ∃ B', B'.1 = B.1 ∧ r = some (.int (sp_prop S k n).1) ∧ RepC G B' (sp_prop S k n).2 M') A) 2 18 A := by
  refine zm_start (by decide) (Nat.le_of_ble_eq_true rfl) ?_
  intro p e s m below meth c hx hb hml hr hts hown hlk hnm hE hA ls hl hM hS
  have hl : lv_has ls 3 [(0, .ref B.1.1), (1, .int k), (2, .int n)] := hl
  refine lv_iload_n hx hb dX5_prop_0 rfl (lv_at hl 1 rfl) ?_
  refine lv_if_lt (tgt := 22) hx hb dX5_prop_1 (by decide) (fun c1 => ?_) (fun c1 => ?_)
  · refine lv_bipush (v := (-2)) hx hb dX5_prop_22 (by decide) ?_
    refine zm_iret hx hb hr hlk hM hS ?_ ⟨Nat.le_of_ble_eq_true rfl, Nat.le_of_ble_eq_true rfl⟩ dX5_prop_24
    first | exact ⟨B, rfl, by rw [prop_bad1 (ix_lt c1)], by rw [prop_bad1 (ix_lt c1)]; exact hR⟩ | exact ⟨B, rfl, by rw [prop_bad1 (ix_ge ((lt_pred (z := 16) (by decide)).mp c7))], by rw [prop_bad1 (ix_ge ((lt_pred (z := 16) (by decide)).mp c7))]; exact hR⟩ | exact ⟨B, rfl, by rw [prop_bad2 hik (ix_lt c11)], by rw [prop_bad2 hik (ix_lt c11)]; exact hR⟩ | exact ⟨B, rfl, by rw [prop_bad2 hik (ix_ge (Classical.not_not.mp (fun z => c19 (most_n.mpr z))))], by rw [prop_bad2 hik (ix_ge (Classical.not_not.mp (fun z => c19 (most_n.mpr z))))]; exact hR⟩
  · refine lv_iload_n hx hb dX5_prop_4 rfl (lv_at hl 1 rfl) ?_
    refine lv_bipush (v := 15) hx hb dX5_prop_5 (by decide) ?_
    refine lv_icmp_gt (tgt := 22) hx hb dX5_prop_7 (by decide) (fun c7 => ?_) (fun c7 => ?_)
    · refine lv_bipush (v := (-2)) hx hb dX5_prop_22 (by decide) ?_
      refine zm_iret hx hb hr hlk hM hS ?_ ⟨Nat.le_of_ble_eq_true rfl, Nat.le_of_ble_eq_true rfl⟩ dX5_prop_24
      first | exact ⟨B, rfl, by rw [prop_bad1 (ix_lt c1)], by rw [prop_bad1 (ix_lt c1)]; exact hR⟩ | exact ⟨B, rfl, by rw [prop_bad1 (ix_ge ((lt_pred (z := 16) (by decide)).mp c7))], by rw [prop_bad1 (ix_ge ((lt_pred (z := 16) (by decide)).mp c7))]; exact hR⟩ | exact ⟨B, rfl, by rw [prop_bad2 hik (ix_lt c11)], by rw [prop_bad2 hik (ix_lt c11)]; exact hR⟩ | exact ⟨B, rfl, by rw [prop_bad2 hik (ix_ge (Classical.not_not.mp (fun z => c19 (most_n.mpr z))))], by rw [prop_bad2 hik (ix_ge (Classical.not_not.mp (fun z => c19 (most_n.mpr z))))]; exact hR⟩
    · obtain ⟨kk, hkk, rfl, hik⟩ := ix_in (n := 16) (by decide) c1 ((le_pred (z := 16) (by decide)).mp c7)
      refine lv_iload_n hx hb dX5_prop_10 rfl (lv_at hl 2 rfl) ?_
      refine lv_if_lt (tgt := 22) hx hb dX5_prop_11 (by decide) (fun c11 => ?_) (fun c11 => ?_)
      · refine lv_bipush (v := (-2)) hx hb dX5_prop_22 (by decide) ?_
        refine zm_iret hx hb hr hlk hM hS ?_ ⟨Nat.le_of_ble_eq_true rfl, Nat.le_of_ble_eq_true rfl⟩ dX5_prop_24
        first | exact ⟨B, rfl, by rw [prop_bad1 (ix_lt c1)], by rw [prop_bad1 (ix_lt c1)]; exact hR⟩ | exact ⟨B, rfl, by rw [prop_bad1 (ix_ge ((lt_pred (z := 16) (by decide)).mp c7))], by rw [prop_bad1 (ix_ge ((lt_pred (z := 16) (by decide)).mp c7))]; exact hR⟩ | exact ⟨B, rfl, by rw [prop_bad2 hik (ix_lt c11)], by rw [prop_bad2 hik (ix_lt c11)]; exact hR⟩ | exact ⟨B, rfl, by rw [prop_bad2 hik (ix_ge (Classical.not_not.mp (fun z => c19 (most_n.mpr z))))], by rw [prop_bad2 hik (ix_ge (Classical.not_not.mp (fun z => c19 (most_n.mpr z))))]; exact hR⟩
      · refine lv_iload_n hx hb dX5_prop_14 rfl (lv_at hl 2 rfl) ?_
        refine lv_iload_n hx hb dX5_prop_15 rfl (lv_at hl 1 rfl) ?_
        refine zm_callS (As := [.int (nI kk)]) (rest := [.int n]) hx hb hml hts hown hE hA hM hS (c_X5_mostOf l G A _ kk hkk) cd_X5_mostOf ml_X5_28 rfl rfl hl.1 (Nat.le_of_ble_eq_true rfl) ⟨Nat.le_of_ble_eq_true rfl, Nat.le_of_ble_eq_true rfl⟩ ⟨Nat.le_of_ble_eq_true rfl, Nat.le_of_ble_eq_true rfl⟩ dX5_prop_16 ?_
        rintro r M1 H locs ⟨rfl, e1⟩ hM hS
        rw [e1] at hM
        clear e1 M1
        refine W.eq (g2 := F0 m 19 ls [.int (nI (if isPc kk = true then 100 else 5)), .int n]) rfl ?_
        refine lv_icmp_le (tgt := 25) hx hb dX5_prop_19 (by decide) (fun c19 => ?_) (fun c19 => ?_)
        · obtain ⟨nn, hnn, rfl, hin⟩ := ix_in (n := if isPc kk = true then 101 else 6) (by split <;> decide) c11 (most_n.mp c19)
          have h50 := hI.1
          refine lv_aload_n hx hb dX5_prop_25 rfl (lv_at hl 0 rfl) ?_
          refine zm_get hx hb hts hown hE hM hR.1 fl_X5_32_4 rfl dX5_prop_26 ?_
          refine lv_bipush (v := 50) hx hb dX5_prop_29 (by decide) ?_
          refine lv_icmp_lt (tgt := 37) hx hb dX5_prop_31 (by decide) (fun c31 => ?_) (fun c31 => ?_)
          · have hnp : ¬ s_np S = 50 := by rw [show (50 : Int32) = nI 50 from rfl, nI_ltI (by omega) (by omega)] at c31; omega
            refine lv_aload_n hx hb dX5_prop_37 rfl (lv_at hl 0 rfl) ?_
            refine zm_get hx hb hts hown hE hM hR.1 fl_X5_11_4 rfl dX5_prop_38 ?_
            refine lv_aload_n hx hb dX5_prop_41 rfl (lv_at hl 0 rfl) ?_
            refine zm_get hx hb hts hown hE hM hR.1 fl_X5_32_4 rfl dX5_prop_42 ?_
            refine lv_aload_n hx hb dX5_prop_45 rfl (lv_at hl 0 rfl) ?_
            refine zm_get hx hb hts hown hE hM hR.1 fl_X5_32_4 rfl dX5_prop_46 ?_
            refine lv_iload_n hx hb dX5_prop_49 rfl (lv_at hl 1 rfl) ?_
            refine lv_iload_n hx hb dX5_prop_50 rfl (lv_at hl 2 rfl) ?_
            obtain ⟨f1, h1, e1⟩ := hR.2.1
            have h0 := hR.1
            refine zm_callS (As := [.int (nI (s_np S)), .int (nI kk), .int (nI nn)]) (rest := [.int (nI (s_np S)), .ref B.1.2.1]) hx hb hml hts hown hE hA hM hS (c_X5_newProp l G A _ (nI (s_np S)) kk nn hkk (by split at hnn <;> omega) (fun z => by rw [if_neg (by rw [z]; decide)] at hnn; omega)) cd_X5_newProp ml_X5_35 rfl rfl hl.1 (Nat.le_of_ble_eq_true rfl) ⟨Nat.le_of_ble_eq_true rfl, Nat.le_of_ble_eq_true rfl⟩ ⟨Nat.le_of_ble_eq_true rfl, Nat.le_of_ble_eq_true rfl⟩ dX5_prop_51 ?_
            rintro r M1 H locs ⟨q, rfl, hq, ⟨hk, rfl⟩ | ⟨hk, qa, hne, hqa, rfl⟩ | ⟨hk, qa, hne, hqa, rfl⟩⟩ hM hS
            · have hvq := @zm_up_s M q (.inr (2, [.int (nI (s_np S)), .int (nI kk), .int (nI nn), .int 0]))
              have h1q := zm_up_k (e := .inr (2, [.int (nI (s_np S)), .int (nI kk), .int (nI nn), .int 0])) (zm_neN h1 hq) h1
              have h0q := zm_up_k (e := .inr (2, [.int (nI (s_np S)), .int (nI kk), .int (nI nn), .int 0])) (zm_neN h0 hq) h0
              refine W.eq (g2 := F0 m 54 ls [.ref q, .int (nI (s_np S)), .ref B.1.2.1]) rfl ?_
              refine zm_astP hx hb hE hM hS h1q hvq (Or.inr (Or.inl rfl)) (vp_in_nI (show s_np S < 50 by omega) (by decide)) dX5_prop_54 (fun H locs hM hS => ?_)
              rw [nI_clamp (by omega)] at hM
              have h0r := zm_up_k (e := zm_R G 50 (va_up f1 (s_np S) (some q))) (zm_ne h0q h1q (by simp)) h0q
              refine lv_aload_n hx hb dX5_prop_55 rfl (lv_at hl 0 rfl) ?_
              refine lv_dup hx hb dX5_prop_56 rfl ?_
              refine zm_get hx hb hts hown hE hM h0r fl_X5_32_4 rfl dX5_prop_57 ?_
              refine lv_iconst (v := 1) hx hb dX5_prop_60 (by decide) ?_
              refine lv_iadd hx hb dX5_prop_61 ?_
              refine zm_put hx hb hts hown hE hM hS h0r fp_X5_32_4 rfl rfl (Nat.le_of_ble_eq_true rfl) dX5_prop_62 (fun H locs hM hS => ?_)
              refine lv_aload_n hx hb dX5_prop_65 rfl (lv_at hl 0 rfl) ?_
              refine zm_get hx hb hts hown hE hM zm_up_s fl_X5_32_4 rfl dX5_prop_66 ?_
              refine lv_iconst (v := 1) hx hb dX5_prop_69 (by decide) ?_
              refine lv_isub hx hb dX5_prop_70 ?_
              refine zm_iret hx hb hr hlk hM hS ?_ ⟨Nat.le_of_ble_eq_true rfl, Nat.le_of_ble_eq_true rfl⟩ dX5_prop_71
              rw [prop_ok hik hin hnp]
              refine ⟨addB B S q 0, rfl, by rw [nI_p1], hR.add (f1 := f1) hI e1 (fun z => by rw [hk] at z; cases z) ?_ ?_ ?_ ?_ ?_ ?_⟩
              · rw [objC_add hI]; exact zm_up_s
              · exact zm_up_k (zm_ne h1q h0q (by simp)) zm_up_s
              · have e := pcell_new (B := B) (S := S) (q := q) (qa := 0) (kk := kk) (nn := nn); rw [if_pos hk] at e; rw [e]; exact zm_up_k (zm_neN h0 hq).symm (zm_up_k (zm_neN h1 hq).symm hvq)
              · intro z; rw [pc_rw hk] at z; cases z
              · intro z; exact absurd (pc3 hk) (by omega)
              · intro y e hy n0 n1; exact zm_up_k n0 (zm_up_k n1 (zm_up_k (zm_neN hy hq) hy))
            · have hvq := @zm_up_s (zm_up M qa (zm_R G nn (fun _ => none))) q (.inr (3, [.int (nI (s_np S)), .int (nI kk), .ref qa]))
              have h1q := zm_up_k (e := .inr (3, [.int (nI (s_np S)), .int (nI kk), .ref qa])) (zm_neN h1 hq) (zm_up_k (e := (zm_R G nn (fun _ => none))) (zm_neN h1 hqa) h1)
              have h0q := zm_up_k (e := .inr (3, [.int (nI (s_np S)), .int (nI kk), .ref qa])) (zm_neN h0 hq) (zm_up_k (e := (zm_R G nn (fun _ => none))) (zm_neN h0 hqa) h0)
              refine W.eq (g2 := F0 m 54 ls [.ref q, .int (nI (s_np S)), .ref B.1.2.1]) rfl ?_
              refine zm_astP hx hb hE hM hS h1q hvq (Or.inr (Or.inr rfl)) (vp_in_nI (show s_np S < 50 by omega) (by decide)) dX5_prop_54 (fun H locs hM hS => ?_)
              rw [nI_clamp (by omega)] at hM
              have h0r := zm_up_k (e := zm_R G 50 (va_up f1 (s_np S) (some q))) (zm_ne h0q h1q (by simp)) h0q
              refine lv_aload_n hx hb dX5_prop_55 rfl (lv_at hl 0 rfl) ?_
              refine lv_dup hx hb dX5_prop_56 rfl ?_
              refine zm_get hx hb hts hown hE hM h0r fl_X5_32_4 rfl dX5_prop_57 ?_
              refine lv_iconst (v := 1) hx hb dX5_prop_60 (by decide) ?_
              refine lv_iadd hx hb dX5_prop_61 ?_
              refine zm_put hx hb hts hown hE hM hS h0r fp_X5_32_4 rfl rfl (Nat.le_of_ble_eq_true rfl) dX5_prop_62 (fun H locs hM hS => ?_)
              refine lv_aload_n hx hb dX5_prop_65 rfl (lv_at hl 0 rfl) ?_
              refine zm_get hx hb hts hown hE hM zm_up_s fl_X5_32_4 rfl dX5_prop_66 ?_
              refine lv_iconst (v := 1) hx hb dX5_prop_69 (by decide) ?_
              refine lv_isub hx hb dX5_prop_70 ?_
              refine zm_iret hx hb hr hlk hM hS ?_ ⟨Nat.le_of_ble_eq_true rfl, Nat.le_of_ble_eq_true rfl⟩ dX5_prop_71
              rw [prop_ok hik hin hnp]
              refine ⟨addB B S q qa, rfl, by rw [nI_p1], hR.add (f1 := f1) hI e1 (fun _ => hqa) ?_ ?_ ?_ ?_ ?_ ?_⟩
              · rw [objC_add hI]; exact zm_up_s
              · exact zm_up_k (zm_ne h1q h0q (by simp)) zm_up_s
              · have e := pcell_new (B := B) (S := S) (q := q) (qa := qa) (kk := kk) (nn := nn); rw [if_neg (by rw [rw_pc hk]; decide), if_pos hk] at e; rw [e]; exact zm_up_k (zm_neN h0 hq).symm (zm_up_k (zm_neN h1 hq).symm hvq)
              · intro _; exact zm_up_k (zm_neN h0 hqa).symm (zm_up_k (zm_neN h1 hqa).symm (zm_up_k hne zm_up_s))
              · intro z; exact absurd (rw3 hk) (by omega)
              · intro y e hy n0 n1; exact zm_up_k n0 (zm_up_k n1 (zm_up_k (zm_neN hy hq) (zm_up_k (zm_neN hy hqa) hy)))
            · have hvq := @zm_up_s (zm_up M qa (zm_J G (if kk = 3 then 3 * nn else nn) (fun _ => 0))) q (.inr (1, [.int (nI (s_np S)), .int (nI kk), .ref qa]))
              have h1q := zm_up_k (e := .inr (1, [.int (nI (s_np S)), .int (nI kk), .ref qa])) (zm_neN h1 hq) (zm_up_k (e := (zm_J G (if kk = 3 then 3 * nn else nn) (fun _ => 0))) (zm_neN h1 hqa) h1)
              have h0q := zm_up_k (e := .inr (1, [.int (nI (s_np S)), .int (nI kk), .ref qa])) (zm_neN h0 hq) (zm_up_k (e := (zm_J G (if kk = 3 then 3 * nn else nn) (fun _ => 0))) (zm_neN h0 hqa) h0)
              refine W.eq (g2 := F0 m 54 ls [.ref q, .int (nI (s_np S)), .ref B.1.2.1]) rfl ?_
              refine zm_astP hx hb hE hM hS h1q hvq (Or.inl rfl) (vp_in_nI (show s_np S < 50 by omega) (by decide)) dX5_prop_54 (fun H locs hM hS => ?_)
              rw [nI_clamp (by omega)] at hM
              have h0r := zm_up_k (e := zm_R G 50 (va_up f1 (s_np S) (some q))) (zm_ne h0q h1q (by simp)) h0q
              refine lv_aload_n hx hb dX5_prop_55 rfl (lv_at hl 0 rfl) ?_
              refine lv_dup hx hb dX5_prop_56 rfl ?_
              refine zm_get hx hb hts hown hE hM h0r fl_X5_32_4 rfl dX5_prop_57 ?_
              refine lv_iconst (v := 1) hx hb dX5_prop_60 (by decide) ?_
              refine lv_iadd hx hb dX5_prop_61 ?_
              refine zm_put hx hb hts hown hE hM hS h0r fp_X5_32_4 rfl rfl (Nat.le_of_ble_eq_true rfl) dX5_prop_62 (fun H locs hM hS => ?_)
              refine lv_aload_n hx hb dX5_prop_65 rfl (lv_at hl 0 rfl) ?_
              refine zm_get hx hb hts hown hE hM zm_up_s fl_X5_32_4 rfl dX5_prop_66 ?_
              refine lv_iconst (v := 1) hx hb dX5_prop_69 (by decide) ?_
              refine lv_isub hx hb dX5_prop_70 ?_
              refine zm_iret hx hb hr hlk hM hS ?_ ⟨Nat.le_of_ble_eq_true rfl, Nat.le_of_ble_eq_true rfl⟩ dX5_prop_71
              rw [prop_ok hik hin hnp]
              refine ⟨addB B S q qa, rfl, by rw [nI_p1], hR.add (f1 := f1) hI e1 (fun _ => hqa) ?_ ?_ ?_ ?_ ?_ ?_⟩
              · rw [objC_add hI]; exact zm_up_s
              · exact zm_up_k (zm_ne h1q h0q (by simp)) zm_up_s
              · have e := pcell_new (B := B) (S := S) (q := q) (qa := qa) (kk := kk) (nn := nn); rw [if_neg (by rw [lt4_pc hk]; decide), if_neg (by rw [lt4_rw hk]; decide)] at e; rw [e]; exact zm_up_k (zm_neN h0 hq).symm (zm_up_k (zm_neN h1 hq).symm hvq)
              · intro z; rw [lt4_rw hk] at z; cases z
              · intro _; exact zm_up_k (zm_neN h0 hqa).symm (zm_up_k (zm_neN h1 hqa).symm (zm_up_k hne zm_up_s))
              · intro y e hy n0 n1; exact zm_up_k n0 (zm_up_k n1 (zm_up_k (zm_neN hy hq) (zm_up_k (zm_neN hy hqa) hy)))
          · refine lv_bipush (v := (-3)) hx hb dX5_prop_34 (by decide) ?_
            refine zm_iret hx hb hr hlk hM hS ?_ ⟨Nat.le_of_ble_eq_true rfl, Nat.le_of_ble_eq_true rfl⟩ dX5_prop_36
            have h3 : s_np S = 50 := by rw [show (50 : Int32) = nI 50 from rfl, nI_ltI (by omega) (by omega)] at c31; omega
            exact ⟨B, rfl, by rw [prop_full hik hin h3], by rw [prop_full hik hin h3]; exact hR⟩
        · refine lv_bipush (v := (-2)) hx hb dX5_prop_22 (by decide) ?_
          refine zm_iret hx hb hr hlk hM hS ?_ ⟨Nat.le_of_ble_eq_true rfl, Nat.le_of_ble_eq_true rfl⟩ dX5_prop_24
          first | exact ⟨B, rfl, by rw [prop_bad1 (ix_lt c1)], by rw [prop_bad1 (ix_lt c1)]; exact hR⟩ | exact ⟨B, rfl, by rw [prop_bad1 (ix_ge ((lt_pred (z := 16) (by decide)).mp c7))], by rw [prop_bad1 (ix_ge ((lt_pred (z := 16) (by decide)).mp c7))]; exact hR⟩ | exact ⟨B, rfl, by rw [prop_bad2 hik (ix_lt c11)], by rw [prop_bad2 hik (ix_lt c11)]; exact hR⟩ | exact ⟨B, rfl, by rw [prop_bad2 hik (ix_ge (Classical.not_not.mp (fun z => c19 (most_n.mpr z))))], by rw [prop_bad2 hik (ix_ge (Classical.not_not.mp (fun z => c19 (most_n.mpr z))))]; exact hR⟩
set_option maxRecDepth 20000 in
theorem av_tab : ∀ a, a < 6 → ∀ v, v < 17 → decide ((zm_tv 1 a >>> (nI v &&& 31)) &&& 1 = 1) = hasV a v := by decide +kernel
theorem cue_bad {S : zS} {a x v i : Int32} (h : ix 6 a = none ∨ ix 10 x = none ∨ ix 17 v = none ∨ ix 10 i = none) : sp_cue S a x v i = (-2, S) := by
  unfold sp_cue
  rcases h with h | h | h | h <;> rw [h]
  · cases ix 6 a <;> rfl
  · cases ix 6 a <;> cases ix 10 x <;> rfl
  · cases ix 6 a <;> cases ix 10 x <;> cases ix 17 v <;> rfl
theorem cue_has {S : zS} {a x v i : Int32} {aa xx vv ii : Nat} (h1 : ix 6 a = some aa) (h2 : ix 10 x = some xx) (h3 : ix 17 v = some vv) (h4 : ix 10 i = some ii) (h : hasV aa vv = false) : sp_cue S a x v i = (-2, S) := by unfold sp_cue; rw [h1, h2, h3, h4]; show (if hasV aa vv = false then _ else _) = _; rw [if_pos h]
theorem cue_full {S : zS} {a x v i : Int32} {aa xx vv ii : Nat} (h1 : ix 6 a = some aa) (h2 : ix 10 x = some xx) (h3 : ix 17 v = some vv) (h4 : ix 10 i = some ii) (h : hasV aa vv = true) (hn : s_nc S = 30) : sp_cue S a x v i = (-3, S) := by unfold sp_cue; rw [h1, h2, h3, h4]; show (if hasV aa vv = false then _ else _) = _; rw [if_neg (by rw [h]; decide), if_pos hn]
theorem cue_ok {S : zS} {a x v i : Int32} {aa xx vv ii : Nat} (h1 : ix 6 a = some aa) (h2 : ix 10 x = some xx) (h3 : ix 17 v = some vv) (h4 : ix 10 i = some ii) (h : hasV aa vv = true) (hn : ¬ s_nc S = 30) : sp_cue S a x v i = (nI (s_nc S), w_cu S (s_nc S + 1) (va_up (s_cu S) (s_nc S) (aa, xx, vv, ii))) := by unfold sp_cue; rw [h1, h2, h3, h4]; show (if hasV aa vv = false then _ else _) = _; rw [if_neg (by rw [h]; decide), if_neg hn]
theorem objC_addC {B : zB} {S : zS} (q : Nat) (t : Nat × Nat × Nat × Nat) : objC (addCB B S q) (w_cu S (s_nc S + 1) (va_up (s_cu S) (s_nc S) t)) = [.ref B.1.2.1, .int (nI (s_np S)), .ref B.1.2.2.1, va_rf (oA B (s_hd S)), .ref B.1.2.2.2, .int (nI (s_nc S) + 1), .long (s_po S), .int (s_wy S), .int (s_at S), .int (s_of S)] := by rw [nI_1]; rfl
set_option maxRecDepth 100000 in
set_option maxHeartbeats 4000000 in
theorem c_X5_cue (l : Launch) (G : zm_G) (A : Nat → Prop) (B : zB) (S : zS) (M : zm_M) (a x v i : Int32) (hI : zInv S) (hR : RepC G B S M) : Met l yX5_cue (zm_W yX5_cue cX5_cue 5 (some .int)) (zm_rm 2 1 4) (zm_Pc G [.ref B.1.1, .int a, .int x, .int v, .int i] A M) (zm_Q G (fun r M' => ∃ B', B'.1 = B.1 ∧ r = some (.int (sp_cue S a x v i).1) ∧ RepC G B' (sp_cue S a x v i).2 M') A) 1 4 A := by
  refine zm_start (by decide) (Nat.le_of_ble_eq_true rfl) ?_
  intro p e s m below meth c hx hb hml hr hts hown hlk hnm hE hA ls hl hM hS
  have hl : lv_has ls 5 [(0, .ref B.1.1), (1, .int a), (2, .int x), (3, .int v), (4, .int i)] := hl
  refine lv_iload_n hx hb dX5_cue_0 rfl (lv_at hl 1 rfl) ?_
  refine lv_if_lt (tgt := 31) hx hb dX5_cue_1 (by decide) (fun c1 => ?_) (fun c1 => ?_)
  · refine lv_bipush (v := (-2)) hx hb dX5_cue_31 (by decide) ?_
    refine zm_iret hx hb hr hlk hM hS ?_ ⟨Nat.le_of_ble_eq_true rfl, Nat.le_of_ble_eq_true rfl⟩ dX5_cue_33
    have hs : sp_cue S a x v i = (-2, S) := cue_bad (by first | exact Or.inl (ix_lt c1) | exact Or.inl (ix_ge ((lt_pred (z := 6) (by decide)).mp c6)) | exact Or.inr (Or.inl (isS_f (bI_0.mp c13))) | exact Or.inr (Or.inr (Or.inl (isS_f (bI_0.mp c20)))) | exact Or.inr (Or.inr (Or.inr (isS_f (bI_0.mp c28)))))
    exact ⟨B, rfl, by rw [hs], by rw [hs]; exact hR⟩
  · refine lv_iload_n hx hb dX5_cue_4 rfl (lv_at hl 1 rfl) ?_
    refine lv_iconst (v := 5) hx hb dX5_cue_5 (by decide) ?_
    refine lv_icmp_gt (tgt := 31) hx hb dX5_cue_6 (by decide) (fun c6 => ?_) (fun c6 => ?_)
    · refine lv_bipush (v := (-2)) hx hb dX5_cue_31 (by decide) ?_
      refine zm_iret hx hb hr hlk hM hS ?_ ⟨Nat.le_of_ble_eq_true rfl, Nat.le_of_ble_eq_true rfl⟩ dX5_cue_33
      have hs : sp_cue S a x v i = (-2, S) := cue_bad (by first | exact Or.inl (ix_lt c1) | exact Or.inl (ix_ge ((lt_pred (z := 6) (by decide)).mp c6)) | exact Or.inr (Or.inl (isS_f (bI_0.mp c13))) | exact Or.inr (Or.inr (Or.inl (isS_f (bI_0.mp c20)))) | exact Or.inr (Or.inr (Or.inr (isS_f (bI_0.mp c28)))))
      exact ⟨B, rfl, by rw [hs], by rw [hs]; exact hR⟩
    · obtain ⟨aa, haa, rfl, hia⟩ := ix_in (n := 6) (by decide) c1 ((le_pred (z := 6) (by decide)).mp c6)
      refine lv_iload_n hx hb dX5_cue_9 rfl (lv_at hl 2 rfl) ?_
      refine zm_callS (As := [.int x]) (rest := []) hx hb hml hts hown hE hA hM hS (c_X5_isSlot l G A _ x) cd_X5_isSlot ml_X5_49 rfl rfl hl.1 (Nat.le_of_ble_eq_true rfl) ⟨Nat.le_of_ble_eq_true rfl, Nat.le_of_ble_eq_true rfl⟩ ⟨Nat.le_of_ble_eq_true rfl, Nat.le_of_ble_eq_true rfl⟩ dX5_cue_10 ?_
      rintro r M1 H locs ⟨rfl, e1⟩ hM hS
      rw [e1] at hM
      clear e1 M1
      refine W.eq (g2 := F0 m 13 ls [.int (bI ((ix 10 x).isSome))]) rfl ?_
      refine lv_if_eq (tgt := 31) hx hb dX5_cue_13 (by decide) (fun c13 => ?_) (fun c13 => ?_)
      · refine lv_bipush (v := (-2)) hx hb dX5_cue_31 (by decide) ?_
        refine zm_iret hx hb hr hlk hM hS ?_ ⟨Nat.le_of_ble_eq_true rfl, Nat.le_of_ble_eq_true rfl⟩ dX5_cue_33
        have hs : sp_cue S (nI aa) x v i = (-2, S) := cue_bad (by first | exact Or.inl (ix_lt c1) | exact Or.inl (ix_ge ((lt_pred (z := 6) (by decide)).mp c6)) | exact Or.inr (Or.inl (isS_f (bI_0.mp c13))) | exact Or.inr (Or.inr (Or.inl (isS_f (bI_0.mp c20)))) | exact Or.inr (Or.inr (Or.inr (isS_f (bI_0.mp c28)))))
        exact ⟨B, rfl, by rw [hs], by rw [hs]; exact hR⟩
      · rw [bI_n] at c13
        obtain ⟨xx, hxi⟩ := isS_t c13
        obtain ⟨hxx, rfl⟩ := ix_some (by decide) hxi
        refine lv_iload_n hx hb dX5_cue_16 rfl (lv_at hl 3 rfl) ?_
        refine zm_callS (As := [.int v]) (rest := []) hx hb hml hts hown hE hA hM hS (c_X5_isView l G A _ v) cd_X5_isView ml_X5_61 rfl rfl hl.1 (Nat.le_of_ble_eq_true rfl) ⟨Nat.le_of_ble_eq_true rfl, Nat.le_of_ble_eq_true rfl⟩ ⟨Nat.le_of_ble_eq_true rfl, Nat.le_of_ble_eq_true rfl⟩ dX5_cue_17 ?_
        rintro r M1 H locs ⟨rfl, e1⟩ hM hS
        rw [e1] at hM
        clear e1 M1
        refine W.eq (g2 := F0 m 20 ls [.int (bI ((ix 17 v).isSome))]) rfl ?_
        refine lv_if_eq (tgt := 31) hx hb dX5_cue_20 (by decide) (fun c20 => ?_) (fun c20 => ?_)
        · refine lv_bipush (v := (-2)) hx hb dX5_cue_31 (by decide) ?_
          refine zm_iret hx hb hr hlk hM hS ?_ ⟨Nat.le_of_ble_eq_true rfl, Nat.le_of_ble_eq_true rfl⟩ dX5_cue_33
          have hs : sp_cue S (nI aa) (nI xx) v i = (-2, S) := cue_bad (by first | exact Or.inl (ix_lt c1) | exact Or.inl (ix_ge ((lt_pred (z := 6) (by decide)).mp c6)) | exact Or.inr (Or.inl (isS_f (bI_0.mp c13))) | exact Or.inr (Or.inr (Or.inl (isS_f (bI_0.mp c20)))) | exact Or.inr (Or.inr (Or.inr (isS_f (bI_0.mp c28)))))
          exact ⟨B, rfl, by rw [hs], by rw [hs]; exact hR⟩
        · rw [bI_n] at c20
          obtain ⟨vv, hvi⟩ := isS_t c20
          obtain ⟨hvv, rfl⟩ := ix_some (by decide) hvi
          refine lv_iload hx hb dX5_cue_23 (lv_at hl 4 rfl) ?_
          refine zm_callS (As := [.int i]) (rest := []) hx hb hml hts hown hE hA hM hS (c_X5_isSlot l G A _ i) cd_X5_isSlot ml_X5_49 rfl rfl hl.1 (Nat.le_of_ble_eq_true rfl) ⟨Nat.le_of_ble_eq_true rfl, Nat.le_of_ble_eq_true rfl⟩ ⟨Nat.le_of_ble_eq_true rfl, Nat.le_of_ble_eq_true rfl⟩ dX5_cue_25 ?_
          rintro r M1 H locs ⟨rfl, e1⟩ hM hS
          rw [e1] at hM
          clear e1 M1
          refine W.eq (g2 := F0 m 28 ls [.int (bI ((ix 10 i).isSome))]) rfl ?_
          refine lv_if_ne (tgt := 34) hx hb dX5_cue_28 (by decide) (fun c28 => ?_) (fun c28 => ?_)
          · rw [bI_n] at c28
            obtain ⟨ii, hii⟩ := isS_t c28
            obtain ⟨hi10, rfl⟩ := ix_some (by decide) hii
            have h30 := hI.2.1
            refine zm_gets hx hb hts hown hE hS 1 (by decide) st_X5_64 dX5_cue_34 ?_
            refine lv_iload_n hx hb dX5_cue_37 rfl (lv_at hl 1 rfl) ?_
            refine zm_tab hx hb hE hS 1 (by decide) (vp_in_nI (show aa < 6 from haa) (by decide)) dX5_cue_38 ?_
            refine zt_eq (v' := .int (zm_tv 1 aa)) (by rw [nI_clamp (by omega)]) ?_
            refine lv_iload_n hx hb dX5_cue_39 rfl (lv_at hl 3 rfl) ?_
            refine zm_callS (As := [.int (zm_tv 1 aa), .int (nI vv)]) (rest := []) hx hb hml hts hown hE hA hM hS (c_X5_isAmong l G A _ (zm_tv 1 aa) (nI vv)) cd_X5_isAmong ml_X5_68 rfl rfl hl.1 (Nat.le_of_ble_eq_true rfl) ⟨Nat.le_of_ble_eq_true rfl, Nat.le_of_ble_eq_true rfl⟩ ⟨Nat.le_of_ble_eq_true rfl, Nat.le_of_ble_eq_true rfl⟩ dX5_cue_40 ?_
            rintro r M1 H locs ⟨rfl, e1⟩ hM hS
            rw [e1] at hM
            clear e1 M1
            refine W.eq (g2 := F0 m 43 ls [.int (bI (decide (((zm_tv 1 aa) >>> ((nI vv) &&& 31)) &&& 1 = 1)))]) rfl ?_
            refine lv_if_ne (tgt := 49) hx hb dX5_cue_43 (by decide) (fun c43 => ?_) (fun c43 => ?_)
            · rw [av_tab _ haa _ hvv, bI_n] at c43
              refine lv_aload_n hx hb dX5_cue_49 rfl (lv_at hl 0 rfl) ?_
              refine zm_get hx hb hts hown hE hM hR.1 fl_X5_71_4 rfl dX5_cue_50 ?_
              refine lv_bipush (v := 30) hx hb dX5_cue_53 (by decide) ?_
              refine lv_icmp_lt (tgt := 61) hx hb dX5_cue_55 (by decide) (fun c55 => ?_) (fun c55 => ?_)
              · have hnc : ¬ s_nc S = 30 := by rw [show (30 : Int32) = nI 30 from rfl, nI_ltI (by omega) (by omega)] at c55; omega
                refine lv_aload_n hx hb dX5_cue_61 rfl (lv_at hl 0 rfl) ?_
                refine zm_get hx hb hts hown hE hM hR.1 fl_X5_20_4 rfl dX5_cue_62 ?_
                refine lv_aload_n hx hb dX5_cue_65 rfl (lv_at hl 0 rfl) ?_
                refine zm_get hx hb hts hown hE hM hR.1 fl_X5_71_4 rfl dX5_cue_66 ?_
                obtain ⟨f3, h3, e3⟩ := hR.2.2.2.1
                have h0 := hR.1
                refine zm_new (fs := [.int 0, .int 0, .int 0, .int 0]) hx hb hts hown hE hA hM hS 0 rfl inlX0 tyX0 tyX0_ok clk_X5_18 in_X0.1 in_X0.2 (fun j hj => by rcases (show j = 0 ∨ j = 1 ∨ j = 2 ∨ j = 3 by omega) with rfl | rfl | rfl | rfl <;> rfl) (Nat.le_of_ble_eq_true rfl) (Nat.le_of_ble_eq_true rfl) dX5_cue_69 (fun q H hq hM hS => ?_)
                refine lv_dup hx hb dX5_cue_72 rfl ?_
                refine lv_iload_n hx hb dX5_cue_73 rfl (lv_at hl 1 rfl) ?_
                refine lv_iload_n hx hb dX5_cue_74 rfl (lv_at hl 2 rfl) ?_
                refine lv_iload_n hx hb dX5_cue_75 rfl (lv_at hl 3 rfl) ?_
                refine lv_iload hx hb dX5_cue_76 (lv_at hl 4 rfl) ?_
                refine zm_callI (As := [.int (nI aa), .int (nI xx), .int (nI vv), .int (nI ii)]) (rest := [.ref q, .int (nI (s_nc S)), .ref B.1.2.2.2]) hx hb hml hts hown hE hA hM hS (c_X0_init l G A _ q (nI aa) (nI xx) (nI vv) (nI ii) zm_up_s) cd_X0_init ml_X5_74 rfl rfl hl.1 (Nat.le_of_ble_eq_true rfl) ⟨Nat.le_of_ble_eq_true rfl, Nat.le_of_ble_eq_true rfl⟩ ⟨Nat.le_of_ble_eq_true rfl, Nat.le_of_ble_eq_true rfl⟩ dX5_cue_78 ?_
                rintro r M1 H locs ⟨rfl, rfl⟩ hM hS
                rw [zm_uu] at hM
                refine W.eq (g2 := F0 m 81 ls [.ref q, .int (nI (s_nc S)), .ref B.1.2.2.2]) rfl ?_
                have hvq := @zm_up_s M q (.inr (0, [.int (nI aa), .int (nI xx), .int (nI vv), .int (nI ii)]))
                have h3q := zm_up_k (e := .inr (0, [.int (nI aa), .int (nI xx), .int (nI vv), .int (nI ii)])) (zm_neN h3 hq) h3
                have h0q := zm_up_k (e := .inr (0, [.int (nI aa), .int (nI xx), .int (nI vv), .int (nI ii)])) (zm_neN h0 hq) h0
                refine zm_astC hx hb hE hM hS h3q hvq (vp_in_nI (show s_nc S < 30 by omega) (by decide)) dX5_cue_81 (fun H locs hM hS => ?_)
                rw [nI_clamp (by omega)] at hM
                have h0r := zm_up_k (e := zm_C G 30 (va_up f3 (s_nc S) (some q))) (zm_ne h0q h3q (by simp)) h0q
                refine lv_aload_n hx hb dX5_cue_82 rfl (lv_at hl 0 rfl) ?_
                refine lv_dup hx hb dX5_cue_83 rfl ?_
                refine zm_get hx hb hts hown hE hM h0r fl_X5_71_4 rfl dX5_cue_84 ?_
                refine lv_iconst (v := 1) hx hb dX5_cue_87 (by decide) ?_
                refine lv_iadd hx hb dX5_cue_88 ?_
                refine zm_put hx hb hts hown hE hM hS h0r fp_X5_71_4 rfl rfl (Nat.le_of_ble_eq_true rfl) dX5_cue_89 (fun H locs hM hS => ?_)
                refine lv_aload_n hx hb dX5_cue_92 rfl (lv_at hl 0 rfl) ?_
                refine zm_get hx hb hts hown hE hM zm_up_s fl_X5_71_4 rfl dX5_cue_93 ?_
                refine lv_iconst (v := 1) hx hb dX5_cue_96 (by decide) ?_
                refine lv_isub hx hb dX5_cue_97 ?_
                refine zm_iret hx hb hr hlk hM hS ?_ ⟨Nat.le_of_ble_eq_true rfl, Nat.le_of_ble_eq_true rfl⟩ dX5_cue_98
                rw [cue_ok hia hxi hvi hii c43 hnc]
                refine ⟨addCB B S q, rfl, by rw [nI_p1], hR.addC (f3 := f3) hI e3 ?_ ?_ ?_ ?_⟩
                · rw [objC_addC]; exact zm_up_s
                · exact zm_up_k (zm_ne h3q h0q (by simp)) zm_up_s
                · exact zm_up_k (zm_neN h0 hq).symm (zm_up_k (zm_neN h3 hq).symm hvq)
                · intro y e hy n0 n1; exact zm_up_k n0 (zm_up_k n1 (zm_up_k (zm_neN hy hq) hy))
              · refine lv_bipush (v := (-3)) hx hb dX5_cue_58 (by decide) ?_
                refine zm_iret hx hb hr hlk hM hS ?_ ⟨Nat.le_of_ble_eq_true rfl, Nat.le_of_ble_eq_true rfl⟩ dX5_cue_60
                have h3 : s_nc S = 30 := by rw [show (30 : Int32) = nI 30 from rfl, nI_ltI (by omega) (by omega)] at c55; omega
                exact ⟨B, rfl, by rw [cue_full hia hxi hvi hii c43 h3], by rw [cue_full hia hxi hvi hii c43 h3]; exact hR⟩
            · rw [av_tab _ haa _ hvv, bI_0] at c43
              refine lv_bipush (v := (-2)) hx hb dX5_cue_46 (by decide) ?_
              refine zm_iret hx hb hr hlk hM hS ?_ ⟨Nat.le_of_ble_eq_true rfl, Nat.le_of_ble_eq_true rfl⟩ dX5_cue_48
              exact ⟨B, rfl, by rw [cue_has hia hxi hvi hii c43], by rw [cue_has hia hxi hvi hii c43]; exact hR⟩
          · refine lv_bipush (v := (-2)) hx hb dX5_cue_31 (by decide) ?_
            refine zm_iret hx hb hr hlk hM hS ?_ ⟨Nat.le_of_ble_eq_true rfl, Nat.le_of_ble_eq_true rfl⟩ dX5_cue_33
            have hs : sp_cue S (nI aa) (nI xx) (nI vv) i = (-2, S) := cue_bad (by first | exact Or.inl (ix_lt c1) | exact Or.inl (ix_ge ((lt_pred (z := 6) (by decide)).mp c6)) | exact Or.inr (Or.inl (isS_f (bI_0.mp c13))) | exact Or.inr (Or.inr (Or.inl (isS_f (bI_0.mp c20)))) | exact Or.inr (Or.inr (Or.inr (isS_f (bI_0.mp c28)))))
            exact ⟨B, rfl, by rw [hs], by rw [hs]; exact hR⟩
set_option maxRecDepth 100000 in
set_option maxHeartbeats 4000000 in
theorem c_X5_init (l : Launch) (G : zm_G) (A : Nat → Prop) (M : zm_M) (a : Nat) (h0 : M a = some (.inr (4, [.null, .int 0, .null, .null, .null, .int 0, .long 0, .int 0, .int 0, .int 0]))) : Met l yX5_init (zm_W yX5_init cX5_init 1 none) (zm_rm 1 3 90) (zm_Pc G [.ref a] A M) (zm_Q G (fun r M' => r = none ∧ ∃ B : zB, B.1.1 = a ∧ RepC G B s_0 M') A) 3 90 A := by
  refine zm_start (by decide) (Nat.le_of_ble_eq_true rfl) ?_
  intro p e s m below meth c hx hb hml hr hts hown hlk hnm hE hA ls hl hM hS
  have hl : lv_has ls 1 [(0, .ref a)] := hl
  refine lv_aload_n hx hb dX5_init_0 rfl (lv_at hl 0 rfl) ?_
  refine zm_objInit hx hb hml hts hown ml_X5_3 hl.1 (by decide) (Nat.le_of_ble_eq_true rfl) dX5_init_1 ?_
  refine lv_aload_n hx hb dX5_init_4 rfl (lv_at hl 0 rfl) ?_
  refine lv_bipush (v := 50) hx hb dX5_init_5 (by decide) ?_
  refine zm_newq hx hb hts hown hE hA hM hS 3 rfl clk_X5_9 hE.2.2.2.1.2 (by decide) (N := 50) (by decide) (by decide) (Nat.le_of_ble_eq_true rfl) (Nat.le_of_ble_eq_true rfl) dX5_init_7 (fun q1 H nq1 hM hS => ?_)
  have h0 := zm_up_k (e := (zm_R G 50 (fun _ => none))) (zm_neN h0 nq1) h0
  have kq1 : zm_up M q1 (zm_R G 50 (fun _ => none)) q1 = some (zm_R G 50 (fun _ => none)) := zm_up_s
  refine zm_putF hx hb hts hown hnm hE hM hS h0 fp_X5_11_4 rfl rfl (Nat.le_of_ble_eq_true rfl) dX5_init_10 (fun H locs hM hS => ?_)
  have hM : zm_P G A (zm_up (zm_up M q1 (zm_R G 50 (fun _ => none))) a (.inr (4, [.ref q1, .int 0, .null, .null, .null, .int 0, .long 0, .int 0, .int 0, .int 0]) : va_E)) H := hM
  have kq1 := zm_up_k (e := (.inr (4, [.ref q1, .int 0, .null, .null, .null, .int 0, .long 0, .int 0, .int 0, .int 0]) : va_E)) (zm_ne kq1 h0 (by simp)) kq1
  have h0 : zm_up (zm_up M q1 (zm_R G 50 (fun _ => none))) a (.inr (4, [.ref q1, .int 0, .null, .null, .null, .int 0, .long 0, .int 0, .int 0, .int 0]) : va_E) a = some (.inr (4, [.ref q1, .int 0, .null, .null, .null, .int 0, .long 0, .int 0, .int 0, .int 0]) : va_E) := zm_up_s
  refine lv_aload_n hx hb dX5_init_13 rfl (lv_at hl 0 rfl) ?_
  refine lv_bipush (v := 10) hx hb dX5_init_14 (by decide) ?_
  refine zm_newq hx hb hts hown hE hA hM hS 3 rfl clk_X5_9 hE.2.2.2.1.2 (by decide) (N := 10) (by decide) (by decide) (Nat.le_of_ble_eq_true rfl) (Nat.le_of_ble_eq_true rfl) dX5_init_16 (fun q2 H nq2 hM hS => ?_)
  have h0 := zm_up_k (e := (zm_R G 10 (fun _ => none))) (zm_neN h0 nq2) h0
  have kq1 := zm_up_k (e := (zm_R G 10 (fun _ => none))) (zm_neN kq1 nq2) kq1
  have kq2 : zm_up (zm_up (zm_up M q1 (zm_R G 50 (fun _ => none))) a (.inr (4, [.ref q1, .int 0, .null, .null, .null, .int 0, .long 0, .int 0, .int 0, .int 0]) : va_E)) q2 (zm_R G 10 (fun _ => none)) q2 = some (zm_R G 10 (fun _ => none)) := zm_up_s
  refine zm_putF hx hb hts hown hnm hE hM hS h0 fp_X5_15_4 rfl rfl (Nat.le_of_ble_eq_true rfl) dX5_init_19 (fun H locs hM hS => ?_)
  have hM : zm_P G A (zm_up (zm_up (zm_up (zm_up M q1 (zm_R G 50 (fun _ => none))) a (.inr (4, [.ref q1, .int 0, .null, .null, .null, .int 0, .long 0, .int 0, .int 0, .int 0]) : va_E)) q2 (zm_R G 10 (fun _ => none))) a (.inr (4, [.ref q1, .int 0, .ref q2, .null, .null, .int 0, .long 0, .int 0, .int 0, .int 0]) : va_E)) H := hM
  have kq1 := zm_up_k (e := (.inr (4, [.ref q1, .int 0, .ref q2, .null, .null, .int 0, .long 0, .int 0, .int 0, .int 0]) : va_E)) (zm_ne kq1 h0 (by simp)) kq1
  have kq2 := zm_up_k (e := (.inr (4, [.ref q1, .int 0, .ref q2, .null, .null, .int 0, .long 0, .int 0, .int 0, .int 0]) : va_E)) (zm_ne kq2 h0 (by simp)) kq2
  have h0 : zm_up (zm_up (zm_up (zm_up M q1 (zm_R G 50 (fun _ => none))) a (.inr (4, [.ref q1, .int 0, .null, .null, .null, .int 0, .long 0, .int 0, .int 0, .int 0]) : va_E)) q2 (zm_R G 10 (fun _ => none))) a (.inr (4, [.ref q1, .int 0, .ref q2, .null, .null, .int 0, .long 0, .int 0, .int 0, .int 0]) : va_E) a = some (.inr (4, [.ref q1, .int 0, .ref q2, .null, .null, .int 0, .long 0, .int 0, .int 0, .int 0]) : va_E) := zm_up_s
  refine lv_aload_n hx hb dX5_init_22 rfl (lv_at hl 0 rfl) ?_
  refine lv_bipush (v := 30) hx hb dX5_init_23 (by decide) ?_
  refine zm_newq hx hb hts hown hE hA hM hS 2 rfl clk_X5_18 hE.2.2.2.1.1 (by decide) (N := 30) (by decide) (by decide) (Nat.le_of_ble_eq_true rfl) (Nat.le_of_ble_eq_true rfl) dX5_init_25 (fun q3 H nq3 hM hS => ?_)
  have h0 := zm_up_k (e := (zm_C G 30 (fun _ => none))) (zm_neN h0 nq3) h0
  have kq1 := zm_up_k (e := (zm_C G 30 (fun _ => none))) (zm_neN kq1 nq3) kq1
  have kq2 := zm_up_k (e := (zm_C G 30 (fun _ => none))) (zm_neN kq2 nq3) kq2
  have kq3 : zm_up (zm_up (zm_up (zm_up (zm_up M q1 (zm_R G 50 (fun _ => none))) a (.inr (4, [.ref q1, .int 0, .null, .null, .null, .int 0, .long 0, .int 0, .int 0, .int 0]) : va_E)) q2 (zm_R G 10 (fun _ => none))) a (.inr (4, [.ref q1, .int 0, .ref q2, .null, .null, .int 0, .long 0, .int 0, .int 0, .int 0]) : va_E)) q3 (zm_C G 30 (fun _ => none)) q3 = some (zm_C G 30 (fun _ => none)) := zm_up_s
  refine zm_putF hx hb hts hown hnm hE hM hS h0 fp_X5_20_4 rfl rfl (Nat.le_of_ble_eq_true rfl) dX5_init_28 (fun H locs hM hS => ?_)
  have hM : zm_P G A (zm_up (zm_up (zm_up (zm_up (zm_up (zm_up M q1 (zm_R G 50 (fun _ => none))) a (.inr (4, [.ref q1, .int 0, .null, .null, .null, .int 0, .long 0, .int 0, .int 0, .int 0]) : va_E)) q2 (zm_R G 10 (fun _ => none))) a (.inr (4, [.ref q1, .int 0, .ref q2, .null, .null, .int 0, .long 0, .int 0, .int 0, .int 0]) : va_E)) q3 (zm_C G 30 (fun _ => none))) a (.inr (4, [.ref q1, .int 0, .ref q2, .null, .ref q3, .int 0, .long 0, .int 0, .int 0, .int 0]) : va_E)) H := hM
  have kq1 := zm_up_k (e := (.inr (4, [.ref q1, .int 0, .ref q2, .null, .ref q3, .int 0, .long 0, .int 0, .int 0, .int 0]) : va_E)) (zm_ne kq1 h0 (by simp)) kq1
  have kq2 := zm_up_k (e := (.inr (4, [.ref q1, .int 0, .ref q2, .null, .ref q3, .int 0, .long 0, .int 0, .int 0, .int 0]) : va_E)) (zm_ne kq2 h0 (by simp)) kq2
  have kq3 := zm_up_k (e := (.inr (4, [.ref q1, .int 0, .ref q2, .null, .ref q3, .int 0, .long 0, .int 0, .int 0, .int 0]) : va_E)) (zm_ne kq3 h0 (by simp)) kq3
  have h0 : zm_up (zm_up (zm_up (zm_up (zm_up (zm_up M q1 (zm_R G 50 (fun _ => none))) a (.inr (4, [.ref q1, .int 0, .null, .null, .null, .int 0, .long 0, .int 0, .int 0, .int 0]) : va_E)) q2 (zm_R G 10 (fun _ => none))) a (.inr (4, [.ref q1, .int 0, .ref q2, .null, .null, .int 0, .long 0, .int 0, .int 0, .int 0]) : va_E)) q3 (zm_C G 30 (fun _ => none))) a (.inr (4, [.ref q1, .int 0, .ref q2, .null, .ref q3, .int 0, .long 0, .int 0, .int 0, .int 0]) : va_E) a = some (.inr (4, [.ref q1, .int 0, .ref q2, .null, .ref q3, .int 0, .long 0, .int 0, .int 0, .int 0]) : va_E) := zm_up_s
  refine lv_aload_n hx hb dX5_init_31 rfl (lv_at hl 0 rfl) ?_
  refine lv_iconst (v := (-1)) hx hb dX5_init_32 (by decide) ?_
  refine zm_put hx hb hts hown hE hM hS h0 fp_X5_24_4 rfl rfl (Nat.le_of_ble_eq_true rfl) dX5_init_33 (fun H locs hM hS => ?_)
  have hM : zm_P G A (zm_up (zm_up (zm_up (zm_up (zm_up (zm_up (zm_up M q1 (zm_R G 50 (fun _ => none))) a (.inr (4, [.ref q1, .int 0, .null, .null, .null, .int 0, .long 0, .int 0, .int 0, .int 0]) : va_E)) q2 (zm_R G 10 (fun _ => none))) a (.inr (4, [.ref q1, .int 0, .ref q2, .null, .null, .int 0, .long 0, .int 0, .int 0, .int 0]) : va_E)) q3 (zm_C G 30 (fun _ => none))) a (.inr (4, [.ref q1, .int 0, .ref q2, .null, .ref q3, .int 0, .long 0, .int 0, .int 0, .int 0]) : va_E)) a (.inr (4, [.ref q1, .int 0, .ref q2, .null, .ref q3, .int 0, .long 0, .int 0, .int (-1), .int 0]) : va_E)) H := hM
  have kq1 := zm_up_k (e := (.inr (4, [.ref q1, .int 0, .ref q2, .null, .ref q3, .int 0, .long 0, .int 0, .int (-1), .int 0]) : va_E)) (zm_ne kq1 h0 (by simp)) kq1
  have kq2 := zm_up_k (e := (.inr (4, [.ref q1, .int 0, .ref q2, .null, .ref q3, .int 0, .long 0, .int 0, .int (-1), .int 0]) : va_E)) (zm_ne kq2 h0 (by simp)) kq2
  have kq3 := zm_up_k (e := (.inr (4, [.ref q1, .int 0, .ref q2, .null, .ref q3, .int 0, .long 0, .int 0, .int (-1), .int 0]) : va_E)) (zm_ne kq3 h0 (by simp)) kq3
  have h0 : zm_up (zm_up (zm_up (zm_up (zm_up (zm_up (zm_up M q1 (zm_R G 50 (fun _ => none))) a (.inr (4, [.ref q1, .int 0, .null, .null, .null, .int 0, .long 0, .int 0, .int 0, .int 0]) : va_E)) q2 (zm_R G 10 (fun _ => none))) a (.inr (4, [.ref q1, .int 0, .ref q2, .null, .null, .int 0, .long 0, .int 0, .int 0, .int 0]) : va_E)) q3 (zm_C G 30 (fun _ => none))) a (.inr (4, [.ref q1, .int 0, .ref q2, .null, .ref q3, .int 0, .long 0, .int 0, .int 0, .int 0]) : va_E)) a (.inr (4, [.ref q1, .int 0, .ref q2, .null, .ref q3, .int 0, .long 0, .int 0, .int (-1), .int 0]) : va_E) a = some (.inr (4, [.ref q1, .int 0, .ref q2, .null, .ref q3, .int 0, .long 0, .int 0, .int (-1), .int 0]) : va_E) := zm_up_s
  refine zm_vret hx hb hr hlk hM hS ?_ ⟨Nat.le_of_ble_eq_true rfl, Nat.le_of_ble_eq_true rfl⟩ dX5_init_36
  exact ⟨rfl, ((a, q1, q2, q3), fun _ => 0, fun _ => 0, fun _ => 0), rfl, h0, ⟨_, kq1, fun j hj => absurd hj (Nat.not_lt_zero _)⟩, ⟨_, kq2, fun i _ => rfl⟩, ⟨_, kq3, fun c hc => absurd hc (Nat.not_lt_zero _)⟩, fun c hc => absurd hc (Nat.not_lt_zero _), fun j hj => absurd hj (Nat.not_lt_zero _), fun j hj => absurd hj (Nat.not_lt_zero _), fun j hj => absurd hj (Nat.not_lt_zero _), fun j k hj => absurd hj (Nat.not_lt_zero _)⟩
end
section
/-! what a write does to the reference's picture -/
theorem zbt_c {y : Int32} {n : Nat} {x : Int32} (hn : n < 2 ^ 31) (hz : y.toInt + 1 = (nI n).toInt) : zbt 0 y x = (ix n x).isSome := by
  unfold zbt
  by_cases h : x < 0
  · rw [ix_lt h]; simp [h]
  · by_cases h2 : nI n ≤ x
    · rw [ix_ge h2]; simp [(lt_pred hz).mpr h2]
    · obtain ⟨j, -, -, e⟩ := ix_in hn h h2
      rw [e, decide_eq_true h, decide_eq_true ((le_pred hz).mpr h2)]; rfl
theorem pred_toInt {n : Nat} (hn : n < 1000) : (nI n - 1).toInt + 1 = (nI n).toInt := by
  have := pk_sub_toInt (a := n) (b := 1) (by omega) (by omega)
  rw [show (nI n - 1) = nI n - nI 1 from rfl, this, nI_toInt (by omega)]
  omega
theorem zbt_np {n : Nat} {x : Int32} (hn : n < 1000) : zbt 0 (nI n - 1) x = (ix n x).isSome := zbt_c (by omega) (pred_toInt hn)
theorem zbt_v {x : Int32} : zbt 0 16 x = (ix 17 x).isSome := zbt_c (by decide) (by decide)
theorem zbt_s {x : Int32} : zbt 0 9 x = (ix 10 x).isSome := zbt_c (by decide) (by decide)
theorem zbt_k {x : Int32} : zbt 0 15 x = (ix 16 x).isSome := zbt_c (by decide) (by decide)
theorem zbt_a {x : Int32} : zbt 0 5 x = (ix 6 x).isSome := zbt_c (by decide) (by decide)
theorem idx5 (j i : Nat) : (5 : Int32) * nI j + nI i = nI (5 * j + i) := by rw [show (5 : Int32) = nI 5 from rfl, pk_mul, nI_add]
theorem idx15 (j i : Nat) : (15 : Int32) * nI j + nI i = nI (15 * j + i) := by rw [show (15 : Int32) = nI 15 from rfl, pk_mul, nI_add]
theorem abs_wr {S : zS} {f : Nat → Nat → Int32} {g : Nat → Int64} (h : zAbs S f g) (t : Nat) (v : Int32) : zAbs (w_wr S (upd (s_wr S) t v)) (va_up f 3 (upd (f 3) t v)) g := by
  obtain ⟨h1, h2, h3, h4, h5⟩ := h
  refine ⟨fun j hj => ⟨(h1 j hj).1, (h1 j hj).2.1, ?_⟩, h2, h3, h4, h5⟩
  show upd (f 3) t v j = upd (s_wr S) t v j
  by_cases e : j = t
  · subst e; rw [pk_us, pk_us]
  · rw [pk_un e, pk_un e]; exact (h1 j hj).2.2
theorem abs_th {S : zS} {f : Nat → Nat → Int32} {g : Nat → Int64} (h : zAbs S f g) (j i : Nat) (o : Option Nat) (hi : i < 5) : zAbs (w_th S (up2 (s_th S) j i o)) (va_up f 5 (upd (f 5) (5 * j + i) (oI o))) g := by
  obtain ⟨h1, h2, h3, h4, h5⟩ := h
  refine ⟨h1, h2, fun a b ha hb => ?_, h4, h5⟩
  show upd (f 5) (5 * j + i) (oI o) (5 * a + b) = oI (up2 (s_th S) j i o a b)
  unfold up2
  by_cases e : a = j ∧ b = i
  · obtain ⟨rfl, rfl⟩ := e; rw [pk_us, if_pos ⟨rfl, rfl⟩]
  · rw [pk_un (by omega), if_neg e]; exact h3 a b ha hb
theorem abs_sl {S : zS} {f : Nat → Nat → Int32} {g : Nat → Int64} (h : zAbs S f g) (i : Nat) (o : Option Nat) : zAbs (w_sl S (va_up (s_sl S) i o)) (va_up f 6 (upd (f 6) i (oI o))) g := by
  obtain ⟨h1, h2, h3, h4, h5⟩ := h
  refine ⟨h1, h2, h3, fun a ha => ?_, h5⟩
  show upd (f 6) i (oI o) a = oI (va_up (s_sl S) i o a)
  by_cases e : a = i
  · subst e; rw [pk_us, va_up_self]
  · rw [pk_un e, va_up_ne _ _ e]; exact h4 a ha
theorem abs_nu {S : zS} {f : Nat → Nat → Int32} {g : Nat → Int64} (h : zAbs S f g) (j i : Nat) (v : Int64) (hi : i < 15) : zAbs (w_nu S (up2 (s_nu S) j i v)) f (vp_updL g (15 * j + i) v) := by
  obtain ⟨h1, h2, h3, h4, h5⟩ := h
  refine ⟨h1, fun a b ha hb => ?_, h3, h4, h5⟩
  show vp_updL g (15 * j + i) v (15 * a + b) = up2 (s_nu S) j i v a b
  unfold up2
  by_cases e : a = j ∧ b = i
  · obtain ⟨rfl, rfl⟩ := e; rw [pk_uLs, if_pos ⟨rfl, rfl⟩]
  · rw [pk_uLn (by omega), if_neg e]; exact h2 a b ha hb
theorem abs_nc {S : zS} {f : Nat → Nat → Int32} {g : Nat → Int64} (h : zAbs S f g) : zAbs (w_nc S 0) f g := ⟨h.1, h.2.1, h.2.2.1, h.2.2.2.1, fun c hc => absurd hc (Nat.not_lt_zero _)⟩
theorem abs_cu {S : zS} {f : Nat → Nat → Int32} {g : Nat → Int64} (h : zAbs S f g) (a x v i : Nat) : zAbs (w_cu S (s_nc S + 1) (va_up (s_cu S) (s_nc S) (a, x, v, i))) (va_up (va_up (va_up (va_up f 7 (upd (f 7) (s_nc S) (nI a))) 8 (upd (f 8) (s_nc S) (nI x))) 9 (upd (f 9) (s_nc S) (nI v))) 10 (upd (f 10) (s_nc S) (nI i))) g := by
  obtain ⟨h1, h2, h3, h4, h5⟩ := h
  refine ⟨h1, h2, h3, h4, fun c hc => ?_⟩
  have hc : c < s_nc S + 1 := hc
  show upd (f 7) (s_nc S) (nI a) c = nI (va_up (s_cu S) (s_nc S) (a, x, v, i) c).1 ∧ upd (f 8) (s_nc S) (nI x) c = nI (va_up (s_cu S) (s_nc S) (a, x, v, i) c).2.1 ∧ upd (f 9) (s_nc S) (nI v) c = nI (va_up (s_cu S) (s_nc S) (a, x, v, i) c).2.2.1 ∧ upd (f 10) (s_nc S) (nI i) c = nI (va_up (s_cu S) (s_nc S) (a, x, v, i) c).2.2.2
  by_cases e : c = s_nc S
  · subst e; rw [pk_us, pk_us, pk_us, pk_us, va_up_self]; exact ⟨rfl, rfl, rfl, rfl⟩
  · rw [pk_un e, pk_un e, pk_un e, pk_un e, va_up_ne _ _ e]; exact h5 c (by omega)
end
section
theorem zbt_t {a b x : Int32} (h : ¬ x < a) (h2 : ¬ b < x) : zbt a b x = true := by unfold zbt; rw [decide_eq_true h, decide_eq_true h2]; rfl
theorem zbt_f1 {a b x : Int32} (h : x < a) : zbt a b x = false := by unfold zbt; rw [show decide (¬ x < a) = false from decide_eq_false (fun z => z h)]; rfl
theorem zbt_f2 {a b x : Int32} (h : b < x) : zbt a b x = false := by unfold zbt; rw [show decide (¬ b < x) = false from decide_eq_false (fun z => z h)]; exact Bool.and_false _
set_option maxRecDepth 100000 in
set_option maxHeartbeats 4000000 in
theorem c_X6_isIn (l : Launch) (G : zm_G) (A : Nat → Prop) (M : zm_M) (x a b : Int32) : Met l yX6_isIn (zm_W yX6_isIn cX6_isIn 3 (some .boolean)) (zm_rm 0 0 0) (zm_Pc G [.int x, .int a, .int b] A M) (zm_Q G (fun r M' => r = some (.int (bI (zbt a b x))) ∧ M' = M) A) 0 0 A := by
  refine zm_start (by decide) (Nat.le_of_ble_eq_true rfl) ?_
  intro p e s m below meth c hx hb hml hr hts hown hlk hnm hE hA ls hl hM hS
  have hl : lv_has ls 3 [(0, .int x), (1, .int a), (2, .int b)] := hl
  refine lv_iload_n hx hb dX6_isIn_0 rfl (lv_at hl 0 rfl) ?_
  refine lv_iload_n hx hb dX6_isIn_1 rfl (lv_at hl 1 rfl) ?_
  refine lv_icmp_lt (tgt := 14) hx hb dX6_isIn_2 (by decide) (fun c2 => ?_) (fun c2 => ?_)
  · refine lv_iconst (v := 0) hx hb dX6_isIn_14 (by decide) ?_
    refine zm_zret hx hb hr hlk hM hS (by first | exact Or.inl rfl | exact Or.inr rfl | exact bI_01 _) ?_ ⟨Nat.le_refl _, Nat.le_refl _⟩ dX6_isIn_15
    refine ⟨?_, rfl⟩
    first | (rw [zbt_t c2 c7]; rfl) | (rw [zbt_f1 c2]; rfl) | (rw [zbt_f2 c7]; rfl)
  · refine lv_iload_n hx hb dX6_isIn_5 rfl (lv_at hl 0 rfl) ?_
    refine lv_iload_n hx hb dX6_isIn_6 rfl (lv_at hl 2 rfl) ?_
    refine lv_icmp_gt (tgt := 14) hx hb dX6_isIn_7 (by decide) (fun c7 => ?_) (fun c7 => ?_)
    · refine lv_iconst (v := 0) hx hb dX6_isIn_14 (by decide) ?_
      refine zm_zret hx hb hr hlk hM hS (by first | exact Or.inl rfl | exact Or.inr rfl | exact bI_01 _) ?_ ⟨Nat.le_refl _, Nat.le_refl _⟩ dX6_isIn_15
      refine ⟨?_, rfl⟩
      first | (rw [zbt_t c2 c7]; rfl) | (rw [zbt_f1 c2]; rfl) | (rw [zbt_f2 c7]; rfl)
    · refine lv_iconst (v := 1) hx hb dX6_isIn_10 (by decide) ?_
      refine lv_goto (tgt := 15) hx hb dX6_isIn_11 (by decide) ?_
      refine zm_zret hx hb hr hlk hM hS (by first | exact Or.inl rfl | exact Or.inr rfl | exact bI_01 _) ?_ ⟨Nat.le_refl _, Nat.le_refl _⟩ dX6_isIn_15
      refine ⟨?_, rfl⟩
      first | (rw [zbt_t c2 c7]; rfl) | (rw [zbt_f1 c2]; rfl) | (rw [zbt_f2 c7]; rfl)
set_option maxRecDepth 100000 in
set_option maxHeartbeats 4000000 in
theorem c_X6_isView (l : Launch) (G : zm_G) (A : Nat → Prop) (M : zm_M) (x : Int32) : Met l yX6_isView (zm_W yX6_isView cX6_isView 1 (some .boolean)) (zm_rm 1 0 0) (zm_Pc G [.int x] A M) (zm_Q G (fun r M' => r = some (.int (bI ((ix 17 x).isSome))) ∧ M' = M) A) 0 0 A := by
  refine zm_start (by decide) (Nat.le_of_ble_eq_true rfl) ?_
  intro p e s m below meth c hx hb hml hr hts hown hlk hnm hE hA ls hl hM hS
  have hl : lv_has ls 1 [(0, .int x)] := hl
  refine lv_iload_n hx hb dX6_isView_0 rfl (lv_at hl 0 rfl) ?_
  refine lv_iconst (v := 0) hx hb dX6_isView_1 (by decide) ?_
  refine lv_bipush (v := 16) hx hb dX6_isView_2 (by decide) ?_
  refine zm_callS (As := [.int x, .int 0, .int 16]) (rest := []) hx hb hml hts hown hE hA hM hS (c_X6_isIn l G A _ x 0 16) cd_X6_isIn ml_X6_51 rfl rfl hl.1 (Nat.le_of_ble_eq_true rfl) ⟨Nat.le_of_ble_eq_true rfl, Nat.le_of_ble_eq_true rfl⟩ ⟨Nat.le_of_ble_eq_true rfl, Nat.le_of_ble_eq_true rfl⟩ dX6_isView_4 ?_
  rintro r M1 H locs ⟨rfl, e1⟩ hM hS
  rw [e1] at hM
  clear e1 M1
  refine W.eq (g2 := F0 m 7 ls [.int (bI (zbt 0 16 x))]) rfl ?_
  refine zm_zret hx hb hr hlk hM hS (by first | exact Or.inl rfl | exact Or.inr rfl | exact bI_01 _) ?_ ⟨Nat.le_refl _, Nat.le_refl _⟩ dX6_isView_7
  exact ⟨by rw [zbt_v], rfl⟩
set_option maxRecDepth 100000 in
set_option maxHeartbeats 4000000 in
theorem c_X6_isSlot (l : Launch) (G : zm_G) (A : Nat → Prop) (M : zm_M) (x : Int32) : Met l yX6_isSlot (zm_W yX6_isSlot cX6_isSlot 1 (some .boolean)) (zm_rm 1 0 0) (zm_Pc G [.int x] A M) (zm_Q G (fun r M' => r = some (.int (bI ((ix 10 x).isSome))) ∧ M' = M) A) 0 0 A := by
  refine zm_start (by decide) (Nat.le_of_ble_eq_true rfl) ?_
  intro p e s m below meth c hx hb hml hr hts hown hlk hnm hE hA ls hl hM hS
  have hl : lv_has ls 1 [(0, .int x)] := hl
  refine lv_iload_n hx hb dX6_isSlot_0 rfl (lv_at hl 0 rfl) ?_
  refine lv_iconst (v := 0) hx hb dX6_isSlot_1 (by decide) ?_
  refine lv_bipush (v := 9) hx hb dX6_isSlot_2 (by decide) ?_
  refine zm_callS (As := [.int x, .int 0, .int 9]) (rest := []) hx hb hml hts hown hE hA hM hS (c_X6_isIn l G A _ x 0 9) cd_X6_isIn ml_X6_51 rfl rfl hl.1 (Nat.le_of_ble_eq_true rfl) ⟨Nat.le_of_ble_eq_true rfl, Nat.le_of_ble_eq_true rfl⟩ ⟨Nat.le_of_ble_eq_true rfl, Nat.le_of_ble_eq_true rfl⟩ dX6_isSlot_4 ?_
  rintro r M1 H locs ⟨rfl, e1⟩ hM hS
  rw [e1] at hM
  clear e1 M1
  refine W.eq (g2 := F0 m 7 ls [.int (bI (zbt 0 9 x))]) rfl ?_
  refine zm_zret hx hb hr hlk hM hS (by first | exact Or.inl rfl | exact Or.inr rfl | exact bI_01 _) ?_ ⟨Nat.le_refl _, Nat.le_refl _⟩ dX6_isSlot_7
  exact ⟨by rw [zbt_s], rfl⟩
set_option maxRecDepth 100000 in
set_option maxHeartbeats 4000000 in
theorem c_X6_isSingle (l : Launch) (G : zm_G) (A : Nat → Prop) (M : zm_M) (x : Int32) : Met l yX6_isSingle (zm_W yX6_isSingle cX6_isSingle 1 (some .boolean)) (zm_rm 1 0 0) (zm_Pc G [.int x] A M) (zm_Q G (fun r M' => r = some (.int (bI (zbt 4 7 x))) ∧ M' = M) A) 0 0 A := by
  refine zm_start (by decide) (Nat.le_of_ble_eq_true rfl) ?_
  intro p e s m below meth c hx hb hml hr hts hown hlk hnm hE hA ls hl hM hS
  have hl : lv_has ls 1 [(0, .int x)] := hl
  refine lv_iload_n hx hb dX6_isSingle_0 rfl (lv_at hl 0 rfl) ?_
  refine lv_iconst (v := 4) hx hb dX6_isSingle_1 (by decide) ?_
  refine lv_bipush (v := 7) hx hb dX6_isSingle_2 (by decide) ?_
  refine zm_callS (As := [.int x, .int 4, .int 7]) (rest := []) hx hb hml hts hown hE hA hM hS (c_X6_isIn l G A _ x 4 7) cd_X6_isIn ml_X6_51 rfl rfl hl.1 (Nat.le_of_ble_eq_true rfl) ⟨Nat.le_of_ble_eq_true rfl, Nat.le_of_ble_eq_true rfl⟩ ⟨Nat.le_of_ble_eq_true rfl, Nat.le_of_ble_eq_true rfl⟩ dX6_isSingle_4 ?_
  rintro r M1 H locs ⟨rfl, e1⟩ hM hS
  rw [e1] at hM
  clear e1 M1
  refine W.eq (g2 := F0 m 7 ls [.int (bI (zbt 4 7 x))]) rfl ?_
  refine zm_zret hx hb hr hlk hM hS (by first | exact Or.inl rfl | exact Or.inr rfl | exact bI_01 _) ?_ ⟨Nat.le_refl _, Nat.le_refl _⟩ dX6_isSingle_7
  exact ⟨rfl, rfl⟩
set_option maxRecDepth 100000 in
set_option maxHeartbeats 4000000 in
theorem c_X6_isRow (l : Launch) (G : zm_G) (A : Nat → Prop) (M : zm_M) (x : Int32) : Met l yX6_isRow (zm_W yX6_isRow cX6_isRow 1 (some .boolean)) (zm_rm 1 0 0) (zm_Pc G [.int x] A M) (zm_Q G (fun r M' => r = some (.int (bI (zbt 8 15 x))) ∧ M' = M) A) 0 0 A := by
  refine zm_start (by decide) (Nat.le_of_ble_eq_true rfl) ?_
  intro p e s m below meth c hx hb hml hr hts hown hlk hnm hE hA ls hl hM hS
  have hl : lv_has ls 1 [(0, .int x)] := hl
  refine lv_iload_n hx hb dX6_isRow_0 rfl (lv_at hl 0 rfl) ?_
  refine lv_bipush (v := 8) hx hb dX6_isRow_1 (by decide) ?_
  refine lv_bipush (v := 15) hx hb dX6_isRow_3 (by decide) ?_
  refine zm_callS (As := [.int x, .int 8, .int 15]) (rest := []) hx hb hml hts hown hE hA hM hS (c_X6_isIn l G A _ x 8 15) cd_X6_isIn ml_X6_51 rfl rfl hl.1 (Nat.le_of_ble_eq_true rfl) ⟨Nat.le_of_ble_eq_true rfl, Nat.le_of_ble_eq_true rfl⟩ ⟨Nat.le_of_ble_eq_true rfl, Nat.le_of_ble_eq_true rfl⟩ dX6_isRow_5 ?_
  rintro r M1 H locs ⟨rfl, e1⟩ hM hS
  rw [e1] at hM
  clear e1 M1
  refine W.eq (g2 := F0 m 8 ls [.int (bI (zbt 8 15 x))]) rfl ?_
  refine zm_zret hx hb hr hlk hM hS (by first | exact Or.inl rfl | exact Or.inr rfl | exact bI_01 _) ?_ ⟨Nat.le_refl _, Nat.le_refl _⟩ dX6_isRow_8
  exact ⟨rfl, rfl⟩
set_option maxRecDepth 100000 in
set_option maxHeartbeats 4000000 in
theorem c_X6_isProp (l : Launch) (G : zm_G) (A : Nat → Prop) (q : Nat → Nat) (S : zS) (M : zm_M) (p0 : Int32) (hI : zInv S) (hR : RepR G q S M) : Met l yX6_isProp (zm_W yX6_isProp cX6_isProp 2 (some .boolean)) (zm_rm 1 0 0) (zm_Pc G [.ref (q 0), .int p0] A M) (zm_Q G (fun r M' => r = some (.int (bI (ix (s_np S) p0).isSome)) ∧ M' = M) A) 0 0 A := by
  refine zm_start (by decide) (Nat.le_of_ble_eq_true rfl) ?_
  intro p e s m below meth c hx hb hml hr hts hown hlk hnm hE hA ls hl hM hS
  have hl : lv_has ls 2 [(0, .ref (q 0)), (1, .int p0)] := hl
  obtain ⟨f, g, hZ, hAb⟩ := hR
  have hnp := hI.1
  have hncc := hI.2.1
  refine lv_iload_n hx hb dX6_isProp_0 rfl (lv_at hl 1 rfl) ?_
  refine lv_iconst (v := 0) hx hb dX6_isProp_1 (by decide) ?_
  refine lv_aload_n hx hb dX6_isProp_2 rfl (lv_at hl 0 rfl) ?_
  refine zm_get hx hb hts hown hE hM hZ.2.1 fl_X6_48_5 rfl dX6_isProp_3 ?_
  refine lv_iconst (v := 1) hx hb dX6_isProp_6 (by decide) ?_
  refine lv_isub hx hb dX6_isProp_7 ?_
  refine zm_callS (As := [.int p0, .int 0, .int ((nI (s_np S)) - 1)]) (rest := []) hx hb hml hts hown hE hA hM hS (c_X6_isIn l G A _ p0 0 ((nI (s_np S)) - 1)) cd_X6_isIn ml_X6_51 rfl rfl hl.1 (Nat.le_of_ble_eq_true rfl) ⟨Nat.le_of_ble_eq_true rfl, Nat.le_of_ble_eq_true rfl⟩ ⟨Nat.le_of_ble_eq_true rfl, Nat.le_of_ble_eq_true rfl⟩ dX6_isProp_8 ?_
  rintro r M1 H locs ⟨rfl, e1⟩ hM hS
  rw [e1] at hM
  clear e1 M1
  refine W.eq (g2 := F0 m 11 ls [.int (bI (zbt 0 ((nI (s_np S)) - 1) p0))]) rfl ?_
  refine zm_zret hx hb hr hlk hM hS (by first | exact Or.inl rfl | exact Or.inr rfl | exact bI_01 _) ?_ ⟨Nat.le_refl _, Nat.le_refl _⟩ dX6_isProp_11
  exact ⟨by rw [zbt_np (by omega)], rfl⟩
theorem nv {v c : Nat} {x : Int32} (hv : v < 17) (hc : x = nI c) (h17 : c < 17) : nI v = x ↔ v = c := by rw [hc]; exact nI_eq (by omega) (by omega)
set_option maxRecDepth 100000 in
set_option maxHeartbeats 4000000 in
theorem c_X6_goesAs (l : Launch) (G : zm_G) (A : Nat → Prop) (M : zm_M) (k v : Nat) (hk : k < 16) (hv : v < 17) : Met l yX6_goesAs (zm_W yX6_goesAs cX6_goesAs 2 (some .boolean)) (zm_rm 0 0 0) (zm_Pc G [.int (nI k), .int (nI v)] A M) (zm_Q G (fun r M' => r = some (.int (bI (gA k v))) ∧ M' = M) A) 0 0 A := by
  refine zm_start (by decide) (Nat.le_of_ble_eq_true rfl) ?_
  intro p e s m below meth c hx hb hml hr hts hown hlk hnm hE hA ls hl hM hS
  have hl : lv_has ls 2 [(0, .int (nI k)), (1, .int (nI v))] := hl
  refine lv_iload_n hx hb dX6_goesAs_0 rfl (lv_at hl 0 rfl) ?_
  refine lv_iload_n hx hb dX6_goesAs_1 rfl (lv_at hl 1 rfl) ?_
  refine lv_icmp_ne (tgt := 7) hx hb dX6_goesAs_2 (by decide) (fun c2 => ?_) (fun c2 => ?_)
  · have hne : ¬ k = v := fun e => c2 (by rw [e])
    refine lv_iload_n hx hb dX6_goesAs_7 rfl (lv_at hl 0 rfl) ?_
    rcases (show k = 0 ∨ k = 1 ∨ k = 2 ∨ k = 3 ∨ k = 4 ∨ k = 5 ∨ k = 6 ∨ k = 7 ∨ k = 8 ∨ k = 9 ∨ k = 10 ∨ k = 11 ∨ k = 12 ∨ k = 13 ∨ k = 14 ∨ k = 15 by omega) with rfl | rfl | rfl | rfl | rfl | rfl | rfl | rfl | rfl | rfl | rfl | rfl | rfl | rfl | rfl | rfl
    · refine lv_tableOut (tgt := 164) hx hb dX6_goesAs_8 (by decide) (by decide) ?_
      refine lv_iconst (v := 0) hx hb dX6_goesAs_164 (by decide) ?_
      refine zm_zret hx hb hr hlk hM hS (by first | exact Or.inl rfl | exact Or.inr rfl | exact bI_01 _) ?_ ⟨Nat.le_refl _, Nat.le_refl _⟩ dX6_goesAs_165
      refine ⟨?_, rfl⟩
      simp only [gA, bI]
      first | (simp [hne]; done) | (simp [hne, *]; done) | (simp_all; done)
    · refine lv_tableOut (tgt := 164) hx hb dX6_goesAs_8 (by decide) (by decide) ?_
      refine lv_iconst (v := 0) hx hb dX6_goesAs_164 (by decide) ?_
      refine zm_zret hx hb hr hlk hM hS (by first | exact Or.inl rfl | exact Or.inr rfl | exact bI_01 _) ?_ ⟨Nat.le_refl _, Nat.le_refl _⟩ dX6_goesAs_165
      refine ⟨?_, rfl⟩
      simp only [gA, bI]
      first | (simp [hne]; done) | (simp [hne, *]; done) | (simp_all; done)
    · refine lv_tableOut (tgt := 164) hx hb dX6_goesAs_8 (by decide) (by decide) ?_
      refine lv_iconst (v := 0) hx hb dX6_goesAs_164 (by decide) ?_
      refine zm_zret hx hb hr hlk hM hS (by first | exact Or.inl rfl | exact Or.inr rfl | exact bI_01 _) ?_ ⟨Nat.le_refl _, Nat.le_refl _⟩ dX6_goesAs_165
      refine ⟨?_, rfl⟩
      simp only [gA, bI]
      first | (simp [hne]; done) | (simp [hne, *]; done) | (simp_all; done)
    · refine lv_tableOut (tgt := 164) hx hb dX6_goesAs_8 (by decide) (by decide) ?_
      refine lv_iconst (v := 0) hx hb dX6_goesAs_164 (by decide) ?_
      refine zm_zret hx hb hr hlk hM hS (by first | exact Or.inl rfl | exact Or.inr rfl | exact bI_01 _) ?_ ⟨Nat.le_refl _, Nat.le_refl _⟩ dX6_goesAs_165
      refine ⟨?_, rfl⟩
      simp only [gA, bI]
      first | (simp [hne]; done) | (simp [hne, *]; done) | (simp_all; done)
    · refine lv_tableOut (tgt := 164) hx hb dX6_goesAs_8 (by decide) (by decide) ?_
      refine lv_iconst (v := 0) hx hb dX6_goesAs_164 (by decide) ?_
      refine zm_zret hx hb hr hlk hM hS (by first | exact Or.inl rfl | exact Or.inr rfl | exact bI_01 _) ?_ ⟨Nat.le_refl _, Nat.le_refl _⟩ dX6_goesAs_165
      refine ⟨?_, rfl⟩
      simp only [gA, bI]
      first | (simp [hne]; done) | (simp [hne, *]; done) | (simp_all; done)
    · refine lv_tableIn (off := 56) (tgt := 64) hx hb dX6_goesAs_8 (by decide) (by decide) rfl (by decide) ?_
      refine lv_iload_n hx hb dX6_goesAs_64 rfl (lv_at hl 1 rfl) ?_
      refine lv_iconst (v := 4) hx hb dX6_goesAs_65 (by decide) ?_
      refine lv_icmp_ne (tgt := 73) hx hb dX6_goesAs_66 (by decide) (fun c66 => ?_) (fun c66 => ?_)
      · rw [nv (x := 4) (c := 4) hv rfl (by decide)] at c66
        refine lv_iconst (v := 0) hx hb dX6_goesAs_73 (by decide) ?_
        refine zm_zret hx hb hr hlk hM hS (by first | exact Or.inl rfl | exact Or.inr rfl | exact bI_01 _) ?_ ⟨Nat.le_refl _, Nat.le_refl _⟩ dX6_goesAs_74
        refine ⟨?_, rfl⟩
        simp only [gA, bI]
        first | (simp [hne]; done) | (simp [hne, *]; done) | (simp_all; done)
      · rw [nv (x := 4) (c := 4) hv rfl (by decide)] at c66
        refine lv_iconst (v := 1) hx hb dX6_goesAs_69 (by decide) ?_
        refine lv_goto (tgt := 74) hx hb dX6_goesAs_70 (by decide) ?_
        refine zm_zret hx hb hr hlk hM hS (by first | exact Or.inl rfl | exact Or.inr rfl | exact bI_01 _) ?_ ⟨Nat.le_refl _, Nat.le_refl _⟩ dX6_goesAs_74
        refine ⟨?_, rfl⟩
        simp only [gA, bI]
        first | (simp [hne]; done) | (simp [hne, *]; done) | (simp_all; done)
    · refine lv_tableIn (off := 67) (tgt := 75) hx hb dX6_goesAs_8 (by decide) (by decide) rfl (by decide) ?_
      refine lv_iload_n hx hb dX6_goesAs_75 rfl (lv_at hl 1 rfl) ?_
      refine lv_iconst (v := 4) hx hb dX6_goesAs_76 (by decide) ?_
      refine lv_icmp_eq (tgt := 86) hx hb dX6_goesAs_77 (by decide) (fun c77 => ?_) (fun c77 => ?_)
      · rw [nv (x := 4) (c := 4) hv rfl (by decide)] at c77
        refine lv_iconst (v := 1) hx hb dX6_goesAs_86 (by decide) ?_
        refine lv_goto (tgt := 91) hx hb dX6_goesAs_87 (by decide) ?_
        refine zm_zret hx hb hr hlk hM hS (by first | exact Or.inl rfl | exact Or.inr rfl | exact bI_01 _) ?_ ⟨Nat.le_refl _, Nat.le_refl _⟩ dX6_goesAs_91
        refine ⟨?_, rfl⟩
        simp only [gA, bI]
        first | (simp [hne]; done) | (simp [hne, *]; done) | (simp_all; done)
      · rw [nv (x := 4) (c := 4) hv rfl (by decide)] at c77
        refine lv_iload_n hx hb dX6_goesAs_80 rfl (lv_at hl 1 rfl) ?_
        refine lv_bipush (v := 16) hx hb dX6_goesAs_81 (by decide) ?_
        refine lv_icmp_ne (tgt := 90) hx hb dX6_goesAs_83 (by decide) (fun c83 => ?_) (fun c83 => ?_)
        · rw [nv (x := 16) (c := 16) hv rfl (by decide)] at c83
          refine lv_iconst (v := 0) hx hb dX6_goesAs_90 (by decide) ?_
          refine zm_zret hx hb hr hlk hM hS (by first | exact Or.inl rfl | exact Or.inr rfl | exact bI_01 _) ?_ ⟨Nat.le_refl _, Nat.le_refl _⟩ dX6_goesAs_91
          refine ⟨?_, rfl⟩
          simp only [gA, bI]
          first | (simp [hne]; done) | (simp [hne, *]; done) | (simp_all; done)
        · rw [nv (x := 16) (c := 16) hv rfl (by decide)] at c83
          refine lv_iconst (v := 1) hx hb dX6_goesAs_86 (by decide) ?_
          refine lv_goto (tgt := 91) hx hb dX6_goesAs_87 (by decide) ?_
          refine zm_zret hx hb hr hlk hM hS (by first | exact Or.inl rfl | exact Or.inr rfl | exact bI_01 _) ?_ ⟨Nat.le_refl _, Nat.le_refl _⟩ dX6_goesAs_91
          refine ⟨?_, rfl⟩
          simp only [gA, bI]
          first | (simp [hne]; done) | (simp [hne, *]; done) | (simp_all; done)
    · refine lv_tableIn (off := 84) (tgt := 92) hx hb dX6_goesAs_8 (by decide) (by decide) rfl (by decide) ?_
      refine lv_iload_n hx hb dX6_goesAs_92 rfl (lv_at hl 1 rfl) ?_
      refine lv_bipush (v := 16) hx hb dX6_goesAs_93 (by decide) ?_
      refine lv_icmp_ne (tgt := 102) hx hb dX6_goesAs_95 (by decide) (fun c95 => ?_) (fun c95 => ?_)
      · rw [nv (x := 16) (c := 16) hv rfl (by decide)] at c95
        refine lv_iconst (v := 0) hx hb dX6_goesAs_102 (by decide) ?_
        refine zm_zret hx hb hr hlk hM hS (by first | exact Or.inl rfl | exact Or.inr rfl | exact bI_01 _) ?_ ⟨Nat.le_refl _, Nat.le_refl _⟩ dX6_goesAs_103
        refine ⟨?_, rfl⟩
        simp only [gA, bI]
        first | (simp [hne]; done) | (simp [hne, *]; done) | (simp_all; done)
      · rw [nv (x := 16) (c := 16) hv rfl (by decide)] at c95
        refine lv_iconst (v := 1) hx hb dX6_goesAs_98 (by decide) ?_
        refine lv_goto (tgt := 103) hx hb dX6_goesAs_99 (by decide) ?_
        refine zm_zret hx hb hr hlk hM hS (by first | exact Or.inl rfl | exact Or.inr rfl | exact bI_01 _) ?_ ⟨Nat.le_refl _, Nat.le_refl _⟩ dX6_goesAs_103
        refine ⟨?_, rfl⟩
        simp only [gA, bI]
        first | (simp [hne]; done) | (simp [hne, *]; done) | (simp_all; done)
    · refine lv_tableIn (off := 156) (tgt := 164) hx hb dX6_goesAs_8 (by decide) (by decide) rfl (by decide) ?_
      refine lv_iconst (v := 0) hx hb dX6_goesAs_164 (by decide) ?_
      refine zm_zret hx hb hr hlk hM hS (by first | exact Or.inl rfl | exact Or.inr rfl | exact bI_01 _) ?_ ⟨Nat.le_refl _, Nat.le_refl _⟩ dX6_goesAs_165
      refine ⟨?_, rfl⟩
      simp only [gA, bI]
      first | (simp [hne]; done) | (simp [hne, *]; done) | (simp_all; done)
    · refine lv_tableIn (off := 96) (tgt := 104) hx hb dX6_goesAs_8 (by decide) (by decide) rfl (by decide) ?_
      refine lv_iload_n hx hb dX6_goesAs_104 rfl (lv_at hl 1 rfl) ?_
      refine lv_bipush (v := 8) hx hb dX6_goesAs_105 (by decide) ?_
      refine lv_icmp_ne (tgt := 114) hx hb dX6_goesAs_107 (by decide) (fun c107 => ?_) (fun c107 => ?_)
      · rw [nv (x := 8) (c := 8) hv rfl (by decide)] at c107
        refine lv_iconst (v := 0) hx hb dX6_goesAs_114 (by decide) ?_
        refine zm_zret hx hb hr hlk hM hS (by first | exact Or.inl rfl | exact Or.inr rfl | exact bI_01 _) ?_ ⟨Nat.le_refl _, Nat.le_refl _⟩ dX6_goesAs_115
        refine ⟨?_, rfl⟩
        simp only [gA, bI]
        first | (simp [hne]; done) | (simp [hne, *]; done) | (simp_all; done)
      · rw [nv (x := 8) (c := 8) hv rfl (by decide)] at c107
        refine lv_iconst (v := 1) hx hb dX6_goesAs_110 (by decide) ?_
        refine lv_goto (tgt := 115) hx hb dX6_goesAs_111 (by decide) ?_
        refine zm_zret hx hb hr hlk hM hS (by first | exact Or.inl rfl | exact Or.inr rfl | exact bI_01 _) ?_ ⟨Nat.le_refl _, Nat.le_refl _⟩ dX6_goesAs_115
        refine ⟨?_, rfl⟩
        simp only [gA, bI]
        first | (simp [hne]; done) | (simp [hne, *]; done) | (simp_all; done)
    · refine lv_tableIn (off := 108) (tgt := 116) hx hb dX6_goesAs_8 (by decide) (by decide) rfl (by decide) ?_
      refine lv_iload_n hx hb dX6_goesAs_116 rfl (lv_at hl 1 rfl) ?_
      refine lv_bipush (v := 8) hx hb dX6_goesAs_117 (by decide) ?_
      refine lv_icmp_eq (tgt := 128) hx hb dX6_goesAs_119 (by decide) (fun c119 => ?_) (fun c119 => ?_)
      · rw [nv (x := 8) (c := 8) hv rfl (by decide)] at c119
        refine lv_iconst (v := 1) hx hb dX6_goesAs_128 (by decide) ?_
        refine lv_goto (tgt := 133) hx hb dX6_goesAs_129 (by decide) ?_
        refine zm_zret hx hb hr hlk hM hS (by first | exact Or.inl rfl | exact Or.inr rfl | exact bI_01 _) ?_ ⟨Nat.le_refl _, Nat.le_refl _⟩ dX6_goesAs_133
        refine ⟨?_, rfl⟩
        simp only [gA, bI]
        first | (simp [hne]; done) | (simp [hne, *]; done) | (simp_all; done)
      · rw [nv (x := 8) (c := 8) hv rfl (by decide)] at c119
        refine lv_iload_n hx hb dX6_goesAs_122 rfl (lv_at hl 1 rfl) ?_
        refine lv_bipush (v := 11) hx hb dX6_goesAs_123 (by decide) ?_
        refine lv_icmp_ne (tgt := 132) hx hb dX6_goesAs_125 (by decide) (fun c125 => ?_) (fun c125 => ?_)
        · rw [nv (x := 11) (c := 11) hv rfl (by decide)] at c125
          refine lv_iconst (v := 0) hx hb dX6_goesAs_132 (by decide) ?_
          refine zm_zret hx hb hr hlk hM hS (by first | exact Or.inl rfl | exact Or.inr rfl | exact bI_01 _) ?_ ⟨Nat.le_refl _, Nat.le_refl _⟩ dX6_goesAs_133
          refine ⟨?_, rfl⟩
          simp only [gA, bI]
          first | (simp [hne]; done) | (simp [hne, *]; done) | (simp_all; done)
        · rw [nv (x := 11) (c := 11) hv rfl (by decide)] at c125
          refine lv_iconst (v := 1) hx hb dX6_goesAs_128 (by decide) ?_
          refine lv_goto (tgt := 133) hx hb dX6_goesAs_129 (by decide) ?_
          refine zm_zret hx hb hr hlk hM hS (by first | exact Or.inl rfl | exact Or.inr rfl | exact bI_01 _) ?_ ⟨Nat.le_refl _, Nat.le_refl _⟩ dX6_goesAs_133
          refine ⟨?_, rfl⟩
          simp only [gA, bI]
          first | (simp [hne]; done) | (simp [hne, *]; done) | (simp_all; done)
    · refine lv_tableIn (off := 156) (tgt := 164) hx hb dX6_goesAs_8 (by decide) (by decide) rfl (by decide) ?_
      refine lv_iconst (v := 0) hx hb dX6_goesAs_164 (by decide) ?_
      refine zm_zret hx hb hr hlk hM hS (by first | exact Or.inl rfl | exact Or.inr rfl | exact bI_01 _) ?_ ⟨Nat.le_refl _, Nat.le_refl _⟩ dX6_goesAs_165
      refine ⟨?_, rfl⟩
      simp only [gA, bI]
      first | (simp [hne]; done) | (simp [hne, *]; done) | (simp_all; done)
    · refine lv_tableIn (off := 126) (tgt := 134) hx hb dX6_goesAs_8 (by decide) (by decide) rfl (by decide) ?_
      refine lv_iload_n hx hb dX6_goesAs_134 rfl (lv_at hl 1 rfl) ?_
      refine lv_bipush (v := 11) hx hb dX6_goesAs_135 (by decide) ?_
      refine lv_icmp_ne (tgt := 144) hx hb dX6_goesAs_137 (by decide) (fun c137 => ?_) (fun c137 => ?_)
      · rw [nv (x := 11) (c := 11) hv rfl (by decide)] at c137
        refine lv_iconst (v := 0) hx hb dX6_goesAs_144 (by decide) ?_
        refine zm_zret hx hb hr hlk hM hS (by first | exact Or.inl rfl | exact Or.inr rfl | exact bI_01 _) ?_ ⟨Nat.le_refl _, Nat.le_refl _⟩ dX6_goesAs_145
        refine ⟨?_, rfl⟩
        simp only [gA, bI]
        first | (simp [hne]; done) | (simp [hne, *]; done) | (simp_all; done)
      · rw [nv (x := 11) (c := 11) hv rfl (by decide)] at c137
        refine lv_iconst (v := 1) hx hb dX6_goesAs_140 (by decide) ?_
        refine lv_goto (tgt := 145) hx hb dX6_goesAs_141 (by decide) ?_
        refine zm_zret hx hb hr hlk hM hS (by first | exact Or.inl rfl | exact Or.inr rfl | exact bI_01 _) ?_ ⟨Nat.le_refl _, Nat.le_refl _⟩ dX6_goesAs_145
        refine ⟨?_, rfl⟩
        simp only [gA, bI]
        first | (simp [hne]; done) | (simp [hne, *]; done) | (simp_all; done)
    · refine lv_tableIn (off := 156) (tgt := 164) hx hb dX6_goesAs_8 (by decide) (by decide) rfl (by decide) ?_
      refine lv_iconst (v := 0) hx hb dX6_goesAs_164 (by decide) ?_
      refine zm_zret hx hb hr hlk hM hS (by first | exact Or.inl rfl | exact Or.inr rfl | exact bI_01 _) ?_ ⟨Nat.le_refl _, Nat.le_refl _⟩ dX6_goesAs_165
      refine ⟨?_, rfl⟩
      simp only [gA, bI]
      first | (simp [hne]; done) | (simp [hne, *]; done) | (simp_all; done)
    · refine lv_tableIn (off := 138) (tgt := 146) hx hb dX6_goesAs_8 (by decide) (by decide) rfl (by decide) ?_
      refine lv_iload_n hx hb dX6_goesAs_146 rfl (lv_at hl 1 rfl) ?_
      refine lv_bipush (v := 13) hx hb dX6_goesAs_147 (by decide) ?_
      refine lv_icmp_eq (tgt := 158) hx hb dX6_goesAs_149 (by decide) (fun c149 => ?_) (fun c149 => ?_)
      · rw [nv (x := 13) (c := 13) hv rfl (by decide)] at c149
        refine lv_iconst (v := 1) hx hb dX6_goesAs_158 (by decide) ?_
        refine lv_goto (tgt := 163) hx hb dX6_goesAs_159 (by decide) ?_
        refine zm_zret hx hb hr hlk hM hS (by first | exact Or.inl rfl | exact Or.inr rfl | exact bI_01 _) ?_ ⟨Nat.le_refl _, Nat.le_refl _⟩ dX6_goesAs_163
        refine ⟨?_, rfl⟩
        simp only [gA, bI]
        first | (simp [hne]; done) | (simp [hne, *]; done) | (simp_all; done)
      · rw [nv (x := 13) (c := 13) hv rfl (by decide)] at c149
        refine lv_iload_n hx hb dX6_goesAs_152 rfl (lv_at hl 1 rfl) ?_
        refine lv_bipush (v := 15) hx hb dX6_goesAs_153 (by decide) ?_
        refine lv_icmp_ne (tgt := 162) hx hb dX6_goesAs_155 (by decide) (fun c155 => ?_) (fun c155 => ?_)
        · rw [nv (x := 15) (c := 15) hv rfl (by decide)] at c155
          refine lv_iconst (v := 0) hx hb dX6_goesAs_162 (by decide) ?_
          refine zm_zret hx hb hr hlk hM hS (by first | exact Or.inl rfl | exact Or.inr rfl | exact bI_01 _) ?_ ⟨Nat.le_refl _, Nat.le_refl _⟩ dX6_goesAs_163
          refine ⟨?_, rfl⟩
          simp only [gA, bI]
          first | (simp [hne]; done) | (simp [hne, *]; done) | (simp_all; done)
        · rw [nv (x := 15) (c := 15) hv rfl (by decide)] at c155
          refine lv_iconst (v := 1) hx hb dX6_goesAs_158 (by decide) ?_
          refine lv_goto (tgt := 163) hx hb dX6_goesAs_159 (by decide) ?_
          refine zm_zret hx hb hr hlk hM hS (by first | exact Or.inl rfl | exact Or.inr rfl | exact bI_01 _) ?_ ⟨Nat.le_refl _, Nat.le_refl _⟩ dX6_goesAs_163
          refine ⟨?_, rfl⟩
          simp only [gA, bI]
          first | (simp [hne]; done) | (simp [hne, *]; done) | (simp_all; done)
    · refine lv_tableOut (tgt := 164) hx hb dX6_goesAs_8 (by decide) (by decide) ?_
      refine lv_iconst (v := 0) hx hb dX6_goesAs_164 (by decide) ?_
      refine zm_zret hx hb hr hlk hM hS (by first | exact Or.inl rfl | exact Or.inr rfl | exact bI_01 _) ?_ ⟨Nat.le_refl _, Nat.le_refl _⟩ dX6_goesAs_165
      refine ⟨?_, rfl⟩
      simp only [gA, bI]
      first | (simp [hne]; done) | (simp [hne, *]; done) | (simp_all; done)
  · refine lv_iconst (v := 1) hx hb dX6_goesAs_5 (by decide) ?_
    refine zm_zret hx hb hr hlk hM hS (by first | exact Or.inl rfl | exact Or.inr rfl | exact bI_01 _) ?_ ⟨Nat.le_refl _, Nat.le_refl _⟩ dX6_goesAs_6
    refine ⟨?_, rfl⟩
    have e : k = v := (nI_eq (by omega) (by omega)).mp c2
    subst e
    simp [gA, bI]
set_option maxRecDepth 100000 in
set_option maxHeartbeats 4000000 in
theorem c_X6_goes (l : Launch) (G : zm_G) (A : Nat → Prop) (q : Nat → Nat) (S : zS) (M : zm_M) (o : Option Nat) (v : Nat) (hv : v < 17) (ho : ∀ j, o = some j → j < s_np S) (hI : zInv S) (hR : RepR G q S M) : Met l yX6_goes (zm_W yX6_goes cX6_goes 3 (some .boolean)) (zm_rm 1 0 0) (zm_Pc G [.ref (q 0), .int (oI o), .int (nI v)] A M) (zm_Q G (fun r M' => r = some (.int (bI (goS S o v))) ∧ M' = M) A) 0 0 A := by
  refine zm_start (by decide) (Nat.le_of_ble_eq_true rfl) ?_
  intro p e s m below meth c hx hb hml hr hts hown hlk hnm hE hA ls hl hM hS
  have hl : lv_has ls 3 [(0, .ref (q 0)), (1, .int (oI o)), (2, .int (nI v))] := hl
  obtain ⟨f, g, hZ, hAb⟩ := hR
  have hnp := hI.1
  have hncc := hI.2.1
  refine lv_iload_n hx hb dX6_goes_0 rfl (lv_at hl 1 rfl) ?_
  refine lv_iconst (v := (-1)) hx hb dX6_goes_1 (by decide) ?_
  refine lv_icmp_eq (tgt := 18) hx hb dX6_goes_2 (by decide) (fun c2 => ?_) (fun c2 => ?_)
  · refine lv_iconst (v := 1) hx hb dX6_goes_18 (by decide) ?_
    refine lv_goto (tgt := 23) hx hb dX6_goes_19 (by decide) ?_
    refine zm_zret hx hb hr hlk hM hS (by first | exact Or.inl rfl | exact Or.inr rfl | exact bI_01 _) ?_ ⟨Nat.le_refl _, Nat.le_refl _⟩ dX6_goes_23
    refine ⟨?_, rfl⟩
    first | (rw [show goS S o v = true by rw [(oI_m1 (fun j hj => by have := ho j hj; omega)).mp c2]; rfl]; rfl) | (rw [show goS S (some j) v = true from bI_n.mp c15]; rfl) | (rw [show goS S (some j) v = false from bI_0.mp c15]; rfl)
  · obtain ⟨j, rfl⟩ : ∃ j, o = some j := by
      cases o with
      | none => exact absurd rfl c2
      | some j => exact ⟨j, rfl⟩
    have hj := ho j rfl
    have hl : lv_has ls 3 [(0, .ref (q 0)), (1, .int (nI j)), (2, .int (nI v))] := hl
    refine lv_aload_n hx hb dX6_goes_5 rfl (lv_at hl 0 rfl) ?_
    refine zm_get hx hb hts hown hE hM hZ.2.1 fl_X6_7_5 rfl dX6_goes_6 ?_
    refine lv_iload_n hx hb dX6_goes_9 rfl (lv_at hl 1 rfl) ?_
    refine zm_iald hx hb hE hM (hZ.ar 1) (vp_in_nI (show j < 50 by omega) (by decide)) dX6_goes_10 ?_
    refine zt_eq (v' := .int (nI (s_kd S j))) (by rw [nI_clamp (by omega)]; exact congrArg Value.int ((hAb.1 j hj).1)) ?_
    refine lv_iload_n hx hb dX6_goes_11 rfl (lv_at hl 2 rfl) ?_
    refine zm_callS (As := [.int (nI (s_kd S j)), .int (nI v)]) (rest := []) hx hb hml hts hown hE hA hM hS (c_X6_goesAs l G A _ (s_kd S j) v ((hI.2.2.1 j hj).1) (hv)) cd_X6_goesAs ml_X6_55 rfl rfl hl.1 (Nat.le_of_ble_eq_true rfl) ⟨Nat.le_of_ble_eq_true rfl, Nat.le_of_ble_eq_true rfl⟩ ⟨Nat.le_of_ble_eq_true rfl, Nat.le_of_ble_eq_true rfl⟩ dX6_goes_12 ?_
    rintro r M1 H locs ⟨rfl, e1⟩ hM hS
    rw [e1] at hM
    clear e1 M1
    refine W.eq (g2 := F0 m 15 ls [.int (bI (gA (s_kd S j) v))]) rfl ?_
    refine lv_if_eq (tgt := 22) hx hb dX6_goes_15 (by decide) (fun c15 => ?_) (fun c15 => ?_)
    · refine lv_iconst (v := 0) hx hb dX6_goes_22 (by decide) ?_
      refine zm_zret hx hb hr hlk hM hS (by first | exact Or.inl rfl | exact Or.inr rfl | exact bI_01 _) ?_ ⟨Nat.le_refl _, Nat.le_refl _⟩ dX6_goes_23
      refine ⟨?_, rfl⟩
      first | (rw [show goS S o v = true by rw [(oI_m1 (fun j hj => by have := ho j hj; omega)).mp c2]; rfl]; rfl) | (rw [show goS S (some j) v = true from bI_n.mp c15]; rfl) | (rw [show goS S (some j) v = false from bI_0.mp c15]; rfl)
    · refine lv_iconst (v := 1) hx hb dX6_goes_18 (by decide) ?_
      refine lv_goto (tgt := 23) hx hb dX6_goes_19 (by decide) ?_
      refine zm_zret hx hb hr hlk hM hS (by first | exact Or.inl rfl | exact Or.inr rfl | exact bI_01 _) ?_ ⟨Nat.le_refl _, Nat.le_refl _⟩ dX6_goes_23
      refine ⟨?_, rfl⟩
      first | (rw [show goS S o v = true by rw [(oI_m1 (fun j hj => by have := ho j hj; omega)).mp c2]; rfl]; rfl) | (rw [show goS S (some j) v = true from bI_n.mp c15]; rfl) | (rw [show goS S (some j) v = false from bI_0.mp c15]; rfl)
set_option maxRecDepth 100000 in
set_option maxHeartbeats 4000000 in
theorem c_X6_inner (l : Launch) (G : zm_G) (A : Nat → Prop) (M : zm_M) (k : Nat) (hk : 8 ≤ k) (hk2 : k ≤ 15) : Met l yX6_inner (zm_W yX6_inner cX6_inner 1 (some .int)) (zm_rm 0 0 0) (zm_Pc G [.int (nI k)] A M) (zm_Q G (fun r M' => r = some (.int (nI (inn k))) ∧ M' = M) A) 0 0 A := by
  refine zm_start (by decide) (Nat.le_of_ble_eq_true rfl) ?_
  intro p e s m below meth c hx hb hml hr hts hown hlk hnm hE hA ls hl hM hS
  have hl : lv_has ls 1 [(0, .int (nI k))] := hl
  refine lv_iload_n hx hb dX6_inner_0 rfl (lv_at hl 0 rfl) ?_
  rcases (show k = 8 ∨ k = 9 ∨ k = 10 ∨ k = 11 ∨ k = 12 ∨ k = 13 ∨ k = 14 ∨ k = 15 by omega) with rfl | rfl | rfl | rfl | rfl | rfl | rfl | rfl
  · refine lv_tableIn (off := 43) (tgt := 44) hx hb dX6_inner_1 (by decide) (by decide) rfl (by decide) ?_
    refine lv_iconst (v := 4) hx hb dX6_inner_44 (by decide) ?_
    refine zm_iret hx hb hr hlk hM hS ?_ ⟨Nat.le_refl _, Nat.le_refl _⟩ dX6_inner_45
    exact ⟨rfl, rfl⟩
  · refine lv_tableIn (off := 45) (tgt := 46) hx hb dX6_inner_1 (by decide) (by decide) rfl (by decide) ?_
    refine lv_iconst (v := 5) hx hb dX6_inner_46 (by decide) ?_
    refine zm_iret hx hb hr hlk hM hS ?_ ⟨Nat.le_refl _, Nat.le_refl _⟩ dX6_inner_47
    exact ⟨rfl, rfl⟩
  · refine lv_tableIn (off := 47) (tgt := 48) hx hb dX6_inner_1 (by decide) (by decide) rfl (by decide) ?_
    refine lv_bipush (v := 6) hx hb dX6_inner_48 (by decide) ?_
    refine zm_iret hx hb hr hlk hM hS ?_ ⟨Nat.le_refl _, Nat.le_refl _⟩ dX6_inner_50
    exact ⟨rfl, rfl⟩
  · refine lv_tableIn (off := 50) (tgt := 51) hx hb dX6_inner_1 (by decide) (by decide) rfl (by decide) ?_
    refine lv_bipush (v := 16) hx hb dX6_inner_51 (by decide) ?_
    refine zm_iret hx hb hr hlk hM hS ?_ ⟨Nat.le_refl _, Nat.le_refl _⟩ dX6_inner_53
    exact ⟨rfl, rfl⟩
  · refine lv_tableIn (off := 53) (tgt := 54) hx hb dX6_inner_1 (by decide) (by decide) rfl (by decide) ?_
    refine lv_bipush (v := 7) hx hb dX6_inner_54 (by decide) ?_
    refine zm_iret hx hb hr hlk hM hS ?_ ⟨Nat.le_refl _, Nat.le_refl _⟩ dX6_inner_56
    exact ⟨rfl, rfl⟩
  · refine lv_tableIn (off := 56) (tgt := 57) hx hb dX6_inner_1 (by decide) (by decide) rfl (by decide) ?_
    refine lv_bipush (v := 8) hx hb dX6_inner_57 (by decide) ?_
    refine zm_iret hx hb hr hlk hM hS ?_ ⟨Nat.le_refl _, Nat.le_refl _⟩ dX6_inner_59
    exact ⟨rfl, rfl⟩
  · refine lv_tableIn (off := 59) (tgt := 60) hx hb dX6_inner_1 (by decide) (by decide) rfl (by decide) ?_
    refine lv_bipush (v := 10) hx hb dX6_inner_60 (by decide) ?_
    refine zm_iret hx hb hr hlk hM hS ?_ ⟨Nat.le_refl _, Nat.le_refl _⟩ dX6_inner_62
    exact ⟨rfl, rfl⟩
  · refine lv_tableOut (tgt := 63) hx hb dX6_inner_1 (by decide) (by decide) ?_
    refine lv_bipush (v := 11) hx hb dX6_inner_63 (by decide) ?_
    refine zm_iret hx hb hr hlk hM hS ?_ ⟨Nat.le_refl _, Nat.le_refl _⟩ dX6_inner_65
    exact ⟨rfl, rfl⟩
set_option maxRecDepth 100000 in
set_option maxHeartbeats 4000000 in
theorem c_X6_many (l : Launch) (G : zm_G) (A : Nat → Prop) (q : Nat → Nat) (S : zS) (M : zm_M) (j : Nat) (hj : j < s_np S) (hI : zInv S) (hR : RepR G q S M) : Met l yX6_many (zm_W yX6_many cX6_many 2 (some .int)) (zm_rm 0 0 0) (zm_Pc G [.ref (q 0), .int (nI j)] A M) (zm_Q G (fun r M' => r = some (.int (nI (many S j))) ∧ M' = M) A) 0 0 A := by
  refine zm_start (by decide) (Nat.le_of_ble_eq_true rfl) ?_
  intro p e s m below meth c hx hb hml hr hts hown hlk hnm hE hA ls hl hM hS
  have hl : lv_has ls 2 [(0, .ref (q 0)), (1, .int (nI j))] := hl
  obtain ⟨f, g, hZ, hAb⟩ := hR
  have hnp := hI.1
  have hncc := hI.2.1
  refine lv_aload_n hx hb dX6_many_0 rfl (lv_at hl 0 rfl) ?_
  refine zm_get hx hb hts hown hE hM hZ.2.1 fl_X6_7_5 rfl dX6_many_1 ?_
  refine lv_iload_n hx hb dX6_many_4 rfl (lv_at hl 1 rfl) ?_
  refine zm_iald hx hb hE hM (hZ.ar 1) (vp_in_nI (show j < 50 by omega) (by decide)) dX6_many_5 ?_
  refine zt_eq (v' := .int (nI (s_kd S j))) (by rw [nI_clamp (by omega)]; exact congrArg Value.int ((hAb.1 j hj).1)) ?_
  refine lv_iconst (v := 3) hx hb dX6_many_6 (by decide) ?_
  refine lv_icmp_ne (tgt := 21) hx hb dX6_many_7 (by decide) (fun c7 => ?_) (fun c7 => ?_)
  · refine lv_aload_n hx hb dX6_many_21 rfl (lv_at hl 0 rfl) ?_
    refine zm_get hx hb hts hown hE hM hZ.2.1 fl_X6_13_5 rfl dX6_many_22 ?_
    refine lv_iload_n hx hb dX6_many_25 rfl (lv_at hl 1 rfl) ?_
    refine zm_iald hx hb hE hM (hZ.ar 2) (vp_in_nI (show j < 50 by omega) (by decide)) dX6_many_26 ?_
    refine zt_eq (v' := .int (nI (s_sz S j))) (by rw [nI_clamp (by omega)]; exact congrArg Value.int ((hAb.1 j hj).2.1)) ?_
    refine zm_iret hx hb hr hlk hM hS ?_ ⟨Nat.le_refl _, Nat.le_refl _⟩ dX6_many_27
    refine ⟨?_, rfl⟩
    have h16 := (hI.2.2.1 j hj).1
    unfold many
    first | (have h3 : s_kd S j = 3 := (nI_eq (b := 3) (by omega) (by omega)).mp c7; rw [if_pos h3, show (3 : Int32) = nI 3 from rfl, pk_mul]; done) | (have h3 : ¬ s_kd S j = 3 := fun e => c7 (by rw [e]; rfl); rw [if_neg h3]; done)
  · refine lv_iconst (v := 3) hx hb dX6_many_10 (by decide) ?_
    refine lv_aload_n hx hb dX6_many_11 rfl (lv_at hl 0 rfl) ?_
    refine zm_get hx hb hts hown hE hM hZ.2.1 fl_X6_13_5 rfl dX6_many_12 ?_
    refine lv_iload_n hx hb dX6_many_15 rfl (lv_at hl 1 rfl) ?_
    refine zm_iald hx hb hE hM (hZ.ar 2) (vp_in_nI (show j < 50 by omega) (by decide)) dX6_many_16 ?_
    refine zt_eq (v' := .int (nI (s_sz S j))) (by rw [nI_clamp (by omega)]; exact congrArg Value.int ((hAb.1 j hj).2.1)) ?_
    refine lv_imul hx hb dX6_many_17 ?_
    refine lv_goto (tgt := 27) hx hb dX6_many_18 (by decide) ?_
    refine zm_iret hx hb hr hlk hM hS ?_ ⟨Nat.le_refl _, Nat.le_refl _⟩ dX6_many_27
    refine ⟨?_, rfl⟩
    have h16 := (hI.2.2.1 j hj).1
    unfold many
    first | (have h3 : s_kd S j = 3 := (nI_eq (b := 3) (by omega) (by omega)).mp c7; rw [if_pos h3, show (3 : Int32) = nI 3 from rfl, pk_mul]; done) | (have h3 : ¬ s_kd S j = 3 := fun e => c7 (by rw [e]; rfl); rw [if_neg h3]; done)
end
section
set_option maxRecDepth 100000 in
set_option maxHeartbeats 4000000 in
theorem c_X6_hand (l : Launch) (G : zm_G) (A : Nat → Prop) (q : Nat → Nat) (S : zS) (M : zm_M) (hI : zInv S) (hR : RepR G q S M) : Met l yX6_hand (zm_W yX6_hand cX6_hand 1 (some .int)) (zm_rm 0 0 0) (zm_Pc G [.ref (q 0)] A M) (zm_Q G (fun r M' => r = some (.int (oI (s_hd S))) ∧ M' = M) A) 0 0 A := by
  refine zm_start (by decide) (Nat.le_of_ble_eq_true rfl) ?_
  intro p e s m below meth c hx hb hml hr hts hown hlk hnm hE hA ls hl hM hS
  have hl : lv_has ls 1 [(0, .ref (q 0))] := hl
  obtain ⟨f, g, hZ, hAb⟩ := hR
  have hnp := hI.1
  have hncc := hI.2.1
  refine lv_aload_n hx hb dX6_hand_0 rfl (lv_at hl 0 rfl) ?_
  refine zm_get hx hb hts hown hE hM hZ.2.1 fl_X6_29_5 rfl dX6_hand_1 ?_
  refine zm_iret hx hb hr hlk hM hS ?_ ⟨Nat.le_refl _, Nat.le_refl _⟩ dX6_hand_4
  exact ⟨rfl, rfl⟩
set_option maxRecDepth 100000 in
set_option maxHeartbeats 4000000 in
theorem c_X6_points (l : Launch) (G : zm_G) (A : Nat → Prop) (q : Nat → Nat) (S : zS) (M : zm_M) (hI : zInv S) (hR : RepR G q S M) : Met l yX6_points (zm_W yX6_points cX6_points 1 (some .long)) (zm_rm 0 0 0) (zm_Pc G [.ref (q 0)] A M) (zm_Q G (fun r M' => r = some (.long (s_po S)) ∧ M' = M) A) 0 0 A := by
  refine zm_start (by decide) (Nat.le_of_ble_eq_true rfl) ?_
  intro p e s m below meth c hx hb hml hr hts hown hlk hnm hE hA ls hl hM hS
  have hl : lv_has ls 1 [(0, .ref (q 0))] := hl
  obtain ⟨f, g, hZ, hAb⟩ := hR
  have hnp := hI.1
  have hncc := hI.2.1
  refine lv_aload_n hx hb dX6_points_0 rfl (lv_at hl 0 rfl) ?_
  refine zm_get hx hb hts hown hE hM hZ.2.1 fl_X6_113_5 rfl dX6_points_1 ?_
  refine zm_lret hx hb hr hlk hM hS ?_ ⟨Nat.le_refl _, Nat.le_refl _⟩ dX6_points_4
  exact ⟨rfl, rfl⟩
set_option maxRecDepth 100000 in
set_option maxHeartbeats 4000000 in
theorem c_X6_held (l : Launch) (G : zm_G) (A : Nat → Prop) (q : Nat → Nat) (S : zS) (M : zm_M) (x : Int32) (hI : zInv S) (hR : RepR G q S M) : Met l yX6_held (zm_W yX6_held cX6_held 2 (some .int)) (zm_rm 2 0 0) (zm_Pc G [.ref (q 0), .int x] A M) (zm_Q G (fun r M' => r = some (.int (sp_held S x)) ∧ M' = M) A) 0 0 A := by
  refine zm_start (by decide) (Nat.le_of_ble_eq_true rfl) ?_
  intro p e s m below meth c hx hb hml hr hts hown hlk hnm hE hA ls hl hM hS
  have hl : lv_has ls 2 [(0, .ref (q 0)), (1, .int x)] := hl
  obtain ⟨f, g, hZ, hAb⟩ := hR
  have hnp := hI.1
  have hncc := hI.2.1
  refine lv_iload_n hx hb dX6_held_0 rfl (lv_at hl 1 rfl) ?_
  refine zm_callS (As := [.int x]) (rest := []) hx hb hml hts hown hE hA hM hS (c_X6_isSlot l G A _ x) cd_X6_isSlot ml_X6_71 rfl rfl hl.1 (Nat.le_of_ble_eq_true rfl) ⟨Nat.le_of_ble_eq_true rfl, Nat.le_of_ble_eq_true rfl⟩ ⟨Nat.le_of_ble_eq_true rfl, Nat.le_of_ble_eq_true rfl⟩ dX6_held_1 ?_
  rintro r M1 H locs ⟨rfl, e1⟩ hM hS
  rw [e1] at hM
  clear e1 M1
  refine W.eq (g2 := F0 m 4 ls [.int (bI ((ix 10 x).isSome))]) rfl ?_
  refine lv_if_eq (tgt := 16) hx hb dX6_held_4 (by decide) (fun c4 => ?_) (fun c4 => ?_)
  · rw [bI_0] at c4
    have hix := isS_f c4
    refine lv_bipush (v := (-2)) hx hb dX6_held_16 (by decide) ?_
    refine zm_iret hx hb hr hlk hM hS ?_ ⟨Nat.le_refl _, Nat.le_refl _⟩ dX6_held_18
    refine ⟨?_, rfl⟩
    unfold sp_held
    rw [hix]
  · rw [bI_n] at c4
    obtain ⟨j, hix⟩ := isS_t c4
    obtain ⟨hj, rfl⟩ := ix_some (by omega) hix
    refine lv_aload_n hx hb dX6_held_7 rfl (lv_at hl 0 rfl) ?_
    refine zm_get hx hb hts hown hE hM hZ.2.1 fl_X6_26_5 rfl dX6_held_8 ?_
    refine lv_iload_n hx hb dX6_held_11 rfl (lv_at hl 1 rfl) ?_
    refine zm_iald hx hb hE hM (hZ.ar 6) (vp_in_nI (show j < 10 by omega) (by decide)) dX6_held_12 ?_
    refine zt_eq (v' := .int (oI (s_sl S j))) (by rw [nI_clamp (by omega)]; exact congrArg Value.int (hAb.2.2.2.1 j hj)) ?_
    refine lv_goto (tgt := 18) hx hb dX6_held_13 (by decide) ?_
    refine zm_iret hx hb hr hlk hM hS ?_ ⟨Nat.le_refl _, Nat.le_refl _⟩ dX6_held_18
    refine ⟨?_, rfl⟩
    unfold sp_held
    rw [hix]
set_option maxRecDepth 100000 in
set_option maxHeartbeats 4000000 in
theorem c_X6_slot (l : Launch) (G : zm_G) (A : Nat → Prop) (q : Nat → Nat) (S : zS) (M : zm_M) (x p0 : Int32) (hI : zInv S) (hR : RepR G q S M) : Met l yX6_slot (zm_W yX6_slot cX6_slot 4 (some .int)) (zm_rm 2 0 0) (zm_Pc G [.ref (q 0), .int x, .int p0] A M) (zm_Q G (fun r M' => r = some (.int (sp_slot S x p0).1) ∧ RepR G q (sp_slot S x p0).2 M') A) 0 0 A := by
  refine zm_start (by decide) (Nat.le_of_ble_eq_true rfl) ?_
  intro p e s m below meth c hx hb hml hr hts hown hlk hnm hE hA ls hl hM hS
  have hl : lv_has ls 4 [(0, .ref (q 0)), (1, .int x), (2, .int p0)] := hl
  obtain ⟨f, g, hZ, hAb⟩ := hR
  have hnp := hI.1
  have hncc := hI.2.1
  refine lv_iload_n hx hb dX6_slot_0 rfl (lv_at hl 1 rfl) ?_
  refine zm_callS (As := [.int x]) (rest := []) hx hb hml hts hown hE hA hM hS (c_X6_isSlot l G A _ x) cd_X6_isSlot ml_X6_71 rfl rfl hl.1 (Nat.le_of_ble_eq_true rfl) ⟨Nat.le_of_ble_eq_true rfl, Nat.le_of_ble_eq_true rfl⟩ ⟨Nat.le_of_ble_eq_true rfl, Nat.le_of_ble_eq_true rfl⟩ dX6_slot_1 ?_
  rintro r M1 H locs ⟨rfl, e1⟩ hM hS
  rw [e1] at hM
  clear e1 M1
  refine W.eq (g2 := F0 m 4 ls [.int (bI ((ix 10 x).isSome))]) rfl ?_
  refine lv_if_eq (tgt := 20) hx hb dX6_slot_4 (by decide) (fun c4 => ?_) (fun c4 => ?_)
  · rw [bI_0] at c4
    have hix := isS_f c4
    refine lv_bipush (v := (-2)) hx hb dX6_slot_20 (by decide) ?_
    refine zm_iret hx hb hr hlk hM hS ?_ ⟨Nat.le_refl _, Nat.le_refl _⟩ dX6_slot_22
    first | exact ⟨by rw [slot_bad1 hix], by rw [slot_bad1 hix]; exact ⟨f, g, hZ, hAb⟩⟩ | exact ⟨by rw [slot_bad2 (px_bad c9 hpn)], by rw [slot_bad2 (px_bad c9 hpn)]; exact ⟨f, g, hZ, hAb⟩⟩
  · rw [bI_n] at c4
    obtain ⟨j, hix⟩ := isS_t c4
    obtain ⟨hj, rfl⟩ := ix_some (by omega) hix
    refine lv_iload_n hx hb dX6_slot_7 rfl (lv_at hl 2 rfl) ?_
    refine lv_iconst (v := (-1)) hx hb dX6_slot_8 (by decide) ?_
    refine lv_icmp_eq (tgt := 23) hx hb dX6_slot_9 (by decide) (fun c9 => ?_) (fun c9 => ?_)
    · obtain ⟨o, ho, hpx⟩ : ∃ o, p0 = oI o ∧ px S p0 = some o := ⟨none, c9, by rw [px_m1 c9, c9, ix_lt (by decide)]⟩
      subst ho
      refine lv_aload_n hx hb dX6_slot_23 rfl (lv_at hl 0 rfl) ?_
      refine zm_get hx hb hts hown hE hM hZ.2.1 fl_X6_26_5 rfl dX6_slot_24 ?_
      refine lv_iload_n hx hb dX6_slot_27 rfl (lv_at hl 1 rfl) ?_
      refine zm_iald hx hb hE hM (hZ.ar 6) (vp_in_nI (show j < 10 by omega) (by decide)) dX6_slot_28 ?_
      refine zt_eq (v' := .int (oI (s_sl S j))) (by rw [nI_clamp (by omega)]; exact congrArg Value.int (hAb.2.2.2.1 j hj)) ?_
      refine lv_istore_n (lv' := [(3, .int (oI (s_sl S j))), (0, .ref (q 0)), (1, .int (nI j)), (2, .int (oI o))]) hx hb dX6_slot_29 rfl hl (by decide) rfl (fun ls hl => ?_)
      refine lv_aload_n hx hb dX6_slot_30 rfl (lv_at hl 1 rfl) ?_
      refine zm_get hx hb hts hown hE hM hZ.2.1 fl_X6_26_5 rfl dX6_slot_31 ?_
      refine lv_iload_n hx hb dX6_slot_34 rfl (lv_at hl 2 rfl) ?_
      refine lv_iload_n hx hb dX6_slot_35 rfl (lv_at hl 3 rfl) ?_
      refine zm_iast hx hb hE hM hS (hZ.ar 6) (vp_in_nI (show j < 10 by omega) (by decide)) dX6_slot_36 (fun H locs hM hS => ?_)
      rw [nI_clamp (by omega)] at hM
      have hZ2 := hZ.arr 6 (upd (f 6) j (oI o))
      have hR2 : RepR G q (w_sl S (va_up (s_sl S) j o)) _ := ⟨_, _, hZ2, abs_sl hAb j o⟩
      refine lv_iload_n hx hb dX6_slot_37 rfl (lv_at hl 0 rfl) ?_
      refine zm_iret hx hb hr hlk hM hS ?_ ⟨Nat.le_refl _, Nat.le_refl _⟩ dX6_slot_38
      have hs : sp_slot S (nI j) (oI o) = (oI (s_sl S j), w_sl S (va_up (s_sl S) j o)) := by unfold sp_slot; rw [hix, hpx]
      exact ⟨by rw [hs], by rw [hs]; exact hR2⟩
    · refine lv_aload_n hx hb dX6_slot_12 rfl (lv_at hl 0 rfl) ?_
      refine lv_iload_n hx hb dX6_slot_13 rfl (lv_at hl 2 rfl) ?_
      refine zm_callV (As := [.int p0]) (rest := []) hx hb hml hts hown hE hA hM hS hZ.2.1 rfl (c_X6_isProp l G A q S _ p0 hI ⟨f, g, hZ, hAb⟩) cd_X6_isProp ml_X6_63 rfl rfl hl.1 (Nat.le_of_ble_eq_true rfl) ⟨Nat.le_of_ble_eq_true rfl, Nat.le_of_ble_eq_true rfl⟩ ⟨Nat.le_of_ble_eq_true rfl, Nat.le_of_ble_eq_true rfl⟩ dX6_slot_14 ?_
      rintro r M1 H locs ⟨rfl, e1⟩ hM hS
      rw [e1] at hM
      clear e1 M1
      refine W.eq (g2 := F0 m 17 ls [.int (bI (ix (s_np S) p0).isSome)]) rfl ?_
      refine lv_if_ne (tgt := 23) hx hb dX6_slot_17 (by decide) (fun c17 => ?_) (fun c17 => ?_)
      · rw [bI_n] at c17
        obtain ⟨k, hk⟩ := isS_t c17
        obtain ⟨o, ho, hpx⟩ : ∃ o, p0 = oI o ∧ px S p0 = some o := ⟨some k, (ix_some (by omega) hk).2, by rw [px_some hI hk, hk]⟩
        subst ho
        refine lv_aload_n hx hb dX6_slot_23 rfl (lv_at hl 0 rfl) ?_
        refine zm_get hx hb hts hown hE hM hZ.2.1 fl_X6_26_5 rfl dX6_slot_24 ?_
        refine lv_iload_n hx hb dX6_slot_27 rfl (lv_at hl 1 rfl) ?_
        refine zm_iald hx hb hE hM (hZ.ar 6) (vp_in_nI (show j < 10 by omega) (by decide)) dX6_slot_28 ?_
        refine zt_eq (v' := .int (oI (s_sl S j))) (by rw [nI_clamp (by omega)]; exact congrArg Value.int (hAb.2.2.2.1 j hj)) ?_
        refine lv_istore_n (lv' := [(3, .int (oI (s_sl S j))), (0, .ref (q 0)), (1, .int (nI j)), (2, .int (oI o))]) hx hb dX6_slot_29 rfl hl (by decide) rfl (fun ls hl => ?_)
        refine lv_aload_n hx hb dX6_slot_30 rfl (lv_at hl 1 rfl) ?_
        refine zm_get hx hb hts hown hE hM hZ.2.1 fl_X6_26_5 rfl dX6_slot_31 ?_
        refine lv_iload_n hx hb dX6_slot_34 rfl (lv_at hl 2 rfl) ?_
        refine lv_iload_n hx hb dX6_slot_35 rfl (lv_at hl 3 rfl) ?_
        refine zm_iast hx hb hE hM hS (hZ.ar 6) (vp_in_nI (show j < 10 by omega) (by decide)) dX6_slot_36 (fun H locs hM hS => ?_)
        rw [nI_clamp (by omega)] at hM
        have hZ2 := hZ.arr 6 (upd (f 6) j (oI o))
        have hR2 : RepR G q (w_sl S (va_up (s_sl S) j o)) _ := ⟨_, _, hZ2, abs_sl hAb j o⟩
        refine lv_iload_n hx hb dX6_slot_37 rfl (lv_at hl 0 rfl) ?_
        refine zm_iret hx hb hr hlk hM hS ?_ ⟨Nat.le_refl _, Nat.le_refl _⟩ dX6_slot_38
        have hs : sp_slot S (nI j) (oI o) = (oI (s_sl S j), w_sl S (va_up (s_sl S) j o)) := by unfold sp_slot; rw [hix, hpx]
        exact ⟨by rw [hs], by rw [hs]; exact hR2⟩
      · rw [bI_0] at c17
        have hpn := isS_f c17
        refine lv_bipush (v := (-2)) hx hb dX6_slot_20 (by decide) ?_
        refine zm_iret hx hb hr hlk hM hS ?_ ⟨Nat.le_refl _, Nat.le_refl _⟩ dX6_slot_22
        first | exact ⟨by rw [slot_bad1 hix], by rw [slot_bad1 hix]; exact ⟨f, g, hZ, hAb⟩⟩ | exact ⟨by rw [slot_bad2 (px_bad c9 hpn)], by rw [slot_bad2 (px_bad c9 hpn)]; exact ⟨f, g, hZ, hAb⟩⟩
set_option maxRecDepth 100000 in
set_option maxHeartbeats 4000000 in
theorem c_X6_set (l : Launch) (G : zm_G) (A : Nat → Prop) (q : Nat → Nat) (S : zS) (M : zm_M) (p0 i v : Int32) (hI : zInv S) (hR : RepR G q S M) : Met l yX6_set (zm_W yX6_set cX6_set 4 (some .int)) (zm_rm 2 0 0) (zm_Pc G [.ref (q 0), .int p0, .int i, .int v] A M) (zm_Q G (fun r M' => r = some (.int (sp_set S p0 i v).1) ∧ RepR G q (sp_set S p0 i v).2 M') A) 0 0 A := by
  refine zm_start (by decide) (Nat.le_of_ble_eq_true rfl) ?_
  intro p e s m below meth c hx hb hml hr hts hown hlk hnm hE hA ls hl hM hS
  have hl : lv_has ls 4 [(0, .ref (q 0)), (1, .int p0), (2, .int i), (3, .int v)] := hl
  obtain ⟨f, g, hZ, hAb⟩ := hR
  have hnp := hI.1
  have hncc := hI.2.1
  refine lv_aload_n hx hb dX6_set_0 rfl (lv_at hl 0 rfl) ?_
  refine lv_iload_n hx hb dX6_set_1 rfl (lv_at hl 1 rfl) ?_
  refine zm_callV (As := [.int p0]) (rest := []) hx hb hml hts hown hE hA hM hS hZ.2.1 rfl (c_X6_isProp l G A q S _ p0 hI ⟨f, g, hZ, hAb⟩) cd_X6_isProp ml_X6_63 rfl rfl hl.1 (Nat.le_of_ble_eq_true rfl) ⟨Nat.le_of_ble_eq_true rfl, Nat.le_of_ble_eq_true rfl⟩ ⟨Nat.le_of_ble_eq_true rfl, Nat.le_of_ble_eq_true rfl⟩ dX6_set_2 ?_
  rintro r M1 H locs ⟨rfl, e1⟩ hM hS
  rw [e1] at hM
  clear e1 M1
  refine W.eq (g2 := F0 m 5 ls [.int (bI (ix (s_np S) p0).isSome)]) rfl ?_
  refine lv_if_ne (tgt := 11) hx hb dX6_set_5 (by decide) (fun c5 => ?_) (fun c5 => ?_)
  · rw [bI_n] at c5
    obtain ⟨j, hix⟩ := isS_t c5
    obtain ⟨hj, rfl⟩ := ix_some (by omega) hix
    refine lv_aload_n hx hb dX6_set_11 rfl (lv_at hl 0 rfl) ?_
    refine zm_get hx hb hts hown hE hM hZ.2.1 fl_X6_7_5 rfl dX6_set_12 ?_
    refine lv_iload_n hx hb dX6_set_15 rfl (lv_at hl 1 rfl) ?_
    refine zm_iald hx hb hE hM (hZ.ar 1) (vp_in_nI (show j < 50 by omega) (by decide)) dX6_set_16 ?_
    refine zt_eq (v' := .int (nI (s_kd S j))) (by rw [nI_clamp (by omega)]; exact congrArg Value.int ((hAb.1 j hj).1)) ?_
    refine lv_iconst (v := 3) hx hb dX6_set_17 (by decide) ?_
    refine lv_icmp_le (tgt := 24) hx hb dX6_set_18 (by decide) (fun c18 => ?_) (fun c18 => ?_)
    · have h16 := (hI.2.2.1 j hj).1
      have hk4 : s_kd S j < 4 := by rw [show (3 : Int32) = nI 3 from rfl, nI_leI (by omega) (by omega)] at c18; omega
      have hm := many15 hI hj hk4
      refine lv_iload_n hx hb dX6_set_24 rfl (lv_at hl 2 rfl) ?_
      refine lv_iconst (v := 0) hx hb dX6_set_25 (by decide) ?_
      refine lv_aload_n hx hb dX6_set_26 rfl (lv_at hl 0 rfl) ?_
      refine lv_iload_n hx hb dX6_set_27 rfl (lv_at hl 1 rfl) ?_
      refine zm_callV (As := [.int (nI j)]) (rest := [.int 0, .int i]) hx hb hml hts hown hE hA hM hS hZ.2.1 rfl (c_X6_many l G A q S _ j hj hI ⟨f, g, hZ, hAb⟩) cd_X6_many ml_X6_66 rfl rfl hl.1 (Nat.le_of_ble_eq_true rfl) ⟨Nat.le_of_ble_eq_true rfl, Nat.le_of_ble_eq_true rfl⟩ ⟨Nat.le_of_ble_eq_true rfl, Nat.le_of_ble_eq_true rfl⟩ dX6_set_28 ?_
      rintro r M1 H locs ⟨rfl, e1⟩ hM hS
      rw [e1] at hM
      clear e1 M1
      refine W.eq (g2 := F0 m 31 ls [.int (nI (many S j)), .int 0, .int i]) rfl ?_
      refine lv_iconst (v := 1) hx hb dX6_set_31 (by decide) ?_
      refine lv_isub hx hb dX6_set_32 ?_
      refine zm_callS (As := [.int i, .int 0, .int ((nI (many S j)) - 1)]) (rest := []) hx hb hml hts hown hE hA hM hS (c_X6_isIn l G A _ i 0 ((nI (many S j)) - 1)) cd_X6_isIn ml_X6_51 rfl rfl hl.1 (Nat.le_of_ble_eq_true rfl) ⟨Nat.le_of_ble_eq_true rfl, Nat.le_of_ble_eq_true rfl⟩ ⟨Nat.le_of_ble_eq_true rfl, Nat.le_of_ble_eq_true rfl⟩ dX6_set_33 ?_
      rintro r M1 H locs ⟨rfl, e1⟩ hM hS
      rw [e1] at hM
      clear e1 M1
      refine W.eq (g2 := F0 m 36 ls [.int (bI (zbt 0 ((nI (many S j)) - 1) i))]) rfl ?_
      refine lv_if_ne (tgt := 42) hx hb dX6_set_36 (by decide) (fun c36 => ?_) (fun c36 => ?_)
      · rw [zbt_np (by omega), bI_n] at c36
        obtain ⟨ii, hii⟩ := isS_t c36
        obtain ⟨hi, rfl⟩ := ix_some (by omega) hii
        refine lv_aload_n hx hb dX6_set_42 rfl (lv_at hl 0 rfl) ?_
        refine zm_get hx hb hts hown hE hM hZ.2.1 fl_X6_19_5 rfl dX6_set_43 ?_
        refine lv_bipush (v := 15) hx hb dX6_set_46 (by decide) ?_
        refine lv_iload_n hx hb dX6_set_48 rfl (lv_at hl 1 rfl) ?_
        refine lv_imul hx hb dX6_set_49 ?_
        refine lv_iload_n hx hb dX6_set_50 rfl (lv_at hl 2 rfl) ?_
        refine lv_iadd hx hb dX6_set_51 ?_
        refine lv_aload_n hx hb dX6_set_52 rfl (lv_at hl 0 rfl) ?_
        refine zm_get hx hb hts hown hE hM hZ.2.1 fl_X6_7_5 rfl dX6_set_53 ?_
        refine lv_iload_n hx hb dX6_set_56 rfl (lv_at hl 1 rfl) ?_
        refine zm_iald hx hb hE hM (hZ.ar 1) (vp_in_nI (show j < 50 by omega) (by decide)) dX6_set_57 ?_
        refine zt_eq (v' := .int (nI (s_kd S j))) (by rw [nI_clamp (by omega)]; exact congrArg Value.int ((hAb.1 j hj).1)) ?_
        refine lv_if_ne (tgt := 69) hx hb dX6_set_58 (by decide) (fun c58 => ?_) (fun c58 => ?_)
        · have n0 : ¬ s_kd S j = 0 := fun e => c58 (by rw [e]; rfl)
          refine lv_aload_n hx hb dX6_set_69 rfl (lv_at hl 0 rfl) ?_
          refine zm_get hx hb hts hown hE hM hZ.2.1 fl_X6_7_5 rfl dX6_set_70 ?_
          refine lv_iload_n hx hb dX6_set_73 rfl (lv_at hl 1 rfl) ?_
          refine zm_iald hx hb hE hM (hZ.ar 1) (vp_in_nI (show j < 50 by omega) (by decide)) dX6_set_74 ?_
          refine zt_eq (v' := .int (nI (s_kd S j))) (by rw [nI_clamp (by omega)]; exact congrArg Value.int ((hAb.1 j hj).1)) ?_
          refine lv_iconst (v := 1) hx hb dX6_set_75 (by decide) ?_
          refine lv_icmp_ne (tgt := 85) hx hb dX6_set_76 (by decide) (fun c76 => ?_) (fun c76 => ?_)
          · have n1 : ¬ s_kd S j = 1 := fun e => c76 (by rw [e]; rfl)
            refine lv_aload_n hx hb dX6_set_85 rfl (lv_at hl 0 rfl) ?_
            refine zm_get hx hb hts hown hE hM hZ.2.1 fl_X6_7_5 rfl dX6_set_86 ?_
            refine lv_iload_n hx hb dX6_set_89 rfl (lv_at hl 1 rfl) ?_
            refine zm_iald hx hb hE hM (hZ.ar 1) (vp_in_nI (show j < 50 by omega) (by decide)) dX6_set_90 ?_
            refine zt_eq (v' := .int (nI (s_kd S j))) (by rw [nI_clamp (by omega)]; exact congrArg Value.int ((hAb.1 j hj).1)) ?_
            refine lv_iconst (v := 2) hx hb dX6_set_91 (by decide) ?_
            refine lv_icmp_ne (tgt := 100) hx hb dX6_set_92 (by decide) (fun c92 => ?_) (fun c92 => ?_)
            · have n2 : ¬ s_kd S j = 2 := fun e => c92 (by rw [e]; rfl)
              have h3 : s_kd S j = 3 := by omega
              refine lv_iload_n hx hb dX6_set_100 rfl (lv_at hl 3 rfl) ?_
              refine lv_i2b hx hb dX6_set_101 rfl ?_
              refine lv_i2l hx hb dX6_set_102 rfl ?_
              refine W.eq (g2 := F0 m 103 ls (.long v.toInt8.toInt32.toInt64 :: .int (nI (15 * j + ii)) :: .ref (q 4) :: [])) (by rw [idx15]) ?_
              refine zm_last hx hb hE hM hS hZ.2.2.2 (vp_in_nI (show 15 * j + ii < 750 by omega) (by decide)) dX6_set_103 (fun H locs hM hS => ?_)
              rw [nI_clamp (by omega)] at hM
              have hcv : v.toInt8.toInt32.toInt64 = cutV (s_kd S j) v := by first | (rw [h0]; rfl) | (rw [h1]; rfl) | (rw [h2]; rfl) | (rw [h3]; rfl)
              rw [hcv] at hM
              have hR2 : RepR G q (w_nu S (up2 (s_nu S) j ii (cutV (s_kd S j) v))) _ := ⟨_, _, hZ.num _, abs_nu hAb j ii (cutV (s_kd S j) v) (by omega)⟩
              refine lv_iconst (v := 1) hx hb dX6_set_104 (by decide) ?_
              refine zm_iret hx hb hr hlk hM hS ?_ ⟨Nat.le_refl _, Nat.le_refl _⟩ dX6_set_105
              exact ⟨by rw [set_ok hix hk4 hii], by rw [set_ok hix hk4 hii]; exact hR2⟩
            · have h2 : s_kd S j = 2 := (nI_eq (b := 2) (by omega) (by omega)).mp c92
              refine lv_iload_n hx hb dX6_set_95 rfl (lv_at hl 3 rfl) ?_
              refine lv_i2l hx hb dX6_set_96 rfl ?_
              refine lv_goto (tgt := 103) hx hb dX6_set_97 (by decide) ?_
              refine W.eq (g2 := F0 m 103 ls (.long v.toInt64 :: .int (nI (15 * j + ii)) :: .ref (q 4) :: [])) (by rw [idx15]) ?_
              refine zm_last hx hb hE hM hS hZ.2.2.2 (vp_in_nI (show 15 * j + ii < 750 by omega) (by decide)) dX6_set_103 (fun H locs hM hS => ?_)
              rw [nI_clamp (by omega)] at hM
              have hcv : v.toInt64 = cutV (s_kd S j) v := by first | (rw [h0]; rfl) | (rw [h1]; rfl) | (rw [h2]; rfl) | (rw [h3]; rfl)
              rw [hcv] at hM
              have hR2 : RepR G q (w_nu S (up2 (s_nu S) j ii (cutV (s_kd S j) v))) _ := ⟨_, _, hZ.num _, abs_nu hAb j ii (cutV (s_kd S j) v) (by omega)⟩
              refine lv_iconst (v := 1) hx hb dX6_set_104 (by decide) ?_
              refine zm_iret hx hb hr hlk hM hS ?_ ⟨Nat.le_refl _, Nat.le_refl _⟩ dX6_set_105
              exact ⟨by rw [set_ok hix hk4 hii], by rw [set_ok hix hk4 hii]; exact hR2⟩
          · have h1 : s_kd S j = 1 := (nI_eq (b := 1) (by omega) (by omega)).mp c76
            refine lv_iload_n hx hb dX6_set_79 rfl (lv_at hl 3 rfl) ?_
            refine lv_i2s hx hb dX6_set_80 rfl ?_
            refine lv_i2l hx hb dX6_set_81 rfl ?_
            refine lv_goto (tgt := 103) hx hb dX6_set_82 (by decide) ?_
            refine W.eq (g2 := F0 m 103 ls (.long v.toInt16.toInt32.toInt64 :: .int (nI (15 * j + ii)) :: .ref (q 4) :: [])) (by rw [idx15]) ?_
            refine zm_last hx hb hE hM hS hZ.2.2.2 (vp_in_nI (show 15 * j + ii < 750 by omega) (by decide)) dX6_set_103 (fun H locs hM hS => ?_)
            rw [nI_clamp (by omega)] at hM
            have hcv : v.toInt16.toInt32.toInt64 = cutV (s_kd S j) v := by first | (rw [h0]; rfl) | (rw [h1]; rfl) | (rw [h2]; rfl) | (rw [h3]; rfl)
            rw [hcv] at hM
            have hR2 : RepR G q (w_nu S (up2 (s_nu S) j ii (cutV (s_kd S j) v))) _ := ⟨_, _, hZ.num _, abs_nu hAb j ii (cutV (s_kd S j) v) (by omega)⟩
            refine lv_iconst (v := 1) hx hb dX6_set_104 (by decide) ?_
            refine zm_iret hx hb hr hlk hM hS ?_ ⟨Nat.le_refl _, Nat.le_refl _⟩ dX6_set_105
            exact ⟨by rw [set_ok hix hk4 hii], by rw [set_ok hix hk4 hii]; exact hR2⟩
        · have h0 : s_kd S j = 0 := (nI_eq (b := 0) (by omega) (by omega)).mp c58
          refine lv_iload_n hx hb dX6_set_61 rfl (lv_at hl 3 rfl) ?_
          refine lv_ldc (v := 65535) hx hb hown (hts _ cst_X6_70) dX6_set_62 ?_
          refine lv_iand hx hb dX6_set_64 ?_
          refine lv_i2l hx hb dX6_set_65 rfl ?_
          refine lv_goto (tgt := 103) hx hb dX6_set_66 (by decide) ?_
          refine W.eq (g2 := F0 m 103 ls (.long ((v &&& 65535).toInt64) :: .int (nI (15 * j + ii)) :: .ref (q 4) :: [])) (by rw [idx15]) ?_
          refine zm_last hx hb hE hM hS hZ.2.2.2 (vp_in_nI (show 15 * j + ii < 750 by omega) (by decide)) dX6_set_103 (fun H locs hM hS => ?_)
          rw [nI_clamp (by omega)] at hM
          have hcv : (v &&& 65535).toInt64 = cutV (s_kd S j) v := by first | (rw [h0]; rfl) | (rw [h1]; rfl) | (rw [h2]; rfl) | (rw [h3]; rfl)
          rw [hcv] at hM
          have hR2 : RepR G q (w_nu S (up2 (s_nu S) j ii (cutV (s_kd S j) v))) _ := ⟨_, _, hZ.num _, abs_nu hAb j ii (cutV (s_kd S j) v) (by omega)⟩
          refine lv_iconst (v := 1) hx hb dX6_set_104 (by decide) ?_
          refine zm_iret hx hb hr hlk hM hS ?_ ⟨Nat.le_refl _, Nat.le_refl _⟩ dX6_set_105
          exact ⟨by rw [set_ok hix hk4 hii], by rw [set_ok hix hk4 hii]; exact hR2⟩
      · rw [zbt_np (by omega), bI_0] at c36
        have hii := isS_f c36
        refine lv_bipush (v := (-6)) hx hb dX6_set_39 (by decide) ?_
        refine zm_iret hx hb hr hlk hM hS ?_ ⟨Nat.le_refl _, Nat.le_refl _⟩ dX6_set_41
        exact ⟨by rw [set_ix hix hk4 hii], by rw [set_ix hix hk4 hii]; exact ⟨f, g, hZ, hAb⟩⟩
    · have h16 := (hI.2.2.1 j hj).1
      have h3k : 3 < s_kd S j := by rw [show (3 : Int32) = nI 3 from rfl, nI_leI (by omega) (by omega)] at c18; omega
      refine lv_bipush (v := (-5)) hx hb dX6_set_21 (by decide) ?_
      refine zm_iret hx hb hr hlk hM hS ?_ ⟨Nat.le_refl _, Nat.le_refl _⟩ dX6_set_23
      exact ⟨by rw [set_cast hix h3k], by rw [set_cast hix h3k]; exact ⟨f, g, hZ, hAb⟩⟩
  · rw [bI_0] at c5
    have hix := isS_f c5
    refine lv_bipush (v := (-2)) hx hb dX6_set_8 (by decide) ?_
    refine zm_iret hx hb hr hlk hM hS ?_ ⟨Nat.le_refl _, Nat.le_refl _⟩ dX6_set_10
    exact ⟨by rw [set_bad hix], by rw [set_bad hix]; exact ⟨f, g, hZ, hAb⟩⟩
theorem zbt_n {a b v : Nat} (ha : a < 1000) (hb : b < 1000) (hv : v < 1000) : zbt (nI a) (nI b) (nI v) = (decide (a ≤ v) && decide (v ≤ b)) := by
  unfold zbt
  congr 1 <;> exact decide_eq_decide.mpr (by rw [nI_ltI (by omega) (by omega)]; omega)
set_option maxRecDepth 100000 in
set_option maxHeartbeats 4000000 in
theorem c_X6_has (l : Launch) (G : zm_G) (A : Nat → Prop) (M : zm_M) (k v : Nat) (hk : k < 6) (hv : v < 17) : Met l yX6_has (zm_W yX6_has cX6_has 2 (some .boolean)) (zm_rm 2 0 0) (zm_Pc G [.int (nI k), .int (nI v)] A M) (zm_Q G (fun r M' => r = some (.int (bI (hasV k v))) ∧ M' = M) A) 0 0 A := by
  refine zm_start (by decide) (Nat.le_of_ble_eq_true rfl) ?_
  intro p e s m below meth c hx hb hml hr hts hown hlk hnm hE hA ls hl hM hS
  have hl : lv_has ls 2 [(0, .int (nI k)), (1, .int (nI v))] := hl
  refine lv_iload_n hx hb dX6_has_0 rfl (lv_at hl 0 rfl) ?_
  rcases (show k = 0 ∨ k = 1 ∨ k = 2 ∨ k = 3 ∨ k = 4 ∨ k = 5 by omega) with rfl | rfl | rfl | rfl | rfl | rfl
  · refine lv_tableOut (tgt := 71) hx hb dX6_has_1 (by decide) (by decide) ?_
    refine lv_iconst (v := 1) hx hb dX6_has_71 (by decide) ?_
    refine zm_zret hx hb hr hlk hM hS (by first | exact Or.inl rfl | exact Or.inr rfl | exact bI_01 _) ?_ ⟨Nat.le_refl _, Nat.le_refl _⟩ dX6_has_72
    exact ⟨rfl, rfl⟩
  · refine lv_tableIn (off := 27) (tgt := 28) hx hb dX6_has_1 (by decide) (by decide) rfl (by decide) ?_
    refine lv_iload_n hx hb dX6_has_28 rfl (lv_at hl 1 rfl) ?_
    refine lv_iconst (v := 4) hx hb dX6_has_29 (by decide) ?_
    refine lv_bipush (v := 6) hx hb dX6_has_30 (by decide) ?_
    refine zm_callS (As := [.int (nI v), .int 4, .int 6]) (rest := []) hx hb hml hts hown hE hA hM hS (c_X6_isIn l G A _ (nI v) 4 6) cd_X6_isIn ml_X6_51 rfl rfl hl.1 (Nat.le_of_ble_eq_true rfl) ⟨Nat.le_of_ble_eq_true rfl, Nat.le_of_ble_eq_true rfl⟩ ⟨Nat.le_of_ble_eq_true rfl, Nat.le_of_ble_eq_true rfl⟩ dX6_has_32 ?_
    rintro r M1 H locs ⟨rfl, e1⟩ hM hS
    rw [e1] at hM
    clear e1 M1
    refine W.eq (g2 := F0 m 35 ls [.int (bI (zbt 4 6 (nI v)))]) rfl ?_
    refine lv_if_ne (tgt := 60) hx hb dX6_has_35 (by decide) (fun c35 => ?_) (fun c35 => ?_)
    · rw [show zbt 4 6 (nI v) = (decide (4 ≤ v) && decide (v ≤ 6)) from zbt_n (a := 4) (b := 6) (by decide) (by decide) (by omega)] at c35
      rw [bI_n] at c35
      refine lv_iconst (v := 1) hx hb dX6_has_60 (by decide) ?_
      refine lv_goto (tgt := 65) hx hb dX6_has_61 (by decide) ?_
      refine zm_zret hx hb hr hlk hM hS (by first | exact Or.inl rfl | exact Or.inr rfl | exact bI_01 _) ?_ ⟨Nat.le_refl _, Nat.le_refl _⟩ dX6_has_65
      refine ⟨?_, rfl⟩
      simp only [hasV]
      first | (rw [c35]; rfl) | (rw [c35, c46]; rfl) | (rw [c35, c46, c57]; rfl)
    · rw [show zbt 4 6 (nI v) = (decide (4 ≤ v) && decide (v ≤ 6)) from zbt_n (a := 4) (b := 6) (by decide) (by decide) (by omega)] at c35
      rw [bI_0] at c35
      refine lv_iload_n hx hb dX6_has_38 rfl (lv_at hl 1 rfl) ?_
      refine lv_bipush (v := 8) hx hb dX6_has_39 (by decide) ?_
      refine lv_bipush (v := 10) hx hb dX6_has_41 (by decide) ?_
      refine zm_callS (As := [.int (nI v), .int 8, .int 10]) (rest := []) hx hb hml hts hown hE hA hM hS (c_X6_isIn l G A _ (nI v) 8 10) cd_X6_isIn ml_X6_51 rfl rfl hl.1 (Nat.le_of_ble_eq_true rfl) ⟨Nat.le_of_ble_eq_true rfl, Nat.le_of_ble_eq_true rfl⟩ ⟨Nat.le_of_ble_eq_true rfl, Nat.le_of_ble_eq_true rfl⟩ dX6_has_43 ?_
      rintro r M1 H locs ⟨rfl, e1⟩ hM hS
      rw [e1] at hM
      clear e1 M1
      refine W.eq (g2 := F0 m 46 ls [.int (bI (zbt 8 10 (nI v)))]) rfl ?_
      refine lv_if_ne (tgt := 60) hx hb dX6_has_46 (by decide) (fun c46 => ?_) (fun c46 => ?_)
      · rw [show zbt 8 10 (nI v) = (decide (8 ≤ v) && decide (v ≤ 10)) from zbt_n (a := 8) (b := 10) (by decide) (by decide) (by omega)] at c46
        rw [bI_n] at c46
        refine lv_iconst (v := 1) hx hb dX6_has_60 (by decide) ?_
        refine lv_goto (tgt := 65) hx hb dX6_has_61 (by decide) ?_
        refine zm_zret hx hb hr hlk hM hS (by first | exact Or.inl rfl | exact Or.inr rfl | exact bI_01 _) ?_ ⟨Nat.le_refl _, Nat.le_refl _⟩ dX6_has_65
        refine ⟨?_, rfl⟩
        simp only [hasV]
        first | (rw [c35]; rfl) | (rw [c35, c46]; rfl) | (rw [c35, c46, c57]; rfl)
      · rw [show zbt 8 10 (nI v) = (decide (8 ≤ v) && decide (v ≤ 10)) from zbt_n (a := 8) (b := 10) (by decide) (by decide) (by omega)] at c46
        rw [bI_0] at c46
        refine lv_iload_n hx hb dX6_has_49 rfl (lv_at hl 1 rfl) ?_
        refine lv_bipush (v := 13) hx hb dX6_has_50 (by decide) ?_
        refine lv_bipush (v := 14) hx hb dX6_has_52 (by decide) ?_
        refine zm_callS (As := [.int (nI v), .int 13, .int 14]) (rest := []) hx hb hml hts hown hE hA hM hS (c_X6_isIn l G A _ (nI v) 13 14) cd_X6_isIn ml_X6_51 rfl rfl hl.1 (Nat.le_of_ble_eq_true rfl) ⟨Nat.le_of_ble_eq_true rfl, Nat.le_of_ble_eq_true rfl⟩ ⟨Nat.le_of_ble_eq_true rfl, Nat.le_of_ble_eq_true rfl⟩ dX6_has_54 ?_
        rintro r M1 H locs ⟨rfl, e1⟩ hM hS
        rw [e1] at hM
        clear e1 M1
        refine W.eq (g2 := F0 m 57 ls [.int (bI (zbt 13 14 (nI v)))]) rfl ?_
        refine lv_if_eq (tgt := 64) hx hb dX6_has_57 (by decide) (fun c57 => ?_) (fun c57 => ?_)
        · rw [show zbt 13 14 (nI v) = (decide (13 ≤ v) && decide (v ≤ 14)) from zbt_n (a := 13) (b := 14) (by decide) (by decide) (by omega)] at c57
          rw [bI_0] at c57
          refine lv_iconst (v := 0) hx hb dX6_has_64 (by decide) ?_
          refine zm_zret hx hb hr hlk hM hS (by first | exact Or.inl rfl | exact Or.inr rfl | exact bI_01 _) ?_ ⟨Nat.le_refl _, Nat.le_refl _⟩ dX6_has_65
          refine ⟨?_, rfl⟩
          simp only [hasV]
          first | (rw [c35]; rfl) | (rw [c35, c46]; rfl) | (rw [c35, c46, c57]; rfl)
        · rw [show zbt 13 14 (nI v) = (decide (13 ≤ v) && decide (v ≤ 14)) from zbt_n (a := 13) (b := 14) (by decide) (by decide) (by omega)] at c57
          rw [bI_n] at c57
          refine lv_iconst (v := 1) hx hb dX6_has_60 (by decide) ?_
          refine lv_goto (tgt := 65) hx hb dX6_has_61 (by decide) ?_
          refine zm_zret hx hb hr hlk hM hS (by first | exact Or.inl rfl | exact Or.inr rfl | exact bI_01 _) ?_ ⟨Nat.le_refl _, Nat.le_refl _⟩ dX6_has_65
          refine ⟨?_, rfl⟩
          simp only [hasV]
          first | (rw [c35]; rfl) | (rw [c35, c46]; rfl) | (rw [c35, c46, c57]; rfl)
  · refine lv_tableIn (off := 65) (tgt := 66) hx hb dX6_has_1 (by decide) (by decide) rfl (by decide) ?_
    refine lv_iload_n hx hb dX6_has_66 rfl (lv_at hl 1 rfl) ?_
    refine zm_callS (As := [.int (nI v)]) (rest := []) hx hb hml hts hown hE hA hM hS (c_X6_isRow l G A _ (nI v)) cd_X6_isRow ml_X6_74 rfl rfl hl.1 (Nat.le_of_ble_eq_true rfl) ⟨Nat.le_of_ble_eq_true rfl, Nat.le_of_ble_eq_true rfl⟩ ⟨Nat.le_of_ble_eq_true rfl, Nat.le_of_ble_eq_true rfl⟩ dX6_has_67 ?_
    rintro r M1 H locs ⟨rfl, e1⟩ hM hS
    rw [e1] at hM
    clear e1 M1
    refine W.eq (g2 := F0 m 70 ls [.int (bI (zbt 8 15 (nI v)))]) rfl ?_
    refine zm_zret hx hb hr hlk hM hS (by first | exact Or.inl rfl | exact Or.inr rfl | exact bI_01 _) ?_ ⟨Nat.le_refl _, Nat.le_refl _⟩ dX6_has_70
    exact ⟨by rw [zbt_rw v (by omega)]; rfl, rfl⟩
  · refine lv_tableIn (off := 65) (tgt := 66) hx hb dX6_has_1 (by decide) (by decide) rfl (by decide) ?_
    refine lv_iload_n hx hb dX6_has_66 rfl (lv_at hl 1 rfl) ?_
    refine zm_callS (As := [.int (nI v)]) (rest := []) hx hb hml hts hown hE hA hM hS (c_X6_isRow l G A _ (nI v)) cd_X6_isRow ml_X6_74 rfl rfl hl.1 (Nat.le_of_ble_eq_true rfl) ⟨Nat.le_of_ble_eq_true rfl, Nat.le_of_ble_eq_true rfl⟩ ⟨Nat.le_of_ble_eq_true rfl, Nat.le_of_ble_eq_true rfl⟩ dX6_has_67 ?_
    rintro r M1 H locs ⟨rfl, e1⟩ hM hS
    rw [e1] at hM
    clear e1 M1
    refine W.eq (g2 := F0 m 70 ls [.int (bI (zbt 8 15 (nI v)))]) rfl ?_
    refine zm_zret hx hb hr hlk hM hS (by first | exact Or.inl rfl | exact Or.inr rfl | exact bI_01 _) ?_ ⟨Nat.le_refl _, Nat.le_refl _⟩ dX6_has_70
    exact ⟨by rw [zbt_rw v (by omega)]; rfl, rfl⟩
  · refine lv_tableOut (tgt := 71) hx hb dX6_has_1 (by decide) (by decide) ?_
    refine lv_iconst (v := 1) hx hb dX6_has_71 (by decide) ?_
    refine zm_zret hx hb hr hlk hM hS (by first | exact Or.inl rfl | exact Or.inr rfl | exact bI_01 _) ?_ ⟨Nat.le_refl _, Nat.le_refl _⟩ dX6_has_72
    exact ⟨rfl, rfl⟩
  · refine lv_tableOut (tgt := 71) hx hb dX6_has_1 (by decide) (by decide) ?_
    refine lv_iconst (v := 1) hx hb dX6_has_71 (by decide) ?_
    refine zm_zret hx hb hr hlk hM hS (by first | exact Or.inl rfl | exact Or.inr rfl | exact bI_01 _) ?_ ⟨Nat.le_refl _, Nat.le_refl _⟩ dX6_has_72
    exact ⟨rfl, rfl⟩
theorem cue_has2 {S : zS} {a x v i : Int32} {aa xx vv : Nat} (h1 : ix 6 a = some aa) (h2 : ix 10 x = some xx) (h3 : ix 17 v = some vv) (h : hasV aa vv = false) : sp_cue S a x v i = (-2, S) := by
  cases h4 : ix 10 i with
  | none => exact cue_bad (Or.inr (Or.inr (Or.inr h4)))
  | some ii => exact cue_has h1 h2 h3 h4 h
set_option maxRecDepth 100000 in
set_option maxHeartbeats 4000000 in
theorem c_X6_cue (l : Launch) (G : zm_G) (A : Nat → Prop) (q : Nat → Nat) (S : zS) (M : zm_M) (a x v i : Int32) (hI : zInv S) (hR : RepR G q S M) : Met l yX6_cue (zm_W yX6_cue cX6_cue 5 (some .int)) (zm_rm 3 0 0) (zm_Pc G [.ref (q 0), .int a, .int x, .int v, .int i] A M) (zm_Q G (fun r M' => r = some (.int (sp_cue S a x v i).1) ∧ RepR G q (sp_cue S a x v i).2 M') A) 0 0 A := by
  refine zm_start (by decide) (Nat.le_of_ble_eq_true rfl) ?_
  intro p e s m below meth c hx hb hml hr hts hown hlk hnm hE hA ls hl hM hS
  have hl : lv_has ls 5 [(0, .ref (q 0)), (1, .int a), (2, .int x), (3, .int v), (4, .int i)] := hl
  obtain ⟨f, g, hZ, hAb⟩ := hR
  have hnp := hI.1
  have hncc := hI.2.1
  refine lv_iload_n hx hb dX6_cue_0 rfl (lv_at hl 1 rfl) ?_
  refine lv_iconst (v := 0) hx hb dX6_cue_1 (by decide) ?_
  refine lv_iconst (v := 5) hx hb dX6_cue_2 (by decide) ?_
  refine zm_callS (As := [.int a, .int 0, .int 5]) (rest := []) hx hb hml hts hown hE hA hM hS (c_X6_isIn l G A _ a 0 5) cd_X6_isIn ml_X6_51 rfl rfl hl.1 (Nat.le_of_ble_eq_true rfl) ⟨Nat.le_of_ble_eq_true rfl, Nat.le_of_ble_eq_true rfl⟩ ⟨Nat.le_of_ble_eq_true rfl, Nat.le_of_ble_eq_true rfl⟩ dX6_cue_3 ?_
  rintro r M1 H locs ⟨rfl, e1⟩ hM hS
  rw [e1] at hM
  clear e1 M1
  refine W.eq (g2 := F0 m 6 ls [.int (bI (zbt 0 5 a))]) rfl ?_
  refine lv_if_eq (tgt := 42) hx hb dX6_cue_6 (by decide) (fun c6 => ?_) (fun c6 => ?_)
  · rw [zbt_a] at c6
    rw [bI_0] at c6
    have hn6 := isS_f c6
    refine lv_bipush (v := (-2)) hx hb dX6_cue_42 (by decide) ?_
    refine zm_iret hx hb hr hlk hM hS ?_ ⟨Nat.le_refl _, Nat.le_refl _⟩ dX6_cue_44
    have hs : sp_cue S a x v i = (-2, S) := by first | exact cue_bad (Or.inl hn6) | exact cue_bad (Or.inr (Or.inl hn13)) | exact cue_bad (Or.inr (Or.inr (Or.inl hn20))) | exact cue_has2 hia hxi hvi c28 | exact cue_bad (Or.inr (Or.inr (Or.inr hn39)))
    exact ⟨by rw [hs], by rw [hs]; exact ⟨f, g, hZ, hAb⟩⟩
  · rw [zbt_a] at c6
    rw [bI_n] at c6
    obtain ⟨aa, hia⟩ := isS_t c6
    obtain ⟨haa, rfl⟩ := ix_some (by omega) hia
    refine lv_iload_n hx hb dX6_cue_9 rfl (lv_at hl 2 rfl) ?_
    refine zm_callS (As := [.int x]) (rest := []) hx hb hml hts hown hE hA hM hS (c_X6_isSlot l G A _ x) cd_X6_isSlot ml_X6_71 rfl rfl hl.1 (Nat.le_of_ble_eq_true rfl) ⟨Nat.le_of_ble_eq_true rfl, Nat.le_of_ble_eq_true rfl⟩ ⟨Nat.le_of_ble_eq_true rfl, Nat.le_of_ble_eq_true rfl⟩ dX6_cue_10 ?_
    rintro r M1 H locs ⟨rfl, e1⟩ hM hS
    rw [e1] at hM
    clear e1 M1
    refine W.eq (g2 := F0 m 13 ls [.int (bI ((ix 10 x).isSome))]) rfl ?_
    refine lv_if_eq (tgt := 42) hx hb dX6_cue_13 (by decide) (fun c13 => ?_) (fun c13 => ?_)
    · rw [bI_0] at c13
      have hn13 := isS_f c13
      refine lv_bipush (v := (-2)) hx hb dX6_cue_42 (by decide) ?_
      refine zm_iret hx hb hr hlk hM hS ?_ ⟨Nat.le_refl _, Nat.le_refl _⟩ dX6_cue_44
      have hs : sp_cue S (nI aa) x v i = (-2, S) := by first | exact cue_bad (Or.inl hn6) | exact cue_bad (Or.inr (Or.inl hn13)) | exact cue_bad (Or.inr (Or.inr (Or.inl hn20))) | exact cue_has2 hia hxi hvi c28 | exact cue_bad (Or.inr (Or.inr (Or.inr hn39)))
      exact ⟨by rw [hs], by rw [hs]; exact ⟨f, g, hZ, hAb⟩⟩
    · rw [bI_n] at c13
      obtain ⟨xx, hxi⟩ := isS_t c13
      obtain ⟨hxx, rfl⟩ := ix_some (by omega) hxi
      refine lv_iload_n hx hb dX6_cue_16 rfl (lv_at hl 3 rfl) ?_
      refine zm_callS (As := [.int v]) (rest := []) hx hb hml hts hown hE hA hM hS (c_X6_isView l G A _ v) cd_X6_isView ml_X6_77 rfl rfl hl.1 (Nat.le_of_ble_eq_true rfl) ⟨Nat.le_of_ble_eq_true rfl, Nat.le_of_ble_eq_true rfl⟩ ⟨Nat.le_of_ble_eq_true rfl, Nat.le_of_ble_eq_true rfl⟩ dX6_cue_17 ?_
      rintro r M1 H locs ⟨rfl, e1⟩ hM hS
      rw [e1] at hM
      clear e1 M1
      refine W.eq (g2 := F0 m 20 ls [.int (bI ((ix 17 v).isSome))]) rfl ?_
      refine lv_if_eq (tgt := 42) hx hb dX6_cue_20 (by decide) (fun c20 => ?_) (fun c20 => ?_)
      · rw [bI_0] at c20
        have hn20 := isS_f c20
        refine lv_bipush (v := (-2)) hx hb dX6_cue_42 (by decide) ?_
        refine zm_iret hx hb hr hlk hM hS ?_ ⟨Nat.le_refl _, Nat.le_refl _⟩ dX6_cue_44
        have hs : sp_cue S (nI aa) (nI xx) v i = (-2, S) := by first | exact cue_bad (Or.inl hn6) | exact cue_bad (Or.inr (Or.inl hn13)) | exact cue_bad (Or.inr (Or.inr (Or.inl hn20))) | exact cue_has2 hia hxi hvi c28 | exact cue_bad (Or.inr (Or.inr (Or.inr hn39)))
        exact ⟨by rw [hs], by rw [hs]; exact ⟨f, g, hZ, hAb⟩⟩
      · rw [bI_n] at c20
        obtain ⟨vv, hvi⟩ := isS_t c20
        obtain ⟨hvv, rfl⟩ := ix_some (by omega) hvi
        refine lv_iload_n hx hb dX6_cue_23 rfl (lv_at hl 1 rfl) ?_
        refine lv_iload_n hx hb dX6_cue_24 rfl (lv_at hl 3 rfl) ?_
        refine zm_callS (As := [.int (nI aa), .int (nI vv)]) (rest := []) hx hb hml hts hown hE hA hM hS (c_X6_has l G A _ aa vv haa hvv) cd_X6_has ml_X6_80 rfl rfl hl.1 (Nat.le_of_ble_eq_true rfl) ⟨Nat.le_of_ble_eq_true rfl, Nat.le_of_ble_eq_true rfl⟩ ⟨Nat.le_of_ble_eq_true rfl, Nat.le_of_ble_eq_true rfl⟩ dX6_cue_25 ?_
        rintro r M1 H locs ⟨rfl, e1⟩ hM hS
        rw [e1] at hM
        clear e1 M1
        refine W.eq (g2 := F0 m 28 ls [.int (bI (hasV aa vv))]) rfl ?_
        refine lv_if_eq (tgt := 42) hx hb dX6_cue_28 (by decide) (fun c28 => ?_) (fun c28 => ?_)
        · rw [bI_0] at c28
          refine lv_bipush (v := (-2)) hx hb dX6_cue_42 (by decide) ?_
          refine zm_iret hx hb hr hlk hM hS ?_ ⟨Nat.le_refl _, Nat.le_refl _⟩ dX6_cue_44
          have hs : sp_cue S (nI aa) (nI xx) (nI vv) i = (-2, S) := by first | exact cue_bad (Or.inl hn6) | exact cue_bad (Or.inr (Or.inl hn13)) | exact cue_bad (Or.inr (Or.inr (Or.inl hn20))) | exact cue_has2 hia hxi hvi c28 | exact cue_bad (Or.inr (Or.inr (Or.inr hn39)))
          exact ⟨by rw [hs], by rw [hs]; exact ⟨f, g, hZ, hAb⟩⟩
        · rw [bI_n] at c28
          refine lv_iload hx hb dX6_cue_31 (lv_at hl 4 rfl) ?_
          refine lv_iconst (v := 0) hx hb dX6_cue_33 (by decide) ?_
          refine lv_bipush (v := 9) hx hb dX6_cue_34 (by decide) ?_
          refine zm_callS (As := [.int i, .int 0, .int 9]) (rest := []) hx hb hml hts hown hE hA hM hS (c_X6_isIn l G A _ i 0 9) cd_X6_isIn ml_X6_51 rfl rfl hl.1 (Nat.le_of_ble_eq_true rfl) ⟨Nat.le_of_ble_eq_true rfl, Nat.le_of_ble_eq_true rfl⟩ ⟨Nat.le_of_ble_eq_true rfl, Nat.le_of_ble_eq_true rfl⟩ dX6_cue_36 ?_
          rintro r M1 H locs ⟨rfl, e1⟩ hM hS
          rw [e1] at hM
          clear e1 M1
          refine W.eq (g2 := F0 m 39 ls [.int (bI (zbt 0 9 i))]) rfl ?_
          refine lv_if_ne (tgt := 45) hx hb dX6_cue_39 (by decide) (fun c39 => ?_) (fun c39 => ?_)
          · rw [zbt_s] at c39
            rw [bI_n] at c39
            obtain ⟨ii, hii⟩ := isS_t c39
            obtain ⟨hii, rfl⟩ := ix_some (by omega) hii
            refine lv_aload_n hx hb dX6_cue_45 rfl (lv_at hl 0 rfl) ?_
            refine zm_get hx hb hts hown hE hM hZ.2.1 fl_X6_83_5 rfl dX6_cue_46 ?_
            refine lv_bipush (v := 30) hx hb dX6_cue_49 (by decide) ?_
            refine lv_icmp_ne (tgt := 57) hx hb dX6_cue_51 (by decide) (fun c51 => ?_) (fun c51 => ?_)
            · have hnc : ¬ s_nc S = 30 := fun e => c51 (by rw [e]; rfl)
              refine lv_aload_n hx hb dX6_cue_57 rfl (lv_at hl 0 rfl) ?_
              refine zm_get hx hb hts hown hE hM hZ.2.1 fl_X6_33_5 rfl dX6_cue_58 ?_
              refine lv_aload_n hx hb dX6_cue_61 rfl (lv_at hl 0 rfl) ?_
              refine zm_get hx hb hts hown hE hM hZ.2.1 fl_X6_83_5 rfl dX6_cue_62 ?_
              refine lv_iload_n hx hb dX6_cue_65 rfl (lv_at hl 1 rfl) ?_
              refine zm_iast hx hb hE hM hS (hZ.ar 7) (vp_in_nI (show s_nc S < 30 by omega) (by decide)) dX6_cue_66 (fun H locs hM hS => ?_)
              rw [nI_clamp (by omega)] at hM
              have hM : zm_P G A (zm_up _ (q 7) (zm_I G 30 (upd (f 7) (s_nc S) (nI aa)))) H := hM
              have hZ := hZ.arr 7 (upd (f 7) (s_nc S) (nI aa))
              refine lv_aload_n hx hb dX6_cue_67 rfl (lv_at hl 0 rfl) ?_
              refine zm_get hx hb hts hown hE hM hZ.2.1 fl_X6_36_5 rfl dX6_cue_68 ?_
              refine lv_aload_n hx hb dX6_cue_71 rfl (lv_at hl 0 rfl) ?_
              refine zm_get hx hb hts hown hE hM hZ.2.1 fl_X6_83_5 rfl dX6_cue_72 ?_
              refine lv_iload_n hx hb dX6_cue_75 rfl (lv_at hl 2 rfl) ?_
              refine zm_iast hx hb hE hM hS (hZ.ar 8) (vp_in_nI (show s_nc S < 30 by omega) (by decide)) dX6_cue_76 (fun H locs hM hS => ?_)
              rw [nI_clamp (by omega)] at hM
              have hM : zm_P G A (zm_up _ (q 8) (zm_I G 30 (upd (f 8) (s_nc S) (nI xx)))) H := hM
              have hZ := hZ.arr 8 (upd (f 8) (s_nc S) (nI xx))
              refine lv_aload_n hx hb dX6_cue_77 rfl (lv_at hl 0 rfl) ?_
              refine zm_get hx hb hts hown hE hM hZ.2.1 fl_X6_39_5 rfl dX6_cue_78 ?_
              refine lv_aload_n hx hb dX6_cue_81 rfl (lv_at hl 0 rfl) ?_
              refine zm_get hx hb hts hown hE hM hZ.2.1 fl_X6_83_5 rfl dX6_cue_82 ?_
              refine lv_iload_n hx hb dX6_cue_85 rfl (lv_at hl 3 rfl) ?_
              refine zm_iast hx hb hE hM hS (hZ.ar 9) (vp_in_nI (show s_nc S < 30 by omega) (by decide)) dX6_cue_86 (fun H locs hM hS => ?_)
              rw [nI_clamp (by omega)] at hM
              have hM : zm_P G A (zm_up _ (q 9) (zm_I G 30 (upd (f 9) (s_nc S) (nI vv)))) H := hM
              have hZ := hZ.arr 9 (upd (f 9) (s_nc S) (nI vv))
              refine lv_aload_n hx hb dX6_cue_87 rfl (lv_at hl 0 rfl) ?_
              refine zm_get hx hb hts hown hE hM hZ.2.1 fl_X6_42_5 rfl dX6_cue_88 ?_
              refine lv_aload_n hx hb dX6_cue_91 rfl (lv_at hl 0 rfl) ?_
              refine zm_get hx hb hts hown hE hM hZ.2.1 fl_X6_83_5 rfl dX6_cue_92 ?_
              refine lv_iload hx hb dX6_cue_95 (lv_at hl 4 rfl) ?_
              refine zm_iast hx hb hE hM hS (hZ.ar 10) (vp_in_nI (show s_nc S < 30 by omega) (by decide)) dX6_cue_97 (fun H locs hM hS => ?_)
              rw [nI_clamp (by omega)] at hM
              have hM : zm_P G A (zm_up _ (q 10) (zm_I G 30 (upd (f 10) (s_nc S) (nI ii)))) H := hM
              have hZ := hZ.arr 10 (upd (f 10) (s_nc S) (nI ii))
              refine lv_aload_n hx hb dX6_cue_98 rfl (lv_at hl 0 rfl) ?_
              refine lv_dup hx hb dX6_cue_99 rfl ?_
              refine zm_get hx hb hts hown hE hM hZ.2.1 fl_X6_83_5 rfl dX6_cue_100 ?_
              refine lv_iconst (v := 1) hx hb dX6_cue_103 (by decide) ?_
              refine lv_iadd hx hb dX6_cue_104 ?_
              refine zm_put hx hb hts hown hE hM hS hZ.2.1 fp_X6_83_5 rfl rfl (Nat.le_of_ble_eq_true rfl) dX6_cue_105 (fun H locs hM hS => ?_)
              have hZ := hZ.fld (objR q (w_cu S (s_nc S + 1) (va_up (s_cu S) (s_nc S) (aa, xx, vv, ii))))
              rw [show (objR q S).set 8 (.int (nI (s_nc S) + 1)) = objR q (w_cu S (s_nc S + 1) (va_up (s_cu S) (s_nc S) (aa, xx, vv, ii))) by rw [nI_1]; rfl] at hM
              refine lv_aload_n hx hb dX6_cue_108 rfl (lv_at hl 0 rfl) ?_
              refine zm_get hx hb hts hown hE hM hZ.2.1 fl_X6_83_5 rfl dX6_cue_109 ?_
              refine lv_iconst (v := 1) hx hb dX6_cue_112 (by decide) ?_
              refine lv_isub hx hb dX6_cue_113 ?_
              refine zm_iret hx hb hr hlk hM hS ?_ ⟨Nat.le_refl _, Nat.le_refl _⟩ dX6_cue_114
              rw [cue_ok hia hxi hvi hii c28 hnc]
              exact ⟨by rw [nI_pred], _, _, hZ, abs_cu hAb aa xx vv ii⟩
            · refine lv_bipush (v := (-3)) hx hb dX6_cue_54 (by decide) ?_
              refine zm_iret hx hb hr hlk hM hS ?_ ⟨Nat.le_refl _, Nat.le_refl _⟩ dX6_cue_56
              have h3 : s_nc S = 30 := (nI_eq (b := 30) (by omega) (by omega)).mp c51
              exact ⟨by rw [cue_full hia hxi hvi hii c28 h3], by rw [cue_full hia hxi hvi hii c28 h3]; exact ⟨f, g, hZ, hAb⟩⟩
          · rw [zbt_s] at c39
            rw [bI_0] at c39
            have hn39 := isS_f c39
            refine lv_bipush (v := (-2)) hx hb dX6_cue_42 (by decide) ?_
            refine zm_iret hx hb hr hlk hM hS ?_ ⟨Nat.le_refl _, Nat.le_refl _⟩ dX6_cue_44
            have hs : sp_cue S (nI aa) (nI xx) (nI vv) i = (-2, S) := by first | exact cue_bad (Or.inl hn6) | exact cue_bad (Or.inr (Or.inl hn13)) | exact cue_bad (Or.inr (Or.inr (Or.inl hn20))) | exact cue_has2 hia hxi hvi c28 | exact cue_bad (Or.inr (Or.inr (Or.inr hn39)))
            exact ⟨by rw [hs], by rw [hs]; exact ⟨f, g, hZ, hAb⟩⟩
set_option maxRecDepth 100000 in
set_option maxHeartbeats 4000000 in
theorem c_X6_strike (l : Launch) (G : zm_G) (A : Nat → Prop) (q : Nat → Nat) (S : zS) (M : zm_M) (hI : zInv S) (hR : RepR G q S M) : Met l yX6_strike (zm_W yX6_strike cX6_strike 2 (some .int)) (zm_rm 0 0 0) (zm_Pc G [.ref (q 0)] A M) (zm_Q G (fun r M' => r = some (.int (nI (s_nc S))) ∧ RepR G q (w_nc S 0) M') A) 0 0 A := by
  refine zm_start (by decide) (Nat.le_of_ble_eq_true rfl) ?_
  intro p e s m below meth c hx hb hml hr hts hown hlk hnm hE hA ls hl hM hS
  have hl : lv_has ls 2 [(0, .ref (q 0))] := hl
  obtain ⟨f, g, hZ, hAb⟩ := hR
  have hnp := hI.1
  have hncc := hI.2.1
  refine lv_aload_n hx hb dX6_strike_0 rfl (lv_at hl 0 rfl) ?_
  refine zm_get hx hb hts hown hE hM hZ.2.1 fl_X6_83_5 rfl dX6_strike_1 ?_
  refine lv_istore_n (lv' := [(1, .int (nI (s_nc S))), (0, .ref (q 0))]) hx hb dX6_strike_4 rfl hl (by decide) rfl (fun ls hl => ?_)
  refine lv_aload_n hx hb dX6_strike_5 rfl (lv_at hl 1 rfl) ?_
  refine lv_iconst (v := 0) hx hb dX6_strike_6 (by decide) ?_
  refine zm_put hx hb hts hown hE hM hS hZ.2.1 fp_X6_83_5 rfl rfl (Nat.le_of_ble_eq_true rfl) dX6_strike_7 (fun H locs hM hS => ?_)
  have hZ2 := hZ.fld (objR q (w_nc S 0))
  refine lv_iload_n hx hb dX6_strike_10 rfl (lv_at hl 0 rfl) ?_
  refine zm_iret hx hb hr hlk hM hS ?_ ⟨Nat.le_refl _, Nat.le_refl _⟩ dX6_strike_11
  exact ⟨rfl, _, _, hZ2, abs_nc hAb⟩
set_option maxRecDepth 100000 in
set_option maxHeartbeats 4000000 in
theorem c_X6_miscue (l : Launch) (G : zm_G) (A : Nat → Prop) (q : Nat → Nat) (S : zS) (M : zm_M) (w : Int32) (hI : zInv S) (hR : RepR G q S M) : Met l yX6_miscue (zm_W yX6_miscue cX6_miscue 2 (some .int)) (zm_rm 0 0 0) (zm_Pc G [.ref (q 0), .int w] A M) (zm_Q G (fun r M' => r = some (.int (sp_miscue S w)) ∧ M' = M) A) 0 0 A := by
  refine zm_start (by decide) (Nat.le_of_ble_eq_true rfl) ?_
  intro p e s m below meth c hx hb hml hr hts hown hlk hnm hE hA ls hl hM hS
  have hl : lv_has ls 2 [(0, .ref (q 0)), (1, .int w)] := hl
  obtain ⟨f, g, hZ, hAb⟩ := hR
  have hnp := hI.1
  have hncc := hI.2.1
  refine lv_iload_n hx hb dX6_miscue_0 rfl (lv_at hl 1 rfl) ?_
  refine lv_if_ne (tgt := 11) hx hb dX6_miscue_1 (by decide) (fun c1 => ?_) (fun c1 => ?_)
  · refine lv_iload_n hx hb dX6_miscue_11 rfl (lv_at hl 1 rfl) ?_
    refine lv_iconst (v := 1) hx hb dX6_miscue_12 (by decide) ?_
    refine lv_icmp_ne (tgt := 23) hx hb dX6_miscue_13 (by decide) (fun c13 => ?_) (fun c13 => ?_)
    · refine lv_iload_n hx hb dX6_miscue_23 rfl (lv_at hl 1 rfl) ?_
      refine lv_iconst (v := 2) hx hb dX6_miscue_24 (by decide) ?_
      refine lv_icmp_ne (tgt := 35) hx hb dX6_miscue_25 (by decide) (fun c25 => ?_) (fun c25 => ?_)
      · refine lv_bipush (v := (-2)) hx hb dX6_miscue_35 (by decide) ?_
        refine zm_iret hx hb hr hlk hM hS ?_ ⟨Nat.le_refl _, Nat.le_refl _⟩ dX6_miscue_37
        refine ⟨?_, rfl⟩
        unfold sp_miscue
        first | (rw [if_pos c1]; done) | (rw [if_neg c1, if_pos c13]; done) | (rw [if_neg c1, if_neg c13, if_pos c25]; done) | (rw [if_neg c1, if_neg c13, if_neg c25]; done)
      · refine lv_aload_n hx hb dX6_miscue_28 rfl (lv_at hl 0 rfl) ?_
        refine zm_get hx hb hts hown hE hM hZ.2.1 fl_X6_137_5 rfl dX6_miscue_29 ?_
        refine lv_goto (tgt := 37) hx hb dX6_miscue_32 (by decide) ?_
        refine zm_iret hx hb hr hlk hM hS ?_ ⟨Nat.le_refl _, Nat.le_refl _⟩ dX6_miscue_37
        refine ⟨?_, rfl⟩
        unfold sp_miscue
        first | (rw [if_pos c1]; done) | (rw [if_neg c1, if_pos c13]; done) | (rw [if_neg c1, if_neg c13, if_pos c25]; done) | (rw [if_neg c1, if_neg c13, if_neg c25]; done)
    · refine lv_aload_n hx hb dX6_miscue_16 rfl (lv_at hl 0 rfl) ?_
      refine zm_get hx hb hts hown hE hM hZ.2.1 fl_X6_45_5 rfl dX6_miscue_17 ?_
      refine lv_goto (tgt := 37) hx hb dX6_miscue_20 (by decide) ?_
      refine zm_iret hx hb hr hlk hM hS ?_ ⟨Nat.le_refl _, Nat.le_refl _⟩ dX6_miscue_37
      refine ⟨?_, rfl⟩
      unfold sp_miscue
      first | (rw [if_pos c1]; done) | (rw [if_neg c1, if_pos c13]; done) | (rw [if_neg c1, if_neg c13, if_pos c25]; done) | (rw [if_neg c1, if_neg c13, if_neg c25]; done)
  · refine lv_aload_n hx hb dX6_miscue_4 rfl (lv_at hl 0 rfl) ?_
    refine zm_get hx hb hts hown hE hM hZ.2.1 fl_X6_131_5 rfl dX6_miscue_5 ?_
    refine lv_goto (tgt := 37) hx hb dX6_miscue_8 (by decide) ?_
    refine zm_iret hx hb hr hlk hM hS ?_ ⟨Nat.le_refl _, Nat.le_refl _⟩ dX6_miscue_37
    refine ⟨?_, rfl⟩
    unfold sp_miscue
    first | (rw [if_pos c1]; done) | (rw [if_neg c1, if_pos c13]; done) | (rw [if_neg c1, if_neg c13, if_pos c25]; done) | (rw [if_neg c1, if_neg c13, if_neg c25]; done)
set_option maxRecDepth 100000 in
set_option maxHeartbeats 4000000 in
theorem c_X6_count (l : Launch) (G : zm_G) (A : Nat → Prop) (q : Nat → Nat) (S : zS) (M : zm_M) (w : Int32) (hI : zInv S) (hR : RepR G q S M) : Met l yX6_count (zm_W yX6_count cX6_count 2 (some .int)) (zm_rm 0 0 0) (zm_Pc G [.ref (q 0), .int w] A M) (zm_Q G (fun r M' => r = some (.int (sp_count S w)) ∧ M' = M) A) 0 0 A := by
  refine zm_start (by decide) (Nat.le_of_ble_eq_true rfl) ?_
  intro p e s m below meth c hx hb hml hr hts hown hlk hnm hE hA ls hl hM hS
  have hl : lv_has ls 2 [(0, .ref (q 0)), (1, .int w)] := hl
  obtain ⟨f, g, hZ, hAb⟩ := hR
  have hnp := hI.1
  have hncc := hI.2.1
  refine lv_iload_n hx hb dX6_count_0 rfl (lv_at hl 1 rfl) ?_
  refine lv_if_ne (tgt := 11) hx hb dX6_count_1 (by decide) (fun c1 => ?_) (fun c1 => ?_)
  · refine lv_iload_n hx hb dX6_count_11 rfl (lv_at hl 1 rfl) ?_
    refine lv_iconst (v := 1) hx hb dX6_count_12 (by decide) ?_
    refine lv_icmp_ne (tgt := 23) hx hb dX6_count_13 (by decide) (fun c13 => ?_) (fun c13 => ?_)
    · refine lv_bipush (v := (-2)) hx hb dX6_count_23 (by decide) ?_
      refine zm_iret hx hb hr hlk hM hS ?_ ⟨Nat.le_refl _, Nat.le_refl _⟩ dX6_count_25
      refine ⟨?_, rfl⟩
      unfold sp_count
      first | (rw [if_pos c1]; done) | (rw [if_neg c1, if_pos c13]; done) | (rw [if_neg c1, if_neg c13]; done)
    · refine lv_aload_n hx hb dX6_count_16 rfl (lv_at hl 0 rfl) ?_
      refine zm_get hx hb hts hown hE hM hZ.2.1 fl_X6_83_5 rfl dX6_count_17 ?_
      refine lv_goto (tgt := 25) hx hb dX6_count_20 (by decide) ?_
      refine zm_iret hx hb hr hlk hM hS ?_ ⟨Nat.le_refl _, Nat.le_refl _⟩ dX6_count_25
      refine ⟨?_, rfl⟩
      unfold sp_count
      first | (rw [if_pos c1]; done) | (rw [if_neg c1, if_pos c13]; done) | (rw [if_neg c1, if_neg c13]; done)
  · refine lv_aload_n hx hb dX6_count_4 rfl (lv_at hl 0 rfl) ?_
    refine zm_get hx hb hts hown hE hM hZ.2.1 fl_X6_48_5 rfl dX6_count_5 ?_
    refine lv_goto (tgt := 25) hx hb dX6_count_8 (by decide) ?_
    refine zm_iret hx hb hr hlk hM hS ?_ ⟨Nat.le_refl _, Nat.le_refl _⟩ dX6_count_25
    refine ⟨?_, rfl⟩
    unfold sp_count
    first | (rw [if_pos c1]; done) | (rw [if_neg c1, if_pos c13]; done) | (rw [if_neg c1, if_neg c13]; done)
end
section
theorem oI_some {o : Option Nat} (h : ¬ oI o = -1) : ∃ t, o = some t := by cases o with | none => exact absurd rfl h | some t => exact ⟨t, rfl⟩
set_option maxRecDepth 100000 in
set_option maxHeartbeats 4000000 in
theorem c_X6_worthOfOne (l : Launch) (G : zm_G) (A : Nat → Prop) (q : Nat → Nat) (S : zS) (M : zm_M) (j : Nat) (hj : j < s_np S) (v : Nat) (hv : v = 4 ∨ v = 5 ∨ v = 6 ∨ v = 7 ∨ v = 16) (hI : zInv S) (hR : RepR G q S M) : Met l yX6_worthOfOne (zm_W yX6_worthOfOne cX6_worthOfOne 5 (some .long)) (zm_rm 0 0 0) (zm_Pc G [.ref (q 0), .int (nI j), .int (nI v)] A M) (zm_Q G (fun r M' => r = some (.long (wOne S j v)) ∧ M' = M) A) 0 0 A := by
  refine zm_start (by decide) (Nat.le_of_ble_eq_true rfl) ?_
  intro p e s m below meth c hx hb hml hr hts hown hlk hnm hE hA ls hl hM hS
  have hl : lv_has ls 5 [(0, .ref (q 0)), (1, .int (nI j)), (2, .int (nI v))] := hl
  obtain ⟨f, g, hZ, hAb⟩ := hR
  have hnp := hI.1
  have hncc := hI.2.1
  refine lv_aload_n hx hb dX6_worthOfOne_0 rfl (lv_at hl 0 rfl) ?_
  refine zm_get hx hb hts hown hE hM hZ.2.1 fl_X6_13_5 rfl dX6_worthOfOne_1 ?_
  refine lv_iload_n hx hb dX6_worthOfOne_4 rfl (lv_at hl 1 rfl) ?_
  refine zm_iald hx hb hE hM (hZ.ar 2) (vp_in_nI (show j < 50 by omega) (by decide)) dX6_worthOfOne_5 ?_
  refine zt_eq (v' := .int (nI (s_sz S j))) (by rw [nI_clamp (by omega)]; exact congrArg Value.int ((hAb.1 j hj).2.1)) ?_
  refine lv_i2l hx hb dX6_worthOfOne_6 rfl ?_
  refine lv_lstore_n (lv' := [(3, .long ((nI (s_sz S j)).toInt64)), (0, .ref (q 0)), (1, .int (nI j)), (2, .int (nI v))]) hx hb dX6_worthOfOne_7 rfl hl (by decide) rfl (fun ls hl => ?_)
  refine lv_iload_n hx hb dX6_worthOfOne_8 rfl (lv_at hl 3 rfl) ?_
  rcases hv with rfl | rfl | rfl | rfl | rfl
  · refine lv_tableIn (off := 31) (tgt := 40) hx hb dX6_worthOfOne_9 (by decide) (by decide) rfl (by decide) ?_
    refine lv_lload_n hx hb dX6_worthOfOne_40 rfl (lv_at hl 0 rfl) ?_
    refine lv_aload_n hx hb dX6_worthOfOne_41 rfl (lv_at hl 1 rfl) ?_
    refine zm_get hx hb hts hown hE hM hZ.2.1 fl_X6_16_5 rfl dX6_worthOfOne_42 ?_
    refine lv_iload_n hx hb dX6_worthOfOne_45 rfl (lv_at hl 2 rfl) ?_
    refine zm_iald hx hb hE hM (hZ.ar 3) (vp_in_nI (show j < 50 by omega) (by decide)) dX6_worthOfOne_46 ?_
    refine zt_eq (v' := .int (s_wr S j)) (by rw [nI_clamp (by omega)]; exact congrArg Value.int ((hAb.1 j hj).2.2)) ?_
    refine lv_i2l hx hb dX6_worthOfOne_47 rfl ?_
    refine lv_ladd hx hb dX6_worthOfOne_48 ?_
    refine zm_lret hx hb hr hlk hM hS ?_ ⟨Nat.le_refl _, Nat.le_refl _⟩ dX6_worthOfOne_49
    exact ⟨rfl, rfl⟩
  · refine lv_tableIn (off := 41) (tgt := 50) hx hb dX6_worthOfOne_9 (by decide) (by decide) rfl (by decide) ?_
    refine lv_ldc2 (v := 2) hx hb hown (hts _ cst_X6_86) dX6_worthOfOne_50 ?_
    refine lv_aload_n hx hb dX6_worthOfOne_53 rfl (lv_at hl 1 rfl) ?_
    refine zm_get hx hb hts hown hE hM hZ.2.1 fl_X6_16_5 rfl dX6_worthOfOne_54 ?_
    refine lv_iload_n hx hb dX6_worthOfOne_57 rfl (lv_at hl 2 rfl) ?_
    refine zm_iald hx hb hE hM (hZ.ar 3) (vp_in_nI (show j < 50 by omega) (by decide)) dX6_worthOfOne_58 ?_
    refine zt_eq (v' := .int (s_wr S j)) (by rw [nI_clamp (by omega)]; exact congrArg Value.int ((hAb.1 j hj).2.2)) ?_
    refine lv_i2l hx hb dX6_worthOfOne_59 rfl ?_
    refine lv_lmul hx hb dX6_worthOfOne_60 ?_
    refine zm_lret hx hb hr hlk hM hS ?_ ⟨Nat.le_refl _, Nat.le_refl _⟩ dX6_worthOfOne_61
    exact ⟨rfl, rfl⟩
  · refine lv_tableIn (off := 53) (tgt := 62) hx hb dX6_worthOfOne_9 (by decide) (by decide) rfl (by decide) ?_
    refine lv_ldc2 (v := 3) hx hb hown (hts _ cst_X6_88) dX6_worthOfOne_62 ?_
    refine lv_lload_n hx hb dX6_worthOfOne_65 rfl (lv_at hl 0 rfl) ?_
    refine lv_lmul hx hb dX6_worthOfOne_66 ?_
    refine zm_lret hx hb hr hlk hM hS ?_ ⟨Nat.le_refl _, Nat.le_refl _⟩ dX6_worthOfOne_67
    exact ⟨rfl, rfl⟩
  · refine lv_tableIn (off := 59) (tgt := 68) hx hb dX6_worthOfOne_9 (by decide) (by decide) rfl (by decide) ?_
    refine lv_lload_n hx hb dX6_worthOfOne_68 rfl (lv_at hl 0 rfl) ?_
    refine zm_lret hx hb hr hlk hM hS ?_ ⟨Nat.le_refl _, Nat.le_refl _⟩ dX6_worthOfOne_69
    exact ⟨rfl, rfl⟩
  · refine lv_tableOut (tgt := 70) hx hb dX6_worthOfOne_9 (by decide) (by decide) ?_
    refine lv_aload_n hx hb dX6_worthOfOne_70 rfl (lv_at hl 1 rfl) ?_
    refine zm_get hx hb hts hown hE hM hZ.2.1 fl_X6_7_5 rfl dX6_worthOfOne_71 ?_
    refine lv_iload_n hx hb dX6_worthOfOne_74 rfl (lv_at hl 2 rfl) ?_
    refine zm_iald hx hb hE hM (hZ.ar 1) (vp_in_nI (show j < 50 by omega) (by decide)) dX6_worthOfOne_75 ?_
    refine zt_eq (v' := .int (nI (s_kd S j))) (by rw [nI_clamp (by omega)]; exact congrArg Value.int ((hAb.1 j hj).1)) ?_
    refine lv_bipush (v := 6) hx hb dX6_worthOfOne_76 (by decide) ?_
    refine lv_icmp_ne (tgt := 89) hx hb dX6_worthOfOne_78 (by decide) (fun c78 => ?_) (fun c78 => ?_)
    · refine lv_ldc2 (v := 2) hx hb hown (hts _ cst_X6_86) dX6_worthOfOne_89 ?_
      refine lv_lload_n hx hb dX6_worthOfOne_92 rfl (lv_at hl 0 rfl) ?_
      refine lv_lmul hx hb dX6_worthOfOne_93 ?_
      refine zm_lret hx hb hr hlk hM hS ?_ ⟨Nat.le_refl _, Nat.le_refl _⟩ dX6_worthOfOne_94
      refine ⟨?_, rfl⟩
      have h16 := (hI.2.2.1 j hj).1
      first | (have h6 : s_kd S j = 6 := (nI_eq (b := 6) (by omega) (by omega)).mp c78; simp only [wOne, if_pos h6]) | (have h6 : ¬ s_kd S j = 6 := fun q => c78 (by rw [q]; rfl); simp only [wOne, if_neg h6])
    · refine lv_lload_n hx hb dX6_worthOfOne_81 rfl (lv_at hl 0 rfl) ?_
      refine lv_ldc2 (v := 5) hx hb hown (hts _ cst_X6_90) dX6_worthOfOne_82 ?_
      refine lv_ladd hx hb dX6_worthOfOne_85 ?_
      refine lv_goto (tgt := 94) hx hb dX6_worthOfOne_86 (by decide) ?_
      refine zm_lret hx hb hr hlk hM hS ?_ ⟨Nat.le_refl _, Nat.le_refl _⟩ dX6_worthOfOne_94
      refine ⟨?_, rfl⟩
      have h16 := (hI.2.2.1 j hj).1
      first | (have h6 : s_kd S j = 6 := (nI_eq (b := 6) (by omega) (by omega)).mp c78; simp only [wOne, if_pos h6]) | (have h6 : ¬ s_kd S j = 6 := fun q => c78 (by rw [q]; rfl); simp only [wOne, if_neg h6])
set_option maxRecDepth 100000 in
set_option maxHeartbeats 4000000 in
theorem c_X6_worthOfNumbers (l : Launch) (G : zm_G) (A : Nat → Prop) (q : Nat → Nat) (S : zS) (M : zm_M) (j : Nat) (hj : j < s_np S) (hk4 : s_kd S j < 4) (hI : zInv S) (hR : RepR G q S M) : Met l yX6_worthOfNumbers (zm_W yX6_worthOfNumbers cX6_worthOfNumbers 5 (some .long)) (zm_rm 1 0 0) (zm_Pc G [.ref (q 0), .int (nI j)] A M) (zm_Q G (fun r M' => r = some (.long (zsum (s_nu S j) (many S j))) ∧ M' = M) A) 0 0 A := by
  refine zm_start (by decide) (Nat.le_of_ble_eq_true rfl) ?_
  intro p e s m below meth c hx hb hml hr hts hown hlk hnm hE hA ls hl hM hS
  have hl : lv_has ls 5 [(0, .ref (q 0)), (1, .int (nI j))] := hl
  obtain ⟨f, g, hZ, hAb⟩ := hR
  have hnp := hI.1
  have hncc := hI.2.1
  have hm := many15 hI hj hk4
  refine lv_lconst (v := 0) hx hb dX6_worthOfNumbers_0 (by decide) ?_
  refine lv_lstore_n (lv' := [(2, .long 0), (0, .ref (q 0)), (1, .int (nI j))]) hx hb dX6_worthOfNumbers_1 rfl hl (by decide) rfl (fun ls hl => ?_)
  refine lv_iconst (v := 0) hx hb dX6_worthOfNumbers_2 (by decide) ?_
  refine lv_istore (lv' := [(4, .int 0), (2, .long 0), (0, .ref (q 0)), (1, .int (nI j))]) hx hb dX6_worthOfNumbers_3 hl (by decide) rfl (fun ls hl => ?_)
  have loop : ∀ (n k : Nat), k ≤ many S j → many S j + 1 ≤ k + n → ∀ (ls : Array Slot) (H : Heap) (locs : List Loc), zm_P G A M H → va_S A s.heap H locs → lv_has ls 5 [(4, .int (nI k)), (2, .long (zsum (s_nu S j) k)), (0, .ref (q 0)), (1, .int (nI j))] → W p l e (zm_rm 1 0 0) s m [.ref (q 0), .int (nI j)].toArray below meth c H locs 0 0 (MQ below (zm_Q G (fun r M' => r = some (.long (zsum (s_nu S j) (many S j))) ∧ M' = M) A) [.ref (q 0), .int (nI j)].toArray s 0 0 A) (F0 m 5 ls []) := by
    intro n
    induction n with
    | zero => intro k h1 h2; exact absurd h2 (by omega)
    | succ n ih =>
      intro k hk1 hk2 ls H locs hM hS hl
      refine lv_iload hx hb dX6_worthOfNumbers_5 (lv_at hl 0 rfl) ?_
      refine lv_aload_n hx hb dX6_worthOfNumbers_7 rfl (lv_at hl 2 rfl) ?_
      refine lv_iload_n hx hb dX6_worthOfNumbers_8 rfl (lv_at hl 3 rfl) ?_
      refine zm_callV (As := [.int (nI j)]) (rest := [.int (nI k)]) hx hb hml hts hown hE hA hM hS hZ.2.1 rfl (c_X6_many l G A q S _ j hj hI ⟨f, g, hZ, hAb⟩) cd_X6_many ml_X6_66 rfl rfl hl.1 (Nat.le_of_ble_eq_true rfl) ⟨Nat.le_of_ble_eq_true rfl, Nat.le_of_ble_eq_true rfl⟩ ⟨Nat.le_of_ble_eq_true rfl, Nat.le_of_ble_eq_true rfl⟩ dX6_worthOfNumbers_9 ?_
      rintro r M1 H locs ⟨rfl, e1⟩ hM hS
      rw [e1] at hM
      clear e1 M1
      refine W.eq (g2 := F0 m 12 ls [.int (nI (many S j)), .int (nI k)]) rfl ?_
      refine lv_icmp_ge (tgt := 36) hx hb dX6_worthOfNumbers_12 (by decide) (fun c12 => ?_) (fun c12 => ?_)
      · have hkk : k = many S j := by have := (nI_leI (by omega) (by omega)).mp c12; omega
        refine lv_lload_n hx hb dX6_worthOfNumbers_36 rfl (lv_at hl 1 rfl) ?_
        refine zm_lret hx hb hr hlk hM hS ?_ ⟨Nat.le_refl _, Nat.le_refl _⟩ dX6_worthOfNumbers_37
        exact ⟨by rw [hkk], rfl⟩
      · have hkk : k < many S j := by rw [nI_leI (by omega) (by omega)] at c12; omega
        refine lv_lload_n hx hb dX6_worthOfNumbers_15 rfl (lv_at hl 1 rfl) ?_
        refine lv_aload_n hx hb dX6_worthOfNumbers_16 rfl (lv_at hl 2 rfl) ?_
        refine zm_get hx hb hts hown hE hM hZ.2.1 fl_X6_19_5 rfl dX6_worthOfNumbers_17 ?_
        refine lv_bipush (v := 15) hx hb dX6_worthOfNumbers_20 (by decide) ?_
        refine lv_iload_n hx hb dX6_worthOfNumbers_22 rfl (lv_at hl 3 rfl) ?_
        refine lv_imul hx hb dX6_worthOfNumbers_23 ?_
        refine lv_iload hx hb dX6_worthOfNumbers_24 (lv_at hl 0 rfl) ?_
        refine lv_iadd hx hb dX6_worthOfNumbers_26 ?_
        refine zt_eq (v' := .int (nI (15 * j + k))) (congrArg Value.int (idx15 j k)) ?_
        refine zm_lald hx hb hE hM hZ.2.2.2 (vp_in_nI (show 15 * j + k < 750 by omega) (by decide)) dX6_worthOfNumbers_27 ?_
        refine zt_eq (v' := .long (s_nu S j k)) (by rw [nI_clamp (by omega), hAb.2.1 j k hj (by omega)]) ?_
        refine lv_ladd hx hb dX6_worthOfNumbers_28 ?_
        refine lv_lstore_n (lv' := [(2, .long ((zsum (s_nu S j) k) + (s_nu S j k))), (4, .int (nI k)), (0, .ref (q 0)), (1, .int (nI j))]) hx hb dX6_worthOfNumbers_29 rfl hl (by decide) rfl (fun ls hl => ?_)
        refine lv_iinc (v := nI (k + 1)) (lv' := [(4, .int (nI (k + 1))), (2, .long ((zsum (s_nu S j) k) + (s_nu S j k))), (0, .ref (q 0)), (1, .int (nI j))]) hx hb dX6_worthOfNumbers_30 hl (k := 1) rfl (nI_1 k) (by decide) rfl (fun ls hl => ?_)
        refine lv_goto (tgt := 5) hx hb dX6_worthOfNumbers_33 (by decide) ?_
        exact ih (k + 1) (by omega) (by omega) ls _ _ hM hS (lv_sub hl [0, 1, 2, 3] rfl)
  exact loop (many S j + 1) 0 (Nat.zero_le _) (by omega) ls _ _ hM hS (lv_sub hl [0, 1, 2, 3] rfl)
set_option maxRecDepth 100000 in
set_option maxHeartbeats 4000000 in
theorem c_X6_worthOfRow (l : Launch) (G : zm_G) (A : Nat → Prop) (q : Nat → Nat) (S : zS) (M : zm_M) (j : Nat) (hj : j < s_np S) (v : Nat) (hk8 : 8 ≤ s_kd S j) (hk12 : s_kd S j ≤ 12) (hv8 : 8 ≤ v) (hv12 : v ≤ 12) (hI : zInv S) (hR : RepR G q S M) : Met l yX6_worthOfRow (zm_W yX6_worthOfRow cX6_worthOfRow 7 (some .long)) (zm_rm 1 0 0) (zm_Pc G [.ref (q 0), .int (nI j), .int (nI v)] A M) (zm_Q G (fun r M' => r = some (.long (wRow S j v)) ∧ M' = M) A) 0 0 A := by
  refine zm_start (by decide) (Nat.le_of_ble_eq_true rfl) ?_
  intro p e s m below meth c hx hb hml hr hts hown hlk hnm hE hA ls hl hM hS
  have hl : lv_has ls 7 [(0, .ref (q 0)), (1, .int (nI j)), (2, .int (nI v))] := hl
  obtain ⟨f, g, hZ, hAb⟩ := hR
  have hnp := hI.1
  have hncc := hI.2.1
  obtain ⟨gg, hg⟩ : ∃ gg : Nat → Int64, gg = fun i => wAt (fun t => wOne S t (inn v)) (s_th S j i) := ⟨_, rfl⟩
  have hm := hI.sz5 hj (rw_pc (rw_of (show 8 ≤ s_kd S j by omega) (by omega)))
  refine lv_lconst (v := 0) hx hb dX6_worthOfRow_0 (by decide) ?_
  refine lv_lstore_n (lv' := [(3, .long 0), (0, .ref (q 0)), (1, .int (nI j)), (2, .int (nI v))]) hx hb dX6_worthOfRow_1 rfl hl (by decide) rfl (fun ls hl => ?_)
  refine lv_iconst (v := 0) hx hb dX6_worthOfRow_2 (by decide) ?_
  refine lv_istore (lv' := [(5, .int 0), (3, .long 0), (0, .ref (q 0)), (1, .int (nI j)), (2, .int (nI v))]) hx hb dX6_worthOfRow_3 hl (by decide) rfl (fun ls hl => ?_)
  have loop : ∀ (n k : Nat), k ≤ s_sz S j → s_sz S j + 1 ≤ k + n → ∀ (ls : Array Slot) (H : Heap) (locs : List Loc), zm_P G A M H → va_S A s.heap H locs → lv_has ls 7 [(5, .int (nI k)), (3, .long (zsum gg k)), (0, .ref (q 0)), (1, .int (nI j)), (2, .int (nI v))] → W p l e (zm_rm 1 0 0) s m [.ref (q 0), .int (nI j), .int (nI v)].toArray below meth c H locs 0 0 (MQ below (zm_Q G (fun r M' => r = some (.long (wRow S j v)) ∧ M' = M) A) [.ref (q 0), .int (nI j), .int (nI v)].toArray s 0 0 A) (F0 m 5 ls []) := by
    intro n
    induction n with
    | zero => intro k h1 h2; exact absurd h2 (by omega)
    | succ n ih =>
      intro k hk1 hk2 ls H locs hM hS hl
      refine lv_iload hx hb dX6_worthOfRow_5 (lv_at hl 0 rfl) ?_
      refine lv_aload_n hx hb dX6_worthOfRow_7 rfl (lv_at hl 2 rfl) ?_
      refine zm_get hx hb hts hown hE hM hZ.2.1 fl_X6_13_5 rfl dX6_worthOfRow_8 ?_
      refine lv_iload_n hx hb dX6_worthOfRow_11 rfl (lv_at hl 3 rfl) ?_
      refine zm_iald hx hb hE hM (hZ.ar 2) (vp_in_nI (show j < 50 by omega) (by decide)) dX6_worthOfRow_12 ?_
      refine zt_eq (v' := .int (nI (s_sz S j))) (by rw [nI_clamp (by omega)]; exact congrArg Value.int ((hAb.1 j hj).2.1)) ?_
      refine lv_icmp_ge (tgt := 58) hx hb dX6_worthOfRow_13 (by decide) (fun c13 => ?_) (fun c13 => ?_)
      · have hkk : k = s_sz S j := by have := (nI_leI (by omega) (by omega)).mp c13; omega
        refine lv_lload_n hx hb dX6_worthOfRow_58 rfl (lv_at hl 1 rfl) ?_
        refine zm_lret hx hb hr hlk hM hS ?_ ⟨Nat.le_refl _, Nat.le_refl _⟩ dX6_worthOfRow_59
        refine ⟨?_, rfl⟩
        rw [hkk, hg]; rfl
      · have hkk : k < s_sz S j := by rw [nI_leI (by omega) (by omega)] at c13; omega
        refine lv_aload_n hx hb dX6_worthOfRow_16 rfl (lv_at hl 2 rfl) ?_
        refine zm_get hx hb hts hown hE hM hZ.2.1 fl_X6_23_5 rfl dX6_worthOfRow_17 ?_
        refine lv_iconst (v := 5) hx hb dX6_worthOfRow_20 (by decide) ?_
        refine lv_iload_n hx hb dX6_worthOfRow_21 rfl (lv_at hl 3 rfl) ?_
        refine lv_imul hx hb dX6_worthOfRow_22 ?_
        refine lv_iload hx hb dX6_worthOfRow_23 (lv_at hl 0 rfl) ?_
        refine lv_iadd hx hb dX6_worthOfRow_25 ?_
        refine zt_eq (v' := .int (nI (5 * j + k))) (congrArg Value.int (idx5 j k)) ?_
        refine zm_iald hx hb hE hM (hZ.ar 5) (vp_in_nI (show 5 * j + k < 250 by omega) (by decide)) dX6_worthOfRow_26 ?_
        refine zt_eq (v' := .int (oI (s_th S j k))) (by rw [nI_clamp (by omega)]; exact congrArg Value.int (hAb.2.2.1 j k hj (by omega))) ?_
        refine lv_istore (lv' := [(6, .int (oI (s_th S j k))), (5, .int (nI k)), (3, .long (zsum gg k)), (0, .ref (q 0)), (1, .int (nI j)), (2, .int (nI v))]) hx hb dX6_worthOfRow_27 hl (by decide) rfl (fun ls hl => ?_)
        refine lv_lload_n hx hb dX6_worthOfRow_29 rfl (lv_at hl 2 rfl) ?_
        refine lv_iload hx hb dX6_worthOfRow_30 (lv_at hl 0 rfl) ?_
        refine lv_iconst (v := (-1)) hx hb dX6_worthOfRow_32 (by decide) ?_
        refine lv_icmp_ne (tgt := 40) hx hb dX6_worthOfRow_33 (by decide) (fun c33 => ?_) (fun c33 => ?_)
        · obtain ⟨t, hth⟩ := oI_some c33
          rw [hth] at hl
          have hl : lv_has ls 7 [(6, .int (nI t)), (5, .int (nI k)), (3, .long (zsum gg k)), (0, .ref (q 0)), (1, .int (nI j)), (2, .int (nI v))] := hl
          obtain ⟨htn, hga⟩ := hI.2.2.2.1 j hj (by omega) k t hkk hth
          have ht16 := (hI.2.2.1 t htn).1
          have hkt := gA_pc _ ht16 _ hk8 hk12 hga
          have hgk : zsum gg (k + 1) = zsum gg k + wOne S t (inn v) := by show zsum gg k + gg k = _; rw [show gg k = wOne S t (inn v) by rw [hg]; show wAt _ (s_th S j k) = _; rw [hth]; rfl]
          refine lv_aload_n hx hb dX6_worthOfRow_40 rfl (lv_at hl 3 rfl) ?_
          refine lv_iload hx hb dX6_worthOfRow_41 (lv_at hl 0 rfl) ?_
          refine lv_iload_n hx hb dX6_worthOfRow_43 rfl (lv_at hl 5 rfl) ?_
          refine zm_callS (As := [.int (nI v)]) (rest := [.int (nI t), .ref (q 0), .long (zsum gg k)]) hx hb hml hts hown hE hA hM hS (c_X6_inner l G A _ v (by omega) (by omega)) cd_X6_inner ml_X6_92 rfl rfl hl.1 (Nat.le_of_ble_eq_true rfl) ⟨Nat.le_of_ble_eq_true rfl, Nat.le_of_ble_eq_true rfl⟩ ⟨Nat.le_of_ble_eq_true rfl, Nat.le_of_ble_eq_true rfl⟩ dX6_worthOfRow_44 ?_
          rintro r M1 H locs ⟨rfl, e1⟩ hM hS
          rw [e1] at hM
          clear e1 M1
          refine W.eq (g2 := F0 m 47 ls [.int (nI (inn v)), .int (nI t), .ref (q 0), .long (zsum gg k)]) rfl ?_
          refine zm_callV (As := [.int (nI t), .int (nI (inn v))]) (rest := [.long (zsum gg k)]) hx hb hml hts hown hE hA hM hS hZ.2.1 rfl (c_X6_worthOfOne l G A q S _ t htn (inn v) (inn_pc v hv8 hv12) hI ⟨f, g, hZ, hAb⟩) cd_X6_worthOfOne ml_X6_95 rfl rfl hl.1 (Nat.le_of_ble_eq_true rfl) ⟨Nat.le_of_ble_eq_true rfl, Nat.le_of_ble_eq_true rfl⟩ ⟨Nat.le_of_ble_eq_true rfl, Nat.le_of_ble_eq_true rfl⟩ dX6_worthOfRow_47 ?_
          rintro r M1 H locs ⟨rfl, e1⟩ hM hS
          rw [e1] at hM
          clear e1 M1
          refine W.eq (g2 := F0 m 50 ls [.long (wOne S t (inn v)), .long (zsum gg k)]) rfl ?_
          refine lv_ladd hx hb dX6_worthOfRow_50 ?_
          refine lv_lstore_n (lv' := [(3, .long ((zsum gg k) + (wOne S t (inn v)))), (6, .int (nI t)), (5, .int (nI k)), (0, .ref (q 0)), (1, .int (nI j)), (2, .int (nI v))]) hx hb dX6_worthOfRow_51 rfl hl (by decide) rfl (fun ls hl => ?_)
          refine lv_iinc (v := nI (k + 1)) (lv' := [(5, .int (nI (k + 1))), (3, .long ((zsum gg k) + (wOne S t (inn v)))), (6, .int (nI t)), (0, .ref (q 0)), (1, .int (nI j)), (2, .int (nI v))]) hx hb dX6_worthOfRow_52 hl (k := 2) rfl (nI_1 k) (by decide) rfl (fun ls hl => ?_)
          refine lv_goto (tgt := 5) hx hb dX6_worthOfRow_55 (by decide) ?_
          exact ih (k + 1) (by omega) (by omega) ls _ _ hM hS (by rw [hgk]; exact (lv_sub hl [0, 1, 3, 4, 5] rfl))
        · have hth : s_th S j k = none := (oI_m1 (fun t ht => by have := (hI.2.2.2.1 j hj (by omega) k t hkk ht).1; omega)).mp c33
          have hgk : zsum gg (k + 1) = zsum gg k + 0 := by show zsum gg k + gg k = _; rw [show gg k = 0 by rw [hg]; show wAt _ (s_th S j k) = _; rw [hth]; rfl]
          refine lv_lconst (v := 0) hx hb dX6_worthOfRow_36 (by decide) ?_
          refine lv_goto (tgt := 50) hx hb dX6_worthOfRow_37 (by decide) ?_
          refine lv_ladd hx hb dX6_worthOfRow_50 ?_
          refine lv_lstore_n (lv' := [(3, .long ((zsum gg k) + 0)), (6, .int (oI (s_th S j k))), (5, .int (nI k)), (0, .ref (q 0)), (1, .int (nI j)), (2, .int (nI v))]) hx hb dX6_worthOfRow_51 rfl hl (by decide) rfl (fun ls hl => ?_)
          refine lv_iinc (v := nI (k + 1)) (lv' := [(5, .int (nI (k + 1))), (3, .long ((zsum gg k) + 0)), (6, .int (oI (s_th S j k))), (0, .ref (q 0)), (1, .int (nI j)), (2, .int (nI v))]) hx hb dX6_worthOfRow_52 hl (k := 2) rfl (nI_1 k) (by decide) rfl (fun ls hl => ?_)
          refine lv_goto (tgt := 5) hx hb dX6_worthOfRow_55 (by decide) ?_
          exact ih (k + 1) (by omega) (by omega) ls _ _ hM hS (by rw [hgk]; exact (lv_sub hl [0, 1, 3, 4, 5] rfl))
  exact loop (s_sz S j + 1) 0 (Nat.zero_le _) (by omega) ls _ _ hM hS (lv_sub hl [0, 1, 2, 3, 4] rfl)
theorem kd_of {k v : Nat} (hk : k < 16) (hv : v < 17) (h : gA k v = true) : (v < 4 → k < 4) ∧ (8 ≤ v → v ≤ 12 → 8 ≤ k ∧ k ≤ 12) ∧ (13 ≤ v → v ≤ 15 → 13 ≤ k) := by
  obtain ⟨g1, g2, g3, g4⟩ := gA_lv0 k hk v hv h
  have g5 : isPc k = true ∨ ¬ isPc k = true := Classical.em _
  have g6 : isPc k = true ↔ 4 ≤ k ∧ k ≤ 7 := by simp [isPc]
  refine ⟨fun z => ?_, fun z1 z2 => ?_, fun z1 z2 => ?_⟩
  · rcases g5 with g5 | g5
    · have := g2 g5; omega
    · rw [g6] at g5; by_cases a : k ≤ 12
      · by_cases b : k < 4
        · exact b
        · have := g3 (by omega) a; omega
      · have := g4 (by omega); omega
  · rcases g5 with g5 | g5
    · have := g2 g5; omega
    · rw [g6] at g5; by_cases a : k ≤ 12
      · by_cases b : k < 4
        · have := g1 b; omega
        · exact ⟨by omega, a⟩
      · have := g4 (by omega); omega
  · rcases g5 with g5 | g5
    · have := g2 g5; omega
    · rw [g6] at g5; by_cases a : k ≤ 12
      · by_cases b : k < 4
        · have := g1 b; omega
        · have := g3 (by omega) a; omega
      · omega
set_option maxRecDepth 100000 in
set_option maxHeartbeats 4000000 in
theorem c_X6_worthOf (l : Launch) (G : zm_G) (A : Nat → Prop) (q : Nat → Nat) (S : zS) (M : zm_M) (j : Nat) (hj : j < s_np S) (v : Nat) (hv17 : v < 17) (hga0 : gA (s_kd S j) v = true) (hI : zInv S) (hR : RepR G q S M) : Met l yX6_worthOf (zm_W yX6_worthOf cX6_worthOf 7 (some .long)) (zm_rm 2 0 0) (zm_Pc G [.ref (q 0), .int (nI j), .int (nI v)] A M) (zm_Q G (fun r M' => r = some (.long (wOf S j v)) ∧ M' = M) A) 0 0 A := by
  refine zm_start (by decide) (Nat.le_of_ble_eq_true rfl) ?_
  intro p e s m below meth c hx hb hml hr hts hown hlk hnm hE hA ls hl hM hS
  have hl : lv_has ls 7 [(0, .ref (q 0)), (1, .int (nI j)), (2, .int (nI v))] := hl
  obtain ⟨f, g, hZ, hAb⟩ := hR
  have hnp := hI.1
  have hncc := hI.2.1
  obtain ⟨gg, hg⟩ : ∃ gg : Nat → Int64, gg = fun i => wAt (fun t => wRow S t (inn v)) (s_th S j i) := ⟨_, rfl⟩
  have h16 := (hI.2.2.1 j hj).1
  obtain ⟨k1, k2, k3⟩ := kd_of h16 hv17 hga0
  refine lv_iload_n hx hb dX6_worthOf_0 rfl (lv_at hl 2 rfl) ?_
  refine lv_iconst (v := 4) hx hb dX6_worthOf_1 (by decide) ?_
  refine lv_icmp_ge (tgt := 11) hx hb dX6_worthOf_2 (by decide) (fun c2 => ?_) (fun c2 => ?_)
  · rw [show (4 : Int32) = nI 4 from rfl, nI_leI (by omega) (by omega)] at c2
    refine lv_iload_n hx hb dX6_worthOf_11 rfl (lv_at hl 2 rfl) ?_
    refine lv_bipush (v := 8) hx hb dX6_worthOf_12 (by decide) ?_
    refine lv_icmp_lt (tgt := 23) hx hb dX6_worthOf_14 (by decide) (fun c14 => ?_) (fun c14 => ?_)
    · rw [show (8 : Int32) = nI 8 from rfl, nI_ltI (by omega) (by omega)] at c14
      have hv5 : v = 4 ∨ v = 5 ∨ v = 6 ∨ v = 7 ∨ v = 16 := by omega
      refine lv_aload_n hx hb dX6_worthOf_23 rfl (lv_at hl 0 rfl) ?_
      refine lv_iload_n hx hb dX6_worthOf_24 rfl (lv_at hl 1 rfl) ?_
      refine lv_iload_n hx hb dX6_worthOf_25 rfl (lv_at hl 2 rfl) ?_
      refine zm_callV (As := [.int (nI j), .int (nI v)]) (rest := []) hx hb hml hts hown hE hA hM hS hZ.2.1 rfl (c_X6_worthOfOne l G A q S _ j hj v hv5 hI ⟨f, g, hZ, hAb⟩) cd_X6_worthOfOne ml_X6_95 rfl rfl hl.1 (Nat.le_of_ble_eq_true rfl) ⟨Nat.le_of_ble_eq_true rfl, Nat.le_of_ble_eq_true rfl⟩ ⟨Nat.le_of_ble_eq_true rfl, Nat.le_of_ble_eq_true rfl⟩ dX6_worthOf_26 ?_
      rintro r M1 H locs ⟨rfl, e1⟩ hM hS
      rw [e1] at hM
      clear e1 M1
      refine W.eq (g2 := F0 m 29 ls [.long (wOne S j v)]) rfl ?_
      refine zm_lret hx hb hr hlk hM hS ?_ ⟨Nat.le_refl _, Nat.le_refl _⟩ dX6_worthOf_29
      exact ⟨by rw [wOf_pc hv5], rfl⟩
    · rw [show (8 : Int32) = nI 8 from rfl, nI_ltI (by omega) (by omega)] at c14
      refine lv_iload_n hx hb dX6_worthOf_17 rfl (lv_at hl 2 rfl) ?_
      refine lv_bipush (v := 16) hx hb dX6_worthOf_18 (by decide) ?_
      refine lv_icmp_ne (tgt := 30) hx hb dX6_worthOf_20 (by decide) (fun c20 => ?_) (fun c20 => ?_)
      · have hv16 : ¬ v = 16 := fun e => c20 (by rw [e]; rfl)
        refine lv_iload_n hx hb dX6_worthOf_30 rfl (lv_at hl 2 rfl) ?_
        refine lv_bipush (v := 13) hx hb dX6_worthOf_31 (by decide) ?_
        refine lv_icmp_ge (tgt := 43) hx hb dX6_worthOf_33 (by decide) (fun c33 => ?_) (fun c33 => ?_)
        · rw [show (13 : Int32) = nI 13 from rfl, nI_leI (by omega) (by omega)] at c33
          have hv8 : 13 ≤ v := by omega
          have hv12 : v ≤ 15 := by omega
          have hk8 := k3 hv8 hv12
          have hk12 : s_kd S j ≤ 15 := by omega
          have hm := hI.sz5 hj (rw_pc (rw_of (show 8 ≤ s_kd S j by omega) (by omega)))
          refine lv_lconst (v := 0) hx hb dX6_worthOf_43 (by decide) ?_
          refine lv_lstore_n (lv' := [(3, .long 0), (0, .ref (q 0)), (1, .int (nI j)), (2, .int (nI v))]) hx hb dX6_worthOf_44 rfl hl (by decide) rfl (fun ls hl => ?_)
          refine lv_iconst (v := 0) hx hb dX6_worthOf_45 (by decide) ?_
          refine lv_istore (lv' := [(5, .int 0), (3, .long 0), (0, .ref (q 0)), (1, .int (nI j)), (2, .int (nI v))]) hx hb dX6_worthOf_46 hl (by decide) rfl (fun ls hl => ?_)
          have loop : ∀ (n k : Nat), k ≤ s_sz S j → s_sz S j + 1 ≤ k + n → ∀ (ls : Array Slot) (H : Heap) (locs : List Loc), zm_P G A M H → va_S A s.heap H locs → lv_has ls 7 [(5, .int (nI k)), (3, .long (zsum gg k)), (0, .ref (q 0)), (1, .int (nI j)), (2, .int (nI v))] → W p l e (zm_rm 2 0 0) s m [.ref (q 0), .int (nI j), .int (nI v)].toArray below meth c H locs 0 0 (MQ below (zm_Q G (fun r M' => r = some (.long (wOf S j v)) ∧ M' = M) A) [.ref (q 0), .int (nI j), .int (nI v)].toArray s 0 0 A) (F0 m 48 ls []) := by
            intro n
            induction n with
            | zero => intro k h1 h2; exact absurd h2 (by omega)
            | succ n ih =>
              intro k hk1 hk2 ls H locs hM hS hl
              refine lv_iload hx hb dX6_worthOf_48 (lv_at hl 0 rfl) ?_
              refine lv_aload_n hx hb dX6_worthOf_50 rfl (lv_at hl 2 rfl) ?_
              refine zm_get hx hb hts hown hE hM hZ.2.1 fl_X6_13_5 rfl dX6_worthOf_51 ?_
              refine lv_iload_n hx hb dX6_worthOf_54 rfl (lv_at hl 3 rfl) ?_
              refine zm_iald hx hb hE hM (hZ.ar 2) (vp_in_nI (show j < 50 by omega) (by decide)) dX6_worthOf_55 ?_
              refine zt_eq (v' := .int (nI (s_sz S j))) (by rw [nI_clamp (by omega)]; exact congrArg Value.int ((hAb.1 j hj).2.1)) ?_
              refine lv_icmp_ge (tgt := 101) hx hb dX6_worthOf_56 (by decide) (fun c56 => ?_) (fun c56 => ?_)
              · have hkk : k = s_sz S j := by have := (nI_leI (by omega) (by omega)).mp c56; omega
                refine lv_lload_n hx hb dX6_worthOf_101 rfl (lv_at hl 1 rfl) ?_
                refine zm_lret hx hb hr hlk hM hS ?_ ⟨Nat.le_refl _, Nat.le_refl _⟩ dX6_worthOf_102
                refine ⟨?_, rfl⟩
                rw [wOf_r2 hv8 hv12, hkk, hg]
              · have hkk : k < s_sz S j := by rw [nI_leI (by omega) (by omega)] at c56; omega
                refine lv_aload_n hx hb dX6_worthOf_59 rfl (lv_at hl 2 rfl) ?_
                refine zm_get hx hb hts hown hE hM hZ.2.1 fl_X6_23_5 rfl dX6_worthOf_60 ?_
                refine lv_iconst (v := 5) hx hb dX6_worthOf_63 (by decide) ?_
                refine lv_iload_n hx hb dX6_worthOf_64 rfl (lv_at hl 3 rfl) ?_
                refine lv_imul hx hb dX6_worthOf_65 ?_
                refine lv_iload hx hb dX6_worthOf_66 (lv_at hl 0 rfl) ?_
                refine lv_iadd hx hb dX6_worthOf_68 ?_
                refine zt_eq (v' := .int (nI (5 * j + k))) (congrArg Value.int (idx5 j k)) ?_
                refine zm_iald hx hb hE hM (hZ.ar 5) (vp_in_nI (show 5 * j + k < 250 by omega) (by decide)) dX6_worthOf_69 ?_
                refine zt_eq (v' := .int (oI (s_th S j k))) (by rw [nI_clamp (by omega)]; exact congrArg Value.int (hAb.2.2.1 j k hj (by omega))) ?_
                refine lv_istore (lv' := [(6, .int (oI (s_th S j k))), (5, .int (nI k)), (3, .long (zsum gg k)), (0, .ref (q 0)), (1, .int (nI j)), (2, .int (nI v))]) hx hb dX6_worthOf_70 hl (by decide) rfl (fun ls hl => ?_)
                refine lv_lload_n hx hb dX6_worthOf_72 rfl (lv_at hl 2 rfl) ?_
                refine lv_iload hx hb dX6_worthOf_73 (lv_at hl 0 rfl) ?_
                refine lv_iconst (v := (-1)) hx hb dX6_worthOf_75 (by decide) ?_
                refine lv_icmp_ne (tgt := 83) hx hb dX6_worthOf_76 (by decide) (fun c76 => ?_) (fun c76 => ?_)
                · obtain ⟨t, hth⟩ := oI_some c76
                  rw [hth] at hl
                  have hl : lv_has ls 7 [(6, .int (nI t)), (5, .int (nI k)), (3, .long (zsum gg k)), (0, .ref (q 0)), (1, .int (nI j)), (2, .int (nI v))] := hl
                  obtain ⟨htn, hga⟩ := hI.2.2.2.1 j hj (by omega) k t hkk hth
                  have ht16 := (hI.2.2.1 t htn).1
                  obtain ⟨hkt, hkt2⟩ := gA_rw _ ht16 _ hk8 hk12 hga
                  have hgk : zsum gg (k + 1) = zsum gg k + wRow S t (inn v) := by show zsum gg k + gg k = _; rw [show gg k = wRow S t (inn v) by rw [hg]; show wAt _ (s_th S j k) = _; rw [hth]; rfl]
                  refine lv_aload_n hx hb dX6_worthOf_83 rfl (lv_at hl 3 rfl) ?_
                  refine lv_iload hx hb dX6_worthOf_84 (lv_at hl 0 rfl) ?_
                  refine lv_iload_n hx hb dX6_worthOf_86 rfl (lv_at hl 5 rfl) ?_
                  refine zm_callS (As := [.int (nI v)]) (rest := [.int (nI t), .ref (q 0), .long (zsum gg k)]) hx hb hml hts hown hE hA hM hS (c_X6_inner l G A _ v (by omega) (by omega)) cd_X6_inner ml_X6_92 rfl rfl hl.1 (Nat.le_of_ble_eq_true rfl) ⟨Nat.le_of_ble_eq_true rfl, Nat.le_of_ble_eq_true rfl⟩ ⟨Nat.le_of_ble_eq_true rfl, Nat.le_of_ble_eq_true rfl⟩ dX6_worthOf_87 ?_
                  rintro r M1 H locs ⟨rfl, e1⟩ hM hS
                  rw [e1] at hM
                  clear e1 M1
                  refine W.eq (g2 := F0 m 90 ls [.int (nI (inn v)), .int (nI t), .ref (q 0), .long (zsum gg k)]) rfl ?_
                  refine zm_callV (As := [.int (nI t), .int (nI (inn v))]) (rest := [.long (zsum gg k)]) hx hb hml hts hown hE hA hM hS hZ.2.1 rfl (c_X6_worthOfRow l G A q S _ t htn (inn v) hkt hkt2 (inn_rw v hv8 hv12).1 (inn_rw v hv8 hv12).2 hI ⟨f, g, hZ, hAb⟩) cd_X6_worthOfRow ml_X6_103 rfl rfl hl.1 (Nat.le_of_ble_eq_true rfl) ⟨Nat.le_of_ble_eq_true rfl, Nat.le_of_ble_eq_true rfl⟩ ⟨Nat.le_of_ble_eq_true rfl, Nat.le_of_ble_eq_true rfl⟩ dX6_worthOf_90 ?_
                  rintro r M1 H locs ⟨rfl, e1⟩ hM hS
                  rw [e1] at hM
                  clear e1 M1
                  refine W.eq (g2 := F0 m 93 ls [.long (wRow S t (inn v)), .long (zsum gg k)]) rfl ?_
                  refine lv_ladd hx hb dX6_worthOf_93 ?_
                  refine lv_lstore_n (lv' := [(3, .long ((zsum gg k) + (wRow S t (inn v)))), (6, .int (nI t)), (5, .int (nI k)), (0, .ref (q 0)), (1, .int (nI j)), (2, .int (nI v))]) hx hb dX6_worthOf_94 rfl hl (by decide) rfl (fun ls hl => ?_)
                  refine lv_iinc (v := nI (k + 1)) (lv' := [(5, .int (nI (k + 1))), (3, .long ((zsum gg k) + (wRow S t (inn v)))), (6, .int (nI t)), (0, .ref (q 0)), (1, .int (nI j)), (2, .int (nI v))]) hx hb dX6_worthOf_95 hl (k := 2) rfl (nI_1 k) (by decide) rfl (fun ls hl => ?_)
                  refine lv_goto (tgt := 48) hx hb dX6_worthOf_98 (by decide) ?_
                  exact ih (k + 1) (by omega) (by omega) ls _ _ hM hS (by rw [hgk]; exact (lv_sub hl [0, 1, 3, 4, 5] rfl))
                · have hth : s_th S j k = none := (oI_m1 (fun t ht => by have := (hI.2.2.2.1 j hj (by omega) k t hkk ht).1; omega)).mp c76
                  have hgk : zsum gg (k + 1) = zsum gg k + 0 := by show zsum gg k + gg k = _; rw [show gg k = 0 by rw [hg]; show wAt _ (s_th S j k) = _; rw [hth]; rfl]
                  refine lv_lconst (v := 0) hx hb dX6_worthOf_79 (by decide) ?_
                  refine lv_goto (tgt := 93) hx hb dX6_worthOf_80 (by decide) ?_
                  refine lv_ladd hx hb dX6_worthOf_93 ?_
                  refine lv_lstore_n (lv' := [(3, .long ((zsum gg k) + 0)), (6, .int (oI (s_th S j k))), (5, .int (nI k)), (0, .ref (q 0)), (1, .int (nI j)), (2, .int (nI v))]) hx hb dX6_worthOf_94 rfl hl (by decide) rfl (fun ls hl => ?_)
                  refine lv_iinc (v := nI (k + 1)) (lv' := [(5, .int (nI (k + 1))), (3, .long ((zsum gg k) + 0)), (6, .int (oI (s_th S j k))), (0, .ref (q 0)), (1, .int (nI j)), (2, .int (nI v))]) hx hb dX6_worthOf_95 hl (k := 2) rfl (nI_1 k) (by decide) rfl (fun ls hl => ?_)
                  refine lv_goto (tgt := 48) hx hb dX6_worthOf_98 (by decide) ?_
                  exact ih (k + 1) (by omega) (by omega) ls _ _ hM hS (by rw [hgk]; exact (lv_sub hl [0, 1, 3, 4, 5] rfl))
          exact loop (s_sz S j + 1) 0 (Nat.zero_le _) (by omega) ls _ _ hM hS (lv_sub hl [0, 1, 2, 3, 4] rfl)
        · rw [show (13 : Int32) = nI 13 from rfl, nI_leI (by omega) (by omega)] at c33
          have hkv := k2 (by omega) (by omega)
          refine lv_aload_n hx hb dX6_worthOf_36 rfl (lv_at hl 0 rfl) ?_
          refine lv_iload_n hx hb dX6_worthOf_37 rfl (lv_at hl 1 rfl) ?_
          refine lv_iload_n hx hb dX6_worthOf_38 rfl (lv_at hl 2 rfl) ?_
          refine zm_callV (As := [.int (nI j), .int (nI v)]) (rest := []) hx hb hml hts hown hE hA hM hS hZ.2.1 rfl (c_X6_worthOfRow l G A q S _ j hj v (by omega) (by omega) (by omega) (by omega) hI ⟨f, g, hZ, hAb⟩) cd_X6_worthOfRow ml_X6_103 rfl rfl hl.1 (Nat.le_of_ble_eq_true rfl) ⟨Nat.le_of_ble_eq_true rfl, Nat.le_of_ble_eq_true rfl⟩ ⟨Nat.le_of_ble_eq_true rfl, Nat.le_of_ble_eq_true rfl⟩ dX6_worthOf_39 ?_
          rintro r M1 H locs ⟨rfl, e1⟩ hM hS
          rw [e1] at hM
          clear e1 M1
          refine W.eq (g2 := F0 m 42 ls [.long (wRow S j v)]) rfl ?_
          refine zm_lret hx hb hr hlk hM hS ?_ ⟨Nat.le_refl _, Nat.le_refl _⟩ dX6_worthOf_42
          exact ⟨by rw [wOf_r1 (by omega) (by omega)], rfl⟩
      · have hv5 : v = 4 ∨ v = 5 ∨ v = 6 ∨ v = 7 ∨ v = 16 := by have := (nI_eq (b := 16) (by omega) (by omega)).mp c20; omega
        refine lv_aload_n hx hb dX6_worthOf_23 rfl (lv_at hl 0 rfl) ?_
        refine lv_iload_n hx hb dX6_worthOf_24 rfl (lv_at hl 1 rfl) ?_
        refine lv_iload_n hx hb dX6_worthOf_25 rfl (lv_at hl 2 rfl) ?_
        refine zm_callV (As := [.int (nI j), .int (nI v)]) (rest := []) hx hb hml hts hown hE hA hM hS hZ.2.1 rfl (c_X6_worthOfOne l G A q S _ j hj v hv5 hI ⟨f, g, hZ, hAb⟩) cd_X6_worthOfOne ml_X6_95 rfl rfl hl.1 (Nat.le_of_ble_eq_true rfl) ⟨Nat.le_of_ble_eq_true rfl, Nat.le_of_ble_eq_true rfl⟩ ⟨Nat.le_of_ble_eq_true rfl, Nat.le_of_ble_eq_true rfl⟩ dX6_worthOf_26 ?_
        rintro r M1 H locs ⟨rfl, e1⟩ hM hS
        rw [e1] at hM
        clear e1 M1
        refine W.eq (g2 := F0 m 29 ls [.long (wOne S j v)]) rfl ?_
        refine zm_lret hx hb hr hlk hM hS ?_ ⟨Nat.le_refl _, Nat.le_refl _⟩ dX6_worthOf_29
        exact ⟨by rw [wOf_pc hv5], rfl⟩
  · rw [show (4 : Int32) = nI 4 from rfl, nI_leI (by omega) (by omega)] at c2
    have hk4 := k1 (by omega)
    refine lv_aload_n hx hb dX6_worthOf_5 rfl (lv_at hl 0 rfl) ?_
    refine lv_iload_n hx hb dX6_worthOf_6 rfl (lv_at hl 1 rfl) ?_
    refine zm_callV (As := [.int (nI j)]) (rest := []) hx hb hml hts hown hE hA hM hS hZ.2.1 rfl (c_X6_worthOfNumbers l G A q S _ j hj hk4 hI ⟨f, g, hZ, hAb⟩) cd_X6_worthOfNumbers ml_X6_99 rfl rfl hl.1 (Nat.le_of_ble_eq_true rfl) ⟨Nat.le_of_ble_eq_true rfl, Nat.le_of_ble_eq_true rfl⟩ ⟨Nat.le_of_ble_eq_true rfl, Nat.le_of_ble_eq_true rfl⟩ dX6_worthOf_7 ?_
    rintro r M1 H locs ⟨rfl, e1⟩ hM hS
    rw [e1] at hM
    clear e1 M1
    refine W.eq (g2 := F0 m 10 ls [.long (zsum (s_nu S j) (many S j))]) rfl ?_
    refine zm_lret hx hb hr hlk hM hS ?_ ⟨Nat.le_refl _, Nat.le_refl _⟩ dX6_worthOf_10
    exact ⟨by rw [wOf_nu (by omega)], rfl⟩
set_option maxRecDepth 100000 in
set_option maxHeartbeats 4000000 in
theorem c_X6_is (l : Launch) (G : zm_G) (A : Nat → Prop) (q : Nat → Nat) (S : zS) (M : zm_M) (p0 x : Int32) (hI : zInv S) (hR : RepR G q S M) : Met l yX6_is (zm_W yX6_is cX6_is 3 (some .int)) (zm_rm 2 0 0) (zm_Pc G [.ref (q 0), .int p0, .int x] A M) (zm_Q G (fun r M' => r = some (.int (sp_is S p0 x)) ∧ M' = M) A) 0 0 A := by
  refine zm_start (by decide) (Nat.le_of_ble_eq_true rfl) ?_
  intro p e s m below meth c hx hb hml hr hts hown hlk hnm hE hA ls hl hM hS
  have hl : lv_has ls 3 [(0, .ref (q 0)), (1, .int p0), (2, .int x)] := hl
  obtain ⟨f, g, hZ, hAb⟩ := hR
  have hnp := hI.1
  have hncc := hI.2.1
  refine lv_aload_n hx hb dX6_is_0 rfl (lv_at hl 0 rfl) ?_
  refine lv_iload_n hx hb dX6_is_1 rfl (lv_at hl 1 rfl) ?_
  refine zm_callV (As := [.int p0]) (rest := []) hx hb hml hts hown hE hA hM hS hZ.2.1 rfl (c_X6_isProp l G A q S _ p0 hI ⟨f, g, hZ, hAb⟩) cd_X6_isProp ml_X6_63 rfl rfl hl.1 (Nat.le_of_ble_eq_true rfl) ⟨Nat.le_of_ble_eq_true rfl, Nat.le_of_ble_eq_true rfl⟩ ⟨Nat.le_of_ble_eq_true rfl, Nat.le_of_ble_eq_true rfl⟩ dX6_is_2 ?_
  rintro r M1 H locs ⟨rfl, e1⟩ hM hS
  rw [e1] at hM
  clear e1 M1
  refine W.eq (g2 := F0 m 5 ls [.int (bI (ix (s_np S) p0).isSome)]) rfl ?_
  refine lv_if_eq (tgt := 15) hx hb dX6_is_5 (by decide) (fun c5 => ?_) (fun c5 => ?_)
  · rw [bI_0] at c5
    have hix := isS_f c5
    refine lv_bipush (v := (-2)) hx hb dX6_is_15 (by decide) ?_
    refine lv_goto (tgt := 38) hx hb dX6_is_17 (by decide) ?_
    refine zm_iret hx hb hr hlk hM hS ?_ ⟨Nat.le_refl _, Nat.le_refl _⟩ dX6_is_38
    refine ⟨?_, rfl⟩
    unfold sp_is
    first | (rw [hix, hiv]; show some (Value.int _) = some (Value.int (bI (gA (s_kd S j) v))); rw [c30]; rfl) | (rw [hix, hiv]; done) | (rw [hix]; done)
  · rw [bI_n] at c5
    obtain ⟨j, hix⟩ := isS_t c5
    obtain ⟨hj, rfl⟩ := ix_some (by omega) hix
    refine lv_iload_n hx hb dX6_is_8 rfl (lv_at hl 2 rfl) ?_
    refine zm_callS (As := [.int x]) (rest := []) hx hb hml hts hown hE hA hM hS (c_X6_isView l G A _ x) cd_X6_isView ml_X6_77 rfl rfl hl.1 (Nat.le_of_ble_eq_true rfl) ⟨Nat.le_of_ble_eq_true rfl, Nat.le_of_ble_eq_true rfl⟩ ⟨Nat.le_of_ble_eq_true rfl, Nat.le_of_ble_eq_true rfl⟩ dX6_is_9 ?_
    rintro r M1 H locs ⟨rfl, e1⟩ hM hS
    rw [e1] at hM
    clear e1 M1
    refine W.eq (g2 := F0 m 12 ls [.int (bI ((ix 17 x).isSome))]) rfl ?_
    refine lv_if_ne (tgt := 20) hx hb dX6_is_12 (by decide) (fun c12 => ?_) (fun c12 => ?_)
    · rw [bI_n] at c12
      obtain ⟨v, hiv⟩ := isS_t c12
      obtain ⟨hv, rfl⟩ := ix_some (by omega) hiv
      refine lv_aload_n hx hb dX6_is_20 rfl (lv_at hl 0 rfl) ?_
      refine zm_get hx hb hts hown hE hM hZ.2.1 fl_X6_7_5 rfl dX6_is_21 ?_
      refine lv_iload_n hx hb dX6_is_24 rfl (lv_at hl 1 rfl) ?_
      refine zm_iald hx hb hE hM (hZ.ar 1) (vp_in_nI (show j < 50 by omega) (by decide)) dX6_is_25 ?_
      refine zt_eq (v' := .int (nI (s_kd S j))) (by rw [nI_clamp (by omega)]; exact congrArg Value.int ((hAb.1 j hj).1)) ?_
      refine lv_iload_n hx hb dX6_is_26 rfl (lv_at hl 2 rfl) ?_
      refine zm_callS (As := [.int (nI (s_kd S j)), .int (nI v)]) (rest := []) hx hb hml hts hown hE hA hM hS (c_X6_goesAs l G A _ (s_kd S j) v ((hI.2.2.1 j hj).1) (hv)) cd_X6_goesAs ml_X6_55 rfl rfl hl.1 (Nat.le_of_ble_eq_true rfl) ⟨Nat.le_of_ble_eq_true rfl, Nat.le_of_ble_eq_true rfl⟩ ⟨Nat.le_of_ble_eq_true rfl, Nat.le_of_ble_eq_true rfl⟩ dX6_is_27 ?_
      rintro r M1 H locs ⟨rfl, e1⟩ hM hS
      rw [e1] at hM
      clear e1 M1
      refine W.eq (g2 := F0 m 30 ls [.int (bI (gA (s_kd S j) v))]) rfl ?_
      refine lv_if_eq (tgt := 37) hx hb dX6_is_30 (by decide) (fun c30 => ?_) (fun c30 => ?_)
      · rw [bI_0] at c30
        refine lv_iconst (v := 0) hx hb dX6_is_37 (by decide) ?_
        refine zm_iret hx hb hr hlk hM hS ?_ ⟨Nat.le_refl _, Nat.le_refl _⟩ dX6_is_38
        refine ⟨?_, rfl⟩
        unfold sp_is
        first | (rw [hix, hiv]; show some (Value.int _) = some (Value.int (bI (gA (s_kd S j) v))); rw [c30]; rfl) | (rw [hix, hiv]; done) | (rw [hix]; done)
      · rw [bI_n] at c30
        refine lv_iconst (v := 1) hx hb dX6_is_33 (by decide) ?_
        refine lv_goto (tgt := 38) hx hb dX6_is_34 (by decide) ?_
        refine zm_iret hx hb hr hlk hM hS ?_ ⟨Nat.le_refl _, Nat.le_refl _⟩ dX6_is_38
        refine ⟨?_, rfl⟩
        unfold sp_is
        first | (rw [hix, hiv]; show some (Value.int _) = some (Value.int (bI (gA (s_kd S j) v))); rw [c30]; rfl) | (rw [hix, hiv]; done) | (rw [hix]; done)
    · rw [bI_0] at c12
      have hiv := isS_f c12
      refine lv_bipush (v := (-2)) hx hb dX6_is_15 (by decide) ?_
      refine lv_goto (tgt := 38) hx hb dX6_is_17 (by decide) ?_
      refine zm_iret hx hb hr hlk hM hS ?_ ⟨Nat.le_refl _, Nat.le_refl _⟩ dX6_is_38
      refine ⟨?_, rfl⟩
      unfold sp_is
      first | (rw [hix, hiv]; show some (Value.int _) = some (Value.int (bI (gA (s_kd S j) v))); rw [c30]; rfl) | (rw [hix, hiv]; done) | (rw [hix]; done)
set_option maxRecDepth 100000 in
set_option maxHeartbeats 4000000 in
theorem c_X6_worth (l : Launch) (G : zm_G) (A : Nat → Prop) (q : Nat → Nat) (S : zS) (M : zm_M) (p0 x : Int32) (hI : zInv S) (hR : RepR G q S M) : Met l yX6_worth (zm_W yX6_worth cX6_worth 3 (some .long)) (zm_rm 3 0 0) (zm_Pc G [.ref (q 0), .int p0, .int x] A M) (zm_Q G (fun r M' => r = some (.long (sp_worth S p0 x)) ∧ M' = M) A) 0 0 A := by
  refine zm_start (by decide) (Nat.le_of_ble_eq_true rfl) ?_
  intro p e s m below meth c hx hb hml hr hts hown hlk hnm hE hA ls hl hM hS
  have hl : lv_has ls 3 [(0, .ref (q 0)), (1, .int p0), (2, .int x)] := hl
  obtain ⟨f, g, hZ, hAb⟩ := hR
  have hnp := hI.1
  have hncc := hI.2.1
  refine lv_aload_n hx hb dX6_worth_0 rfl (lv_at hl 0 rfl) ?_
  refine lv_iload_n hx hb dX6_worth_1 rfl (lv_at hl 1 rfl) ?_
  refine zm_callV (As := [.int p0]) (rest := []) hx hb hml hts hown hE hA hM hS hZ.2.1 rfl (c_X6_isProp l G A q S _ p0 hI ⟨f, g, hZ, hAb⟩) cd_X6_isProp ml_X6_63 rfl rfl hl.1 (Nat.le_of_ble_eq_true rfl) ⟨Nat.le_of_ble_eq_true rfl, Nat.le_of_ble_eq_true rfl⟩ ⟨Nat.le_of_ble_eq_true rfl, Nat.le_of_ble_eq_true rfl⟩ dX6_worth_2 ?_
  rintro r M1 H locs ⟨rfl, e1⟩ hM hS
  rw [e1] at hM
  clear e1 M1
  refine W.eq (g2 := F0 m 5 ls [.int (bI (ix (s_np S) p0).isSome)]) rfl ?_
  refine lv_if_eq (tgt := 37) hx hb dX6_worth_5 (by decide) (fun c5 => ?_) (fun c5 => ?_)
  · rw [bI_0] at c5
    have hix := isS_f c5
    refine lv_lconst (v := 0) hx hb dX6_worth_37 (by decide) ?_
    refine zm_lret hx hb hr hlk hM hS ?_ ⟨Nat.le_refl _, Nat.le_refl _⟩ dX6_worth_38
    refine ⟨?_, rfl⟩
    unfold sp_worth
    first | (rw [hix, hiv]; show some (Value.long _) = some (Value.long (if gA (s_kd S j) v = true then wOf S j v else 0)); first | (rw [if_pos c25]; done) | (rw [if_neg (by rw [c25]; decide)]; done)) | (rw [hix, hiv]; done) | (rw [hix]; done)
  · rw [bI_n] at c5
    obtain ⟨j, hix⟩ := isS_t c5
    obtain ⟨hj, rfl⟩ := ix_some (by omega) hix
    refine lv_iload_n hx hb dX6_worth_8 rfl (lv_at hl 2 rfl) ?_
    refine zm_callS (As := [.int x]) (rest := []) hx hb hml hts hown hE hA hM hS (c_X6_isView l G A _ x) cd_X6_isView ml_X6_77 rfl rfl hl.1 (Nat.le_of_ble_eq_true rfl) ⟨Nat.le_of_ble_eq_true rfl, Nat.le_of_ble_eq_true rfl⟩ ⟨Nat.le_of_ble_eq_true rfl, Nat.le_of_ble_eq_true rfl⟩ dX6_worth_9 ?_
    rintro r M1 H locs ⟨rfl, e1⟩ hM hS
    rw [e1] at hM
    clear e1 M1
    refine W.eq (g2 := F0 m 12 ls [.int (bI ((ix 17 x).isSome))]) rfl ?_
    refine lv_if_eq (tgt := 37) hx hb dX6_worth_12 (by decide) (fun c12 => ?_) (fun c12 => ?_)
    · rw [bI_0] at c12
      have hiv := isS_f c12
      refine lv_lconst (v := 0) hx hb dX6_worth_37 (by decide) ?_
      refine zm_lret hx hb hr hlk hM hS ?_ ⟨Nat.le_refl _, Nat.le_refl _⟩ dX6_worth_38
      refine ⟨?_, rfl⟩
      unfold sp_worth
      first | (rw [hix, hiv]; show some (Value.long _) = some (Value.long (if gA (s_kd S j) v = true then wOf S j v else 0)); first | (rw [if_pos c25]; done) | (rw [if_neg (by rw [c25]; decide)]; done)) | (rw [hix, hiv]; done) | (rw [hix]; done)
    · rw [bI_n] at c12
      obtain ⟨v, hiv⟩ := isS_t c12
      obtain ⟨hv, rfl⟩ := ix_some (by omega) hiv
      refine lv_aload_n hx hb dX6_worth_15 rfl (lv_at hl 0 rfl) ?_
      refine zm_get hx hb hts hown hE hM hZ.2.1 fl_X6_7_5 rfl dX6_worth_16 ?_
      refine lv_iload_n hx hb dX6_worth_19 rfl (lv_at hl 1 rfl) ?_
      refine zm_iald hx hb hE hM (hZ.ar 1) (vp_in_nI (show j < 50 by omega) (by decide)) dX6_worth_20 ?_
      refine zt_eq (v' := .int (nI (s_kd S j))) (by rw [nI_clamp (by omega)]; exact congrArg Value.int ((hAb.1 j hj).1)) ?_
      refine lv_iload_n hx hb dX6_worth_21 rfl (lv_at hl 2 rfl) ?_
      refine zm_callS (As := [.int (nI (s_kd S j)), .int (nI v)]) (rest := []) hx hb hml hts hown hE hA hM hS (c_X6_goesAs l G A _ (s_kd S j) v ((hI.2.2.1 j hj).1) (hv)) cd_X6_goesAs ml_X6_55 rfl rfl hl.1 (Nat.le_of_ble_eq_true rfl) ⟨Nat.le_of_ble_eq_true rfl, Nat.le_of_ble_eq_true rfl⟩ ⟨Nat.le_of_ble_eq_true rfl, Nat.le_of_ble_eq_true rfl⟩ dX6_worth_22 ?_
      rintro r M1 H locs ⟨rfl, e1⟩ hM hS
      rw [e1] at hM
      clear e1 M1
      refine W.eq (g2 := F0 m 25 ls [.int (bI (gA (s_kd S j) v))]) rfl ?_
      refine lv_if_eq (tgt := 37) hx hb dX6_worth_25 (by decide) (fun c25 => ?_) (fun c25 => ?_)
      · rw [bI_0] at c25
        refine lv_lconst (v := 0) hx hb dX6_worth_37 (by decide) ?_
        refine zm_lret hx hb hr hlk hM hS ?_ ⟨Nat.le_refl _, Nat.le_refl _⟩ dX6_worth_38
        refine ⟨?_, rfl⟩
        unfold sp_worth
        first | (rw [hix, hiv]; show some (Value.long _) = some (Value.long (if gA (s_kd S j) v = true then wOf S j v else 0)); first | (rw [if_pos c25]; done) | (rw [if_neg (by rw [c25]; decide)]; done)) | (rw [hix, hiv]; done) | (rw [hix]; done)
      · rw [bI_n] at c25
        refine lv_aload_n hx hb dX6_worth_28 rfl (lv_at hl 0 rfl) ?_
        refine lv_iload_n hx hb dX6_worth_29 rfl (lv_at hl 1 rfl) ?_
        refine lv_iload_n hx hb dX6_worth_30 rfl (lv_at hl 2 rfl) ?_
        refine zm_callV (As := [.int (nI j), .int (nI v)]) (rest := []) hx hb hml hts hown hE hA hM hS hZ.2.1 rfl (c_X6_worthOf l G A q S _ j hj v hv c25 hI ⟨f, g, hZ, hAb⟩) cd_X6_worthOf ml_X6_117 rfl rfl hl.1 (Nat.le_of_ble_eq_true rfl) ⟨Nat.le_of_ble_eq_true rfl, Nat.le_of_ble_eq_true rfl⟩ ⟨Nat.le_of_ble_eq_true rfl, Nat.le_of_ble_eq_true rfl⟩ dX6_worth_31 ?_
        rintro r M1 H locs ⟨rfl, e1⟩ hM hS
        rw [e1] at hM
        clear e1 M1
        refine W.eq (g2 := F0 m 34 ls [.long (wOf S j v)]) rfl ?_
        refine lv_goto (tgt := 38) hx hb dX6_worth_34 (by decide) ?_
        refine zm_lret hx hb hr hlk hM hS ?_ ⟨Nat.le_refl _, Nat.le_refl _⟩ dX6_worth_38
        refine ⟨?_, rfl⟩
        unfold sp_worth
        first | (rw [hix, hiv]; show some (Value.long _) = some (Value.long (if gA (s_kd S j) v = true then wOf S j v else 0)); first | (rw [if_pos c25]; done) | (rw [if_neg (by rw [c25]; decide)]; done)) | (rw [hix, hiv]; done) | (rw [hix]; done)
set_option maxRecDepth 100000 in
set_option maxHeartbeats 4000000 in
theorem c_X6_wear (l : Launch) (G : zm_G) (A : Nat → Prop) (q : Nat → Nat) (S : zS) (M : zm_M) (p0 : Int32) (hI : zInv S) (hR : RepR G q S M) : Met l yX6_wear (zm_W yX6_wear cX6_wear 2 (some .int)) (zm_rm 2 0 0) (zm_Pc G [.ref (q 0), .int p0] A M) (zm_Q G (fun r M' => r = some (.int (sp_wear S p0)) ∧ M' = M) A) 0 0 A := by
  refine zm_start (by decide) (Nat.le_of_ble_eq_true rfl) ?_
  intro p e s m below meth c hx hb hml hr hts hown hlk hnm hE hA ls hl hM hS
  have hl : lv_has ls 2 [(0, .ref (q 0)), (1, .int p0)] := hl
  obtain ⟨f, g, hZ, hAb⟩ := hR
  have hnp := hI.1
  have hncc := hI.2.1
  refine lv_aload_n hx hb dX6_wear_0 rfl (lv_at hl 0 rfl) ?_
  refine lv_iload_n hx hb dX6_wear_1 rfl (lv_at hl 1 rfl) ?_
  refine zm_callV (As := [.int p0]) (rest := []) hx hb hml hts hown hE hA hM hS hZ.2.1 rfl (c_X6_isProp l G A q S _ p0 hI ⟨f, g, hZ, hAb⟩) cd_X6_isProp ml_X6_63 rfl rfl hl.1 (Nat.le_of_ble_eq_true rfl) ⟨Nat.le_of_ble_eq_true rfl, Nat.le_of_ble_eq_true rfl⟩ ⟨Nat.le_of_ble_eq_true rfl, Nat.le_of_ble_eq_true rfl⟩ dX6_wear_2 ?_
  rintro r M1 H locs ⟨rfl, e1⟩ hM hS
  rw [e1] at hM
  clear e1 M1
  refine W.eq (g2 := F0 m 5 ls [.int (bI (ix (s_np S) p0).isSome)]) rfl ?_
  refine lv_if_ne (tgt := 13) hx hb dX6_wear_5 (by decide) (fun c5 => ?_) (fun c5 => ?_)
  · rw [bI_n] at c5
    obtain ⟨j, hix⟩ := isS_t c5
    obtain ⟨hj, rfl⟩ := ix_some (by omega) hix
    refine lv_aload_n hx hb dX6_wear_13 rfl (lv_at hl 0 rfl) ?_
    refine zm_get hx hb hts hown hE hM hZ.2.1 fl_X6_7_5 rfl dX6_wear_14 ?_
    refine lv_iload_n hx hb dX6_wear_17 rfl (lv_at hl 1 rfl) ?_
    refine zm_iald hx hb hE hM (hZ.ar 1) (vp_in_nI (show j < 50 by omega) (by decide)) dX6_wear_18 ?_
    refine zt_eq (v' := .int (nI (s_kd S j))) (by rw [nI_clamp (by omega)]; exact congrArg Value.int ((hAb.1 j hj).1)) ?_
    refine lv_iconst (v := 4) hx hb dX6_wear_19 (by decide) ?_
    refine lv_bipush (v := 6) hx hb dX6_wear_20 (by decide) ?_
    refine zm_callS (As := [.int (nI (s_kd S j)), .int 4, .int 6]) (rest := []) hx hb hml hts hown hE hA hM hS (c_X6_isIn l G A _ (nI (s_kd S j)) 4 6) cd_X6_isIn ml_X6_51 rfl rfl hl.1 (Nat.le_of_ble_eq_true rfl) ⟨Nat.le_of_ble_eq_true rfl, Nat.le_of_ble_eq_true rfl⟩ ⟨Nat.le_of_ble_eq_true rfl, Nat.le_of_ble_eq_true rfl⟩ dX6_wear_22 ?_
    rintro r M1 H locs ⟨rfl, e1⟩ hM hS
    rw [e1] at hM
    clear e1 M1
    refine W.eq (g2 := F0 m 25 ls [.int (bI (zbt 4 6 (nI (s_kd S j))))]) rfl ?_
    refine lv_if_eq (tgt := 37) hx hb dX6_wear_25 (by decide) (fun c25 => ?_) (fun c25 => ?_)
    · have h16 := (hI.2.2.1 j hj).1
      rw [show zbt 4 6 (nI (s_kd S j)) = (decide (4 ≤ s_kd S j) && decide (s_kd S j ≤ 6)) from zbt_n (a := 4) (b := 6) (by decide) (by decide) (by omega), bI_0] at c25
      have hk : ¬ (4 ≤ s_kd S j ∧ s_kd S j ≤ 6) := by simpa using c25
      refine lv_bipush (v := (-5)) hx hb dX6_wear_37 (by decide) ?_
      refine zm_iret hx hb hr hlk hM hS ?_ ⟨Nat.le_refl _, Nat.le_refl _⟩ dX6_wear_39
      refine ⟨?_, rfl⟩
      unfold sp_wear
      first | (rw [hix]; show some (Value.int _) = some (Value.int (if 4 ≤ s_kd S j ∧ s_kd S j ≤ 6 then s_wr S j else -5)); first | (rw [if_pos hk]; done) | (rw [if_neg hk]; done)) | (rw [hix]; done)
    · have h16 := (hI.2.2.1 j hj).1
      rw [show zbt 4 6 (nI (s_kd S j)) = (decide (4 ≤ s_kd S j) && decide (s_kd S j ≤ 6)) from zbt_n (a := 4) (b := 6) (by decide) (by decide) (by omega), bI_n] at c25
      have hk : 4 ≤ s_kd S j ∧ s_kd S j ≤ 6 := by simpa using c25
      refine lv_aload_n hx hb dX6_wear_28 rfl (lv_at hl 0 rfl) ?_
      refine zm_get hx hb hts hown hE hM hZ.2.1 fl_X6_16_5 rfl dX6_wear_29 ?_
      refine lv_iload_n hx hb dX6_wear_32 rfl (lv_at hl 1 rfl) ?_
      refine zm_iald hx hb hE hM (hZ.ar 3) (vp_in_nI (show j < 50 by omega) (by decide)) dX6_wear_33 ?_
      refine zt_eq (v' := .int (s_wr S j)) (by rw [nI_clamp (by omega)]; exact congrArg Value.int ((hAb.1 j hj).2.2)) ?_
      refine lv_goto (tgt := 39) hx hb dX6_wear_34 (by decide) ?_
      refine zm_iret hx hb hr hlk hM hS ?_ ⟨Nat.le_refl _, Nat.le_refl _⟩ dX6_wear_39
      refine ⟨?_, rfl⟩
      unfold sp_wear
      first | (rw [hix]; show some (Value.int _) = some (Value.int (if 4 ≤ s_kd S j ∧ s_kd S j ≤ 6 then s_wr S j else -5)); first | (rw [if_pos hk]; done) | (rw [if_neg hk]; done)) | (rw [hix]; done)
  · rw [bI_0] at c5
    have hix := isS_f c5
    refine lv_bipush (v := (-2)) hx hb dX6_wear_8 (by decide) ?_
    refine lv_goto (tgt := 39) hx hb dX6_wear_10 (by decide) ?_
    refine zm_iret hx hb hr hlk hM hS ?_ ⟨Nat.le_refl _, Nat.le_refl _⟩ dX6_wear_39
    refine ⟨?_, rfl⟩
    unfold sp_wear
    first | (rw [hix]; show some (Value.int _) = some (Value.int (if 4 ≤ s_kd S j ∧ s_kd S j ≤ 6 then s_wr S j else -5)); first | (rw [if_pos hk]; done) | (rw [if_neg hk]; done)) | (rw [hix]; done)
set_option maxRecDepth 100000 in
set_option maxHeartbeats 4000000 in
theorem c_X6_at (l : Launch) (G : zm_G) (A : Nat → Prop) (q : Nat → Nat) (S : zS) (M : zm_M) (p0 i : Int32) (hI : zInv S) (hR : RepR G q S M) : Met l yX6_at (zm_W yX6_at cX6_at 3 (some .int)) (zm_rm 2 0 0) (zm_Pc G [.ref (q 0), .int p0, .int i] A M) (zm_Q G (fun r M' => r = some (.int (sp_at S p0 i)) ∧ M' = M) A) 0 0 A := by
  refine zm_start (by decide) (Nat.le_of_ble_eq_true rfl) ?_
  intro p e s m below meth c hx hb hml hr hts hown hlk hnm hE hA ls hl hM hS
  have hl : lv_has ls 3 [(0, .ref (q 0)), (1, .int p0), (2, .int i)] := hl
  obtain ⟨f, g, hZ, hAb⟩ := hR
  have hnp := hI.1
  have hncc := hI.2.1
  refine lv_aload_n hx hb dX6_at_0 rfl (lv_at hl 0 rfl) ?_
  refine lv_iload_n hx hb dX6_at_1 rfl (lv_at hl 1 rfl) ?_
  refine zm_callV (As := [.int p0]) (rest := []) hx hb hml hts hown hE hA hM hS hZ.2.1 rfl (c_X6_isProp l G A q S _ p0 hI ⟨f, g, hZ, hAb⟩) cd_X6_isProp ml_X6_63 rfl rfl hl.1 (Nat.le_of_ble_eq_true rfl) ⟨Nat.le_of_ble_eq_true rfl, Nat.le_of_ble_eq_true rfl⟩ ⟨Nat.le_of_ble_eq_true rfl, Nat.le_of_ble_eq_true rfl⟩ dX6_at_2 ?_
  rintro r M1 H locs ⟨rfl, e1⟩ hM hS
  rw [e1] at hM
  clear e1 M1
  refine W.eq (g2 := F0 m 5 ls [.int (bI (ix (s_np S) p0).isSome)]) rfl ?_
  refine lv_if_ne (tgt := 11) hx hb dX6_at_5 (by decide) (fun c5 => ?_) (fun c5 => ?_)
  · rw [bI_n] at c5
    obtain ⟨j, hix⟩ := isS_t c5
    obtain ⟨hj, rfl⟩ := ix_some (by omega) hix
    refine lv_aload_n hx hb dX6_at_11 rfl (lv_at hl 0 rfl) ?_
    refine zm_get hx hb hts hown hE hM hZ.2.1 fl_X6_7_5 rfl dX6_at_12 ?_
    refine lv_iload_n hx hb dX6_at_15 rfl (lv_at hl 1 rfl) ?_
    refine zm_iald hx hb hE hM (hZ.ar 1) (vp_in_nI (show j < 50 by omega) (by decide)) dX6_at_16 ?_
    refine zt_eq (v' := .int (nI (s_kd S j))) (by rw [nI_clamp (by omega)]; exact congrArg Value.int ((hAb.1 j hj).1)) ?_
    refine zm_callS (As := [.int (nI (s_kd S j))]) (rest := []) hx hb hml hts hown hE hA hM hS (c_X6_isRow l G A _ (nI (s_kd S j))) cd_X6_isRow ml_X6_74 rfl rfl hl.1 (Nat.le_of_ble_eq_true rfl) ⟨Nat.le_of_ble_eq_true rfl, Nat.le_of_ble_eq_true rfl⟩ ⟨Nat.le_of_ble_eq_true rfl, Nat.le_of_ble_eq_true rfl⟩ dX6_at_17 ?_
    rintro r M1 H locs ⟨rfl, e1⟩ hM hS
    rw [e1] at hM
    clear e1 M1
    refine W.eq (g2 := F0 m 20 ls [.int (bI (zbt 8 15 (nI (s_kd S j))))]) rfl ?_
    refine lv_if_ne (tgt := 26) hx hb dX6_at_20 (by decide) (fun c20 => ?_) (fun c20 => ?_)
    · have h16 := (hI.2.2.1 j hj).1
      rw [zbt_rw _ (by omega), bI_n] at c20
      have h5 := hI.sz5 hj (rw_pc c20)
      refine lv_iload_n hx hb dX6_at_26 rfl (lv_at hl 2 rfl) ?_
      refine lv_iconst (v := 0) hx hb dX6_at_27 (by decide) ?_
      refine lv_aload_n hx hb dX6_at_28 rfl (lv_at hl 0 rfl) ?_
      refine zm_get hx hb hts hown hE hM hZ.2.1 fl_X6_13_5 rfl dX6_at_29 ?_
      refine lv_iload_n hx hb dX6_at_32 rfl (lv_at hl 1 rfl) ?_
      refine zm_iald hx hb hE hM (hZ.ar 2) (vp_in_nI (show j < 50 by omega) (by decide)) dX6_at_33 ?_
      refine zt_eq (v' := .int (nI (s_sz S j))) (by rw [nI_clamp (by omega)]; exact congrArg Value.int ((hAb.1 j hj).2.1)) ?_
      refine lv_iconst (v := 1) hx hb dX6_at_34 (by decide) ?_
      refine lv_isub hx hb dX6_at_35 ?_
      refine zm_callS (As := [.int i, .int 0, .int ((nI (s_sz S j)) - 1)]) (rest := []) hx hb hml hts hown hE hA hM hS (c_X6_isIn l G A _ i 0 ((nI (s_sz S j)) - 1)) cd_X6_isIn ml_X6_51 rfl rfl hl.1 (Nat.le_of_ble_eq_true rfl) ⟨Nat.le_of_ble_eq_true rfl, Nat.le_of_ble_eq_true rfl⟩ ⟨Nat.le_of_ble_eq_true rfl, Nat.le_of_ble_eq_true rfl⟩ dX6_at_36 ?_
      rintro r M1 H locs ⟨rfl, e1⟩ hM hS
      rw [e1] at hM
      clear e1 M1
      refine W.eq (g2 := F0 m 39 ls [.int (bI (zbt 0 ((nI (s_sz S j)) - 1) i))]) rfl ?_
      refine lv_if_eq (tgt := 55) hx hb dX6_at_39 (by decide) (fun c39 => ?_) (fun c39 => ?_)
      · rw [zbt_np (by omega), bI_0] at c39
        have hii := isS_f c39
        refine lv_bipush (v := (-6)) hx hb dX6_at_55 (by decide) ?_
        refine zm_iret hx hb hr hlk hM hS ?_ ⟨Nat.le_refl _, Nat.le_refl _⟩ dX6_at_57
        refine ⟨?_, rfl⟩
        unfold sp_at
        rw [hix]
        simp only [if_pos c20]
        rw [hii]
      · rw [zbt_np (by omega), bI_n] at c39
        obtain ⟨ii, hii⟩ := isS_t c39
        obtain ⟨hi, rfl⟩ := ix_some (by omega) hii
        refine lv_aload_n hx hb dX6_at_42 rfl (lv_at hl 0 rfl) ?_
        refine zm_get hx hb hts hown hE hM hZ.2.1 fl_X6_23_5 rfl dX6_at_43 ?_
        refine lv_iconst (v := 5) hx hb dX6_at_46 (by decide) ?_
        refine lv_iload_n hx hb dX6_at_47 rfl (lv_at hl 1 rfl) ?_
        refine lv_imul hx hb dX6_at_48 ?_
        refine lv_iload_n hx hb dX6_at_49 rfl (lv_at hl 2 rfl) ?_
        refine lv_iadd hx hb dX6_at_50 ?_
        refine zt_eq (v' := .int (nI (5 * j + ii))) (congrArg Value.int (idx5 j ii)) ?_
        refine zm_iald hx hb hE hM (hZ.ar 5) (vp_in_nI (show 5 * j + ii < 250 by omega) (by decide)) dX6_at_51 ?_
        refine zt_eq (v' := .int (oI (s_th S j ii))) (by rw [nI_clamp (by omega)]; exact congrArg Value.int (hAb.2.2.1 j ii hj (by omega))) ?_
        refine lv_goto (tgt := 57) hx hb dX6_at_52 (by decide) ?_
        refine zm_iret hx hb hr hlk hM hS ?_ ⟨Nat.le_refl _, Nat.le_refl _⟩ dX6_at_57
        refine ⟨?_, rfl⟩
        unfold sp_at
        rw [hix]
        simp only [if_pos c20]
        rw [hii]
    · have h16 := (hI.2.2.1 j hj).1
      rw [zbt_rw _ (by omega), bI_0] at c20
      refine lv_bipush (v := (-5)) hx hb dX6_at_23 (by decide) ?_
      refine zm_iret hx hb hr hlk hM hS ?_ ⟨Nat.le_refl _, Nat.le_refl _⟩ dX6_at_25
      refine ⟨?_, rfl⟩
      unfold sp_at
      rw [hix]
      simp only [c20, Bool.false_eq_true, if_false]
  · rw [bI_0] at c5
    have hix := isS_f c5
    refine lv_bipush (v := (-2)) hx hb dX6_at_8 (by decide) ?_
    refine zm_iret hx hb hr hlk hM hS ?_ ⟨Nat.le_refl _, Nat.le_refl _⟩ dX6_at_10
    refine ⟨?_, rfl⟩
    unfold sp_at
    rw [hix]
end
section
set_option maxRecDepth 100000 in
set_option maxHeartbeats 4000000 in
theorem c_X6_wearRow (l : Launch) (G : zm_G) (A : Nat → Prop) (q : Nat → Nat) (S : zS) (M : zm_M) (j : Nat) (hj : j < s_np S) (hk8 : 8 ≤ s_kd S j) (hI : zInv S) (hR : RepR G q S M) : Met l yX6_wearRow (zm_W yX6_wearRow cX6_wearRow 4 none) (zm_rm 0 0 0) (zm_Pc G [.ref (q 0), .int (nI j)] A M) (zm_Q G (fun r M' => r = none ∧ RepR G q (w_wr S (wrR S j (s_wr S) (s_sz S j))) M') A) 0 0 A := by
  refine zm_start (by decide) (Nat.le_of_ble_eq_true rfl) ?_
  intro p e s m below meth c hx hb hml hr hts hown hlk hnm hE hA ls hl hM hS
  have hl : lv_has ls 4 [(0, .ref (q 0)), (1, .int (nI j))] := hl
  obtain ⟨f, g, hZ, hAb⟩ := hR
  have hnp := hI.1
  have hncc := hI.2.1
  have hrw := rw_of hk8 (by have := (hI.2.2.1 j hj).1; omega)
  have hm := hI.sz5 hj (rw_pc hrw)
  refine lv_iconst (v := 0) hx hb dX6_wearRow_0 (by decide) ?_
  refine lv_istore_n (lv' := [(2, .int 0), (0, .ref (q 0)), (1, .int (nI j))]) hx hb dX6_wearRow_1 rfl hl (by decide) rfl (fun ls hl => ?_)
  have loop : ∀ (n k : Nat), k ≤ s_sz S j → s_sz S j + 1 ≤ k + n → ∀ (ls : Array Slot) (M : zm_M) (H : Heap) (locs : List Loc), RepR G q (w_wr S (wrR S j (s_wr S) k)) M → zm_P G A M H → va_S A s.heap H locs → lv_has ls 4 [(2, .int (nI k)), (0, .ref (q 0)), (1, .int (nI j))] → W p l e (zm_rm 0 0 0) s m [.ref (q 0), .int (nI j)].toArray below meth c H locs 0 0 (MQ below (zm_Q G (fun r M' => r = none ∧ RepR G q (w_wr S (wrR S j (s_wr S) (s_sz S j))) M') A) [.ref (q 0), .int (nI j)].toArray s 0 0 A) (F0 m 2 ls []) := by
    intro n
    induction n with
    | zero => intro k h1 h2; exact absurd h2 (by omega)
    | succ n ih =>
      intro k hk1 hk2 ls M H locs hRk hM hS hl
      obtain ⟨f, g, hZ, hAb⟩ := hRk
      refine lv_iload_n hx hb dX6_wearRow_2 rfl (lv_at hl 0 rfl) ?_
      refine lv_aload_n hx hb dX6_wearRow_3 rfl (lv_at hl 1 rfl) ?_
      refine zm_get hx hb hts hown hE hM hZ.2.1 fl_X6_13_5 rfl dX6_wearRow_4 ?_
      refine lv_iload_n hx hb dX6_wearRow_7 rfl (lv_at hl 2 rfl) ?_
      refine zm_iald hx hb hE hM (hZ.ar 2) (vp_in_nI (show j < 50 by omega) (by decide)) dX6_wearRow_8 ?_
      refine zt_eq (v' := .int (nI (s_sz S j))) (by rw [nI_clamp (by omega)]; exact congrArg Value.int ((hAb.1 j hj).2.1)) ?_
      refine lv_icmp_ge (tgt := 44) hx hb dX6_wearRow_9 (by decide) (fun c9 => ?_) (fun c9 => ?_)
      · have hkk : k = s_sz S j := by have := (nI_leI (by omega) (by omega)).mp c9; omega
        refine zm_vret hx hb hr hlk hM hS ?_ ⟨Nat.le_refl _, Nat.le_refl _⟩ dX6_wearRow_44
        exact ⟨rfl, by rw [← hkk]; exact ⟨f, g, hZ, hAb⟩⟩
      · have hkk : k < s_sz S j := by rw [nI_leI (by omega) (by omega)] at c9; omega
        refine lv_aload_n hx hb dX6_wearRow_12 rfl (lv_at hl 1 rfl) ?_
        refine zm_get hx hb hts hown hE hM hZ.2.1 fl_X6_23_5 rfl dX6_wearRow_13 ?_
        refine lv_iconst (v := 5) hx hb dX6_wearRow_16 (by decide) ?_
        refine lv_iload_n hx hb dX6_wearRow_17 rfl (lv_at hl 2 rfl) ?_
        refine lv_imul hx hb dX6_wearRow_18 ?_
        refine lv_iload_n hx hb dX6_wearRow_19 rfl (lv_at hl 0 rfl) ?_
        refine lv_iadd hx hb dX6_wearRow_20 ?_
        refine zt_eq (v' := .int (nI (5 * j + k))) (congrArg Value.int (idx5 j k)) ?_
        refine zm_iald hx hb hE hM (hZ.ar 5) (vp_in_nI (show 5 * j + k < 250 by omega) (by decide)) dX6_wearRow_21 ?_
        refine zt_eq (v' := .int (oI (s_th S j k))) (by rw [nI_clamp (by omega)]; exact congrArg Value.int (hAb.2.2.1 j k hj (by omega))) ?_
        refine lv_istore_n (lv' := [(3, .int (oI (s_th S j k))), (2, .int (nI k)), (0, .ref (q 0)), (1, .int (nI j))]) hx hb dX6_wearRow_22 rfl hl (by decide) rfl (fun ls hl => ?_)
        refine lv_iload_n hx hb dX6_wearRow_23 rfl (lv_at hl 0 rfl) ?_
        refine lv_iconst (v := (-1)) hx hb dX6_wearRow_24 (by decide) ?_
        refine lv_icmp_eq (tgt := 38) hx hb dX6_wearRow_25 (by decide) (fun c25 => ?_) (fun c25 => ?_)
        · have hth : s_th S j k = none := (oI_m1 (fun t ht => by have := (hI.2.2.2.1 j hj (by omega) k t hkk ht).1; omega)).mp c25
          have hRn : RepR G q (w_wr S (wrR S j (s_wr S) (k + 1))) M := by show RepR G q (w_wr S (wInc (wrR S j (s_wr S) k) (s_th S j k))) M; rw [hth]; exact ⟨f, g, hZ, hAb⟩
          refine lv_iinc (v := nI (k + 1)) (lv' := [(2, .int (nI (k + 1))), (3, .int (oI (s_th S j k))), (0, .ref (q 0)), (1, .int (nI j))]) hx hb dX6_wearRow_38 hl (k := 1) rfl (nI_1 k) (by decide) rfl (fun ls hl => ?_)
          refine lv_goto (tgt := 2) hx hb dX6_wearRow_41 (by decide) ?_
          exact ih (k + 1) (by omega) (by omega) ls _ _ _ hRn hM hS (lv_sub hl [0, 2, 3] rfl)
        · obtain ⟨t, hth⟩ := oI_some c25
          rw [hth] at hl
          have hl : lv_has ls 4 [(3, .int (nI t)), (2, .int (nI k)), (0, .ref (q 0)), (1, .int (nI j))] := hl
          obtain ⟨htn, hga⟩ := hI.2.2.2.1 j hj (by omega) k t hkk hth
          refine lv_aload_n hx hb dX6_wearRow_28 rfl (lv_at hl 2 rfl) ?_
          refine zm_get hx hb hts hown hE hM hZ.2.1 fl_X6_16_5 rfl dX6_wearRow_29 ?_
          refine lv_iload_n hx hb dX6_wearRow_32 rfl (lv_at hl 0 rfl) ?_
          refine lv_dup2_11 hx hb dX6_wearRow_33 rfl rfl ?_
          refine zm_iald hx hb hE hM (hZ.ar 3) (vp_in_nI (show t < 50 by omega) (by decide)) dX6_wearRow_34 ?_
          refine zt_eq (v' := .int ((wrR S j (s_wr S) k) t)) (by rw [nI_clamp (by omega)]; exact congrArg Value.int (hAb.1 t htn).2.2) ?_
          refine lv_iconst (v := 1) hx hb dX6_wearRow_35 (by decide) ?_
          refine lv_iadd hx hb dX6_wearRow_36 ?_
          refine zm_iast hx hb hE hM hS (hZ.ar 3) (vp_in_nI (show t < 50 by omega) (by decide)) dX6_wearRow_37 (fun H locs hM hS => ?_)
          rw [nI_clamp (by omega)] at hM
          have hRn : RepR G q (w_wr S (upd (wrR S j (s_wr S) k) t ((wrR S j (s_wr S) k) t + 1))) _ := ⟨_, _, hZ.arr 3 (upd (f 3) t ((wrR S j (s_wr S) k) t + 1)), abs_wr hAb t ((wrR S j (s_wr S) k) t + 1)⟩
          have e3 : wrR S j (s_wr S) (k + 1) = upd (wrR S j (s_wr S) k) t ((wrR S j (s_wr S) k) t + 1) := by show wInc (wrR S j (s_wr S) k) (s_th S j k) = _; rw [hth]; rfl
          rw [← e3] at hRn
          refine lv_iinc (v := nI (k + 1)) (lv' := [(2, .int (nI (k + 1))), (3, .int (nI t)), (0, .ref (q 0)), (1, .int (nI j))]) hx hb dX6_wearRow_38 hl (k := 1) rfl (nI_1 k) (by decide) rfl (fun ls hl => ?_)
          refine lv_goto (tgt := 2) hx hb dX6_wearRow_41 (by decide) ?_
          exact ih (k + 1) (by omega) (by omega) ls _ _ _ hRn hM hS (lv_sub hl [0, 2, 3] rfl)
  exact loop (s_sz S j + 1) 0 (Nat.zero_le _) (by omega) ls _ _ _ ⟨f, g, hZ, hAb⟩ hM hS (lv_sub hl [0, 1, 2] rfl)
set_option maxRecDepth 100000 in
set_option maxHeartbeats 4000000 in
theorem c_X6_wearAll (l : Launch) (G : zm_G) (A : Nat → Prop) (q : Nat → Nat) (S : zS) (M : zm_M) (j : Nat) (hj : j < s_np S) (hk4 : 4 ≤ s_kd S j) (hI : zInv S) (hR : RepR G q S M) : Met l yX6_wearAll (zm_W yX6_wearAll cX6_wearAll 4 none) (zm_rm 2 0 0) (zm_Pc G [.ref (q 0), .int (nI j)] A M) (zm_Q G (fun r M' => r = none ∧ RepR G q (w_wr S (wAll S j)) M') A) 0 0 A := by
  refine zm_start (by decide) (Nat.le_of_ble_eq_true rfl) ?_
  intro p e s m below meth c hx hb hml hr hts hown hlk hnm hE hA ls hl hM hS
  have hl : lv_has ls 4 [(0, .ref (q 0)), (1, .int (nI j))] := hl
  obtain ⟨f, g, hZ, hAb⟩ := hR
  have hnp := hI.1
  have hncc := hI.2.1
  have h16 := (hI.2.2.1 j hj).1
  refine lv_aload_n hx hb dX6_wearAll_0 rfl (lv_at hl 0 rfl) ?_
  refine zm_get hx hb hts hown hE hM hZ.2.1 fl_X6_7_5 rfl dX6_wearAll_1 ?_
  refine lv_iload_n hx hb dX6_wearAll_4 rfl (lv_at hl 1 rfl) ?_
  refine zm_iald hx hb hE hM (hZ.ar 1) (vp_in_nI (show j < 50 by omega) (by decide)) dX6_wearAll_5 ?_
  refine zt_eq (v' := .int (nI (s_kd S j))) (by rw [nI_clamp (by omega)]; exact congrArg Value.int ((hAb.1 j hj).1)) ?_
  refine zm_callS (As := [.int (nI (s_kd S j))]) (rest := []) hx hb hml hts hown hE hA hM hS (c_X6_isSingle l G A _ (nI (s_kd S j))) cd_X6_isSingle ml_X6_59 rfl rfl hl.1 (Nat.le_of_ble_eq_true rfl) ⟨Nat.le_of_ble_eq_true rfl, Nat.le_of_ble_eq_true rfl⟩ ⟨Nat.le_of_ble_eq_true rfl, Nat.le_of_ble_eq_true rfl⟩ dX6_wearAll_6 ?_
  rintro r M1 H locs ⟨rfl, e1⟩ hM hS
  rw [e1] at hM
  clear e1 M1
  refine W.eq (g2 := F0 m 9 ls [.int (bI (zbt 4 7 (nI (s_kd S j))))]) rfl ?_
  refine lv_if_eq (tgt := 25) hx hb dX6_wearAll_9 (by decide) (fun c9 => ?_) (fun c9 => ?_)
  · rw [zbt_pc _ h16, bI_0] at c9
    refine lv_aload_n hx hb dX6_wearAll_25 rfl (lv_at hl 0 rfl) ?_
    refine zm_get hx hb hts hown hE hM hZ.2.1 fl_X6_7_5 rfl dX6_wearAll_26 ?_
    refine lv_iload_n hx hb dX6_wearAll_29 rfl (lv_at hl 1 rfl) ?_
    refine zm_iald hx hb hE hM (hZ.ar 1) (vp_in_nI (show j < 50 by omega) (by decide)) dX6_wearAll_30 ?_
    refine zt_eq (v' := .int (nI (s_kd S j))) (by rw [nI_clamp (by omega)]; exact congrArg Value.int ((hAb.1 j hj).1)) ?_
    refine lv_bipush (v := 13) hx hb dX6_wearAll_31 (by decide) ?_
    refine lv_icmp_ge (tgt := 44) hx hb dX6_wearAll_33 (by decide) (fun c33 => ?_) (fun c33 => ?_)
    · rw [show (13 : Int32) = nI 13 from rfl, nI_leI (by omega) (by omega)] at c33
      have h13 : 13 ≤ s_kd S j := c33
      have hm := hI.sz5 hj c9
      refine lv_iconst (v := 0) hx hb dX6_wearAll_44 (by decide) ?_
      refine lv_istore_n (lv' := [(2, .int 0), (0, .ref (q 0)), (1, .int (nI j))]) hx hb dX6_wearAll_45 rfl hl (by decide) rfl (fun ls hl => ?_)
      have loop : ∀ (n k : Nat), k ≤ s_sz S j → s_sz S j + 1 ≤ k + n → ∀ (ls : Array Slot) (M : zm_M) (H : Heap) (locs : List Loc), RepR G q (w_wr S (wrS S j (s_wr S) k)) M → zm_P G A M H → va_S A s.heap H locs → lv_has ls 4 [(2, .int (nI k)), (0, .ref (q 0)), (1, .int (nI j))] → W p l e (zm_rm 2 0 0) s m [.ref (q 0), .int (nI j)].toArray below meth c H locs 0 0 (MQ below (zm_Q G (fun r M' => r = none ∧ RepR G q (w_wr S (wAll S j)) M') A) [.ref (q 0), .int (nI j)].toArray s 0 0 A) (F0 m 46 ls []) := by
        intro n
        induction n with
        | zero => intro k h1 h2; exact absurd h2 (by omega)
        | succ n ih =>
          intro k hk1 hk2 ls M H locs hRk hM hS hl
          obtain ⟨f, g, hZ, hAb⟩ := hRk
          refine lv_iload_n hx hb dX6_wearAll_46 rfl (lv_at hl 0 rfl) ?_
          refine lv_aload_n hx hb dX6_wearAll_47 rfl (lv_at hl 1 rfl) ?_
          refine zm_get hx hb hts hown hE hM hZ.2.1 fl_X6_13_5 rfl dX6_wearAll_48 ?_
          refine lv_iload_n hx hb dX6_wearAll_51 rfl (lv_at hl 2 rfl) ?_
          refine zm_iald hx hb hE hM (hZ.ar 2) (vp_in_nI (show j < 50 by omega) (by decide)) dX6_wearAll_52 ?_
          refine zt_eq (v' := .int (nI (s_sz S j))) (by rw [nI_clamp (by omega)]; exact congrArg Value.int ((hAb.1 j hj).2.1)) ?_
          refine lv_icmp_ge (tgt := 83) hx hb dX6_wearAll_53 (by decide) (fun c53 => ?_) (fun c53 => ?_)
          · have hkk : k = s_sz S j := by have := (nI_leI (by omega) (by omega)).mp c53; omega
            refine zm_vret hx hb hr hlk hM hS ?_ ⟨Nat.le_refl _, Nat.le_refl _⟩ dX6_wearAll_83
            exact ⟨rfl, by rw [wAll_r2 h13, ← hkk]; exact ⟨f, g, hZ, hAb⟩⟩
          · have hkk : k < s_sz S j := by rw [nI_leI (by omega) (by omega)] at c53; omega
            refine lv_aload_n hx hb dX6_wearAll_56 rfl (lv_at hl 1 rfl) ?_
            refine zm_get hx hb hts hown hE hM hZ.2.1 fl_X6_23_5 rfl dX6_wearAll_57 ?_
            refine lv_iconst (v := 5) hx hb dX6_wearAll_60 (by decide) ?_
            refine lv_iload_n hx hb dX6_wearAll_61 rfl (lv_at hl 2 rfl) ?_
            refine lv_imul hx hb dX6_wearAll_62 ?_
            refine lv_iload_n hx hb dX6_wearAll_63 rfl (lv_at hl 0 rfl) ?_
            refine lv_iadd hx hb dX6_wearAll_64 ?_
            refine zt_eq (v' := .int (nI (5 * j + k))) (congrArg Value.int (idx5 j k)) ?_
            refine zm_iald hx hb hE hM (hZ.ar 5) (vp_in_nI (show 5 * j + k < 250 by omega) (by decide)) dX6_wearAll_65 ?_
            refine zt_eq (v' := .int (oI (s_th S j k))) (by rw [nI_clamp (by omega)]; exact congrArg Value.int (hAb.2.2.1 j k hj (by omega))) ?_
            refine lv_istore_n (lv' := [(3, .int (oI (s_th S j k))), (2, .int (nI k)), (0, .ref (q 0)), (1, .int (nI j))]) hx hb dX6_wearAll_66 rfl hl (by decide) rfl (fun ls hl => ?_)
            refine lv_iload_n hx hb dX6_wearAll_67 rfl (lv_at hl 0 rfl) ?_
            refine lv_iconst (v := (-1)) hx hb dX6_wearAll_68 (by decide) ?_
            refine lv_icmp_eq (tgt := 77) hx hb dX6_wearAll_69 (by decide) (fun c69 => ?_) (fun c69 => ?_)
            · have hth : s_th S j k = none := (oI_m1 (fun t ht => by have := (hI.2.2.2.1 j hj (by omega) k t hkk ht).1; omega)).mp c69
              have hRn : RepR G q (w_wr S (wrS S j (s_wr S) (k + 1))) M := by show RepR G q (w_wr S (wrO S (wrS S j (s_wr S) k) (s_th S j k))) M; rw [hth]; exact ⟨f, g, hZ, hAb⟩
              refine lv_iinc (v := nI (k + 1)) (lv' := [(2, .int (nI (k + 1))), (3, .int (oI (s_th S j k))), (0, .ref (q 0)), (1, .int (nI j))]) hx hb dX6_wearAll_77 hl (k := 1) rfl (nI_1 k) (by decide) rfl (fun ls hl => ?_)
              refine lv_goto (tgt := 46) hx hb dX6_wearAll_80 (by decide) ?_
              exact ih (k + 1) (by omega) (by omega) ls _ _ _ hRn hM hS (lv_sub hl [0, 2, 3] rfl)
            · obtain ⟨t, hth⟩ := oI_some c69
              rw [hth] at hl
              have hl : lv_has ls 4 [(3, .int (nI t)), (2, .int (nI k)), (0, .ref (q 0)), (1, .int (nI j))] := hl
              obtain ⟨htn, hga⟩ := hI.2.2.2.1 j hj (by omega) k t hkk hth
              obtain ⟨hkt, hkt2⟩ := gA_rw _ (hI.2.2.1 t htn).1 _ h13 (by omega) hga
              refine lv_aload_n hx hb dX6_wearAll_72 rfl (lv_at hl 2 rfl) ?_
              refine lv_iload_n hx hb dX6_wearAll_73 rfl (lv_at hl 0 rfl) ?_
              refine zm_callV (As := [.int (nI t)]) (rest := []) hx hb hml hts hown hE hA hM hS hZ.2.1 rfl (c_X6_wearRow l G A q (w_wr S (wrS S j (s_wr S) k)) _ t htn hkt hI ⟨f, g, hZ, hAb⟩) cd_X6_wearRow ml_X6_106 rfl rfl hl.1 (Nat.le_of_ble_eq_true rfl) ⟨Nat.le_of_ble_eq_true rfl, Nat.le_of_ble_eq_true rfl⟩ ⟨Nat.le_of_ble_eq_true rfl, Nat.le_of_ble_eq_true rfl⟩ dX6_wearAll_74 ?_
              rintro r M1 H locs ⟨rfl, hR1⟩ hM hS
              refine W.eq (g2 := F0 m 77 ls []) rfl ?_
              have hRn : RepR G q (w_wr S (wrS S j (s_wr S) (k + 1))) M1 := by show RepR G q (w_wr S (wrO S (wrS S j (s_wr S) k) (s_th S j k))) M1; rw [hth]; rw [wrR_w] at hR1; exact hR1
              refine lv_iinc (v := nI (k + 1)) (lv' := [(2, .int (nI (k + 1))), (3, .int (nI t)), (0, .ref (q 0)), (1, .int (nI j))]) hx hb dX6_wearAll_77 hl (k := 1) rfl (nI_1 k) (by decide) rfl (fun ls hl => ?_)
              refine lv_goto (tgt := 46) hx hb dX6_wearAll_80 (by decide) ?_
              exact ih (k + 1) (by omega) (by omega) ls _ _ _ hRn hM hS (lv_sub hl [0, 2, 3] rfl)
      exact loop (s_sz S j + 1) 0 (Nat.zero_le _) (by omega) ls _ _ _ ⟨f, g, hZ, hAb⟩ hM hS (lv_sub hl [0, 1, 2] rfl)
    · rw [show (13 : Int32) = nI 13 from rfl, nI_leI (by omega) (by omega)] at c33
      have h47 : ¬ (4 ≤ s_kd S j ∧ s_kd S j ≤ 7) := by simpa [isPc] using c9
      have h8 : 8 ≤ s_kd S j := by omega
      have h12 : s_kd S j ≤ 12 := by omega
      refine lv_aload_n hx hb dX6_wearAll_36 rfl (lv_at hl 0 rfl) ?_
      refine lv_iload_n hx hb dX6_wearAll_37 rfl (lv_at hl 1 rfl) ?_
      refine zm_callV (As := [.int (nI j)]) (rest := []) hx hb hml hts hown hE hA hM hS hZ.2.1 rfl (c_X6_wearRow l G A q S _ j hj h8 hI ⟨f, g, hZ, hAb⟩) cd_X6_wearRow ml_X6_106 rfl rfl hl.1 (Nat.le_of_ble_eq_true rfl) ⟨Nat.le_of_ble_eq_true rfl, Nat.le_of_ble_eq_true rfl⟩ ⟨Nat.le_of_ble_eq_true rfl, Nat.le_of_ble_eq_true rfl⟩ dX6_wearAll_38 ?_
      rintro r M1 H locs ⟨rfl, hR1⟩ hM hS
      refine W.eq (g2 := F0 m 41 ls []) rfl ?_
      rw [← wAll_r1 h8 h12] at hR1
      refine lv_goto (tgt := 83) hx hb dX6_wearAll_41 (by decide) ?_
      refine zm_vret hx hb hr hlk hM hS ?_ ⟨Nat.le_refl _, Nat.le_refl _⟩ dX6_wearAll_83
      exact ⟨rfl, hR1⟩
  · rw [zbt_pc _ h16, bI_n] at c9
    refine lv_aload_n hx hb dX6_wearAll_12 rfl (lv_at hl 0 rfl) ?_
    refine zm_get hx hb hts hown hE hM hZ.2.1 fl_X6_16_5 rfl dX6_wearAll_13 ?_
    refine lv_iload_n hx hb dX6_wearAll_16 rfl (lv_at hl 1 rfl) ?_
    refine lv_dup2_11 hx hb dX6_wearAll_17 rfl rfl ?_
    refine zm_iald hx hb hE hM (hZ.ar 3) (vp_in_nI (show j < 50 by omega) (by decide)) dX6_wearAll_18 ?_
    refine zt_eq (v' := .int (s_wr S j)) (by rw [nI_clamp (by omega)]; exact congrArg Value.int ((hAb.1 j hj).2.2)) ?_
    refine lv_iconst (v := 1) hx hb dX6_wearAll_19 (by decide) ?_
    refine lv_iadd hx hb dX6_wearAll_20 ?_
    refine zm_iast hx hb hE hM hS (hZ.ar 3) (vp_in_nI (show j < 50 by omega) (by decide)) dX6_wearAll_21 (fun H locs hM hS => ?_)
    rw [nI_clamp (by omega)] at hM
    have hR1 : RepR G q (w_wr S (upd (s_wr S) j (s_wr S j + 1))) _ := ⟨_, _, hZ.arr 3 (upd (f 3) j (s_wr S j + 1)), abs_wr hAb j (s_wr S j + 1)⟩
    rw [← wAll_pc c9] at hR1
    refine lv_goto (tgt := 83) hx hb dX6_wearAll_22 (by decide) ?_
    refine zm_vret hx hb hr hlk hM hS ?_ ⟨Nat.le_refl _, Nat.le_refl _⟩ dX6_wearAll_83
    exact ⟨rfl, hR1⟩
set_option maxRecDepth 100000 in
set_option maxHeartbeats 4000000 in
theorem c_X6_take (l : Launch) (G : zm_G) (A : Nat → Prop) (q : Nat → Nat) (S : zS) (M : zm_M) (j : Nat) (hj : j < s_np S) (ii : Nat) (hii : ii < 10) (hk8 : 8 ≤ s_kd S j) (hI : zInv S) (hR : RepR G q S M) : Met l yX6_take (zm_W yX6_take cX6_take 3 (some .int)) (zm_rm 0 0 0) (zm_Pc G [.ref (q 0), .int (nI j), .int (nI ii)] A M) (zm_Q G (fun r M' => (ii < s_sz S j ∧ r = some (.int 0) ∧ RepR G q (w_th (w_hd S (s_th S j ii)) (up2 (s_th S) j ii none)) M') ∨ (¬ ii < s_sz S j ∧ r = some (.int (-6)) ∧ RepR G q S M')) A) 0 0 A := by
  refine zm_start (by decide) (Nat.le_of_ble_eq_true rfl) ?_
  intro p e s m below meth c hx hb hml hr hts hown hlk hnm hE hA ls hl hM hS
  have hl : lv_has ls 3 [(0, .ref (q 0)), (1, .int (nI j)), (2, .int (nI ii))] := hl
  obtain ⟨f, g, hZ, hAb⟩ := hR
  have hnp := hI.1
  have hncc := hI.2.1
  have hrw := rw_of hk8 (by have := (hI.2.2.1 j hj).1; omega)
  have hm := hI.sz5 hj (rw_pc hrw)
  refine lv_iload_n hx hb dX6_take_0 rfl (lv_at hl 2 rfl) ?_
  refine lv_aload_n hx hb dX6_take_1 rfl (lv_at hl 0 rfl) ?_
  refine zm_get hx hb hts hown hE hM hZ.2.1 fl_X6_13_5 rfl dX6_take_2 ?_
  refine lv_iload_n hx hb dX6_take_5 rfl (lv_at hl 1 rfl) ?_
  refine zm_iald hx hb hE hM (hZ.ar 2) (vp_in_nI (show j < 50 by omega) (by decide)) dX6_take_6 ?_
  refine zt_eq (v' := .int (nI (s_sz S j))) (by rw [nI_clamp (by omega)]; exact congrArg Value.int ((hAb.1 j hj).2.1)) ?_
  refine lv_icmp_lt (tgt := 13) hx hb dX6_take_7 (by decide) (fun c7 => ?_) (fun c7 => ?_)
  · rw [nI_ltI (by omega) (by omega)] at c7
    refine lv_aload_n hx hb dX6_take_13 rfl (lv_at hl 0 rfl) ?_
    refine lv_aload_n hx hb dX6_take_14 rfl (lv_at hl 0 rfl) ?_
    refine zm_get hx hb hts hown hE hM hZ.2.1 fl_X6_23_5 rfl dX6_take_15 ?_
    refine lv_iconst (v := 5) hx hb dX6_take_18 (by decide) ?_
    refine lv_iload_n hx hb dX6_take_19 rfl (lv_at hl 1 rfl) ?_
    refine lv_imul hx hb dX6_take_20 ?_
    refine lv_iload_n hx hb dX6_take_21 rfl (lv_at hl 2 rfl) ?_
    refine lv_iadd hx hb dX6_take_22 ?_
    refine zt_eq (v' := .int (nI (5 * j + ii))) (congrArg Value.int (idx5 j ii)) ?_
    refine zm_iald hx hb hE hM (hZ.ar 5) (vp_in_nI (show 5 * j + ii < 250 by omega) (by decide)) dX6_take_23 ?_
    refine zt_eq (v' := .int (oI (s_th S j ii))) (by rw [nI_clamp (by omega)]; exact congrArg Value.int (hAb.2.2.1 j ii hj (by omega))) ?_
    refine zm_put hx hb hts hown hE hM hS hZ.2.1 fp_X6_29_5 rfl rfl (Nat.le_of_ble_eq_true rfl) dX6_take_24 (fun H locs hM hS => ?_)
    have hZ1 := hZ.fld (objR q (w_hd S (s_th S j ii)))
    refine lv_aload_n hx hb dX6_take_27 rfl (lv_at hl 0 rfl) ?_
    refine zm_get hx hb hts hown hE hM hZ1.2.1 fl_X6_23_5 rfl dX6_take_28 ?_
    refine lv_iconst (v := 5) hx hb dX6_take_31 (by decide) ?_
    refine lv_iload_n hx hb dX6_take_32 rfl (lv_at hl 1 rfl) ?_
    refine lv_imul hx hb dX6_take_33 ?_
    refine lv_iload_n hx hb dX6_take_34 rfl (lv_at hl 2 rfl) ?_
    refine lv_iadd hx hb dX6_take_35 ?_
    refine lv_iconst (v := (-1)) hx hb dX6_take_36 (by decide) ?_
    refine W.eq (g2 := F0 m 37 ls (.int (-1) :: .int (nI (5 * j + ii)) :: .ref (q 5) :: [])) (by rw [idx5]) ?_
    refine zm_iast hx hb hE hM hS (hZ1.ar 5) (vp_in_nI (show 5 * j + ii < 250 by omega) (by decide)) dX6_take_37 (fun H locs hM hS => ?_)
    rw [nI_clamp (by omega)] at hM
    have hR2 : RepR G q (w_th (w_hd S (s_th S j ii)) (up2 (s_th S) j ii none)) _ := ⟨_, _, hZ1.arr 5 (upd (f 5) (5 * j + ii) (oI none)), abs_th (S := w_hd S (s_th S j ii)) hAb j ii none (by omega)⟩
    refine lv_iconst (v := 0) hx hb dX6_take_38 (by decide) ?_
    refine zm_iret hx hb hr hlk hM hS ?_ ⟨Nat.le_refl _, Nat.le_refl _⟩ dX6_take_39
    exact Or.inl ⟨c7, rfl, hR2⟩
  · rw [nI_ltI (by omega) (by omega)] at c7
    refine lv_bipush (v := (-6)) hx hb dX6_take_10 (by decide) ?_
    refine zm_iret hx hb hr hlk hM hS ?_ ⟨Nat.le_refl _, Nat.le_refl _⟩ dX6_take_12
    exact Or.inr ⟨c7, rfl, ⟨f, g, hZ, hAb⟩⟩
set_option maxRecDepth 100000 in
set_option maxHeartbeats 4000000 in
theorem c_X6_lay (l : Launch) (G : zm_G) (A : Nat → Prop) (q : Nat → Nat) (S : zS) (M : zm_M) (o : Option Nat) (v ii : Nat) (ho : ∀ j, o = some j → j < s_np S) (hrow : ∀ j, o = some j → 8 ≤ s_kd S j) (hv8 : 8 ≤ v) (hv15 : v ≤ 15) (hii : ii < 10) (hI : zInv S) (hR : RepR G q S M) : Met l yX6_lay (zm_W yX6_lay cX6_lay 4 (some .int)) (zm_rm 2 0 0) (zm_Pc G [.ref (q 0), .int (oI o), .int (nI v), .int (nI ii)] A M) (zm_Q G (fun r M' => (goS S (s_hd S) (inn v) = false ∧ r = some (.int (-5)) ∧ RepR G q S M') ∨ (goS S (s_hd S) (inn v) = true ∧ ((o = none ∧ r = some (.int (-4)) ∧ RepR G q S M') ∨ ∃ j, o = some j ∧ ((¬ ii < s_sz S j ∧ r = some (.int (-6)) ∧ RepR G q S M') ∨ (ii < s_sz S j ∧ ((goS S (s_hd S) (inn (s_kd S j)) = false ∧ r = some (.int (-7)) ∧ RepR G q S M') ∨ (goS S (s_hd S) (inn (s_kd S j)) = true ∧ r = some (.int 0) ∧ RepR G q (w_th (w_hd S none) (up2 (s_th S) j ii (s_hd S))) M'))))))) A) 0 0 A := by
  refine zm_start (by decide) (Nat.le_of_ble_eq_true rfl) ?_
  intro p e s m below meth c hx hb hml hr hts hown hlk hnm hE hA ls hl hM hS
  have hl : lv_has ls 4 [(0, .ref (q 0)), (1, .int (oI o)), (2, .int (nI v)), (3, .int (nI ii))] := hl
  obtain ⟨f, g, hZ, hAb⟩ := hR
  have hnp := hI.1
  have hncc := hI.2.1
  refine lv_aload_n hx hb dX6_lay_0 rfl (lv_at hl 0 rfl) ?_
  refine lv_aload_n hx hb dX6_lay_1 rfl (lv_at hl 0 rfl) ?_
  refine zm_get hx hb hts hown hE hM hZ.2.1 fl_X6_29_5 rfl dX6_lay_2 ?_
  refine lv_iload_n hx hb dX6_lay_5 rfl (lv_at hl 2 rfl) ?_
  refine zm_callS (As := [.int (nI v)]) (rest := [.int (oI (s_hd S)), .ref (q 0)]) hx hb hml hts hown hE hA hM hS (c_X6_inner l G A _ v (by omega) (by omega)) cd_X6_inner ml_X6_92 rfl rfl hl.1 (Nat.le_of_ble_eq_true rfl) ⟨Nat.le_of_ble_eq_true rfl, Nat.le_of_ble_eq_true rfl⟩ ⟨Nat.le_of_ble_eq_true rfl, Nat.le_of_ble_eq_true rfl⟩ dX6_lay_6 ?_
  rintro r M1 H locs ⟨rfl, e1⟩ hM hS
  rw [e1] at hM
  clear e1 M1
  refine W.eq (g2 := F0 m 9 ls [.int (nI (inn v)), .int (oI (s_hd S)), .ref (q 0)]) rfl ?_
  refine zm_callV (As := [.int (oI (s_hd S)), .int (nI (inn v))]) (rest := []) hx hb hml hts hown hE hA hM hS hZ.2.1 rfl (c_X6_goes l G A q S _ (s_hd S) (inn v) (inn17 _) (hI.2.2.2.2.2.1) hI ⟨f, g, hZ, hAb⟩) cd_X6_goes ml_X6_110 rfl rfl hl.1 (Nat.le_of_ble_eq_true rfl) ⟨Nat.le_of_ble_eq_true rfl, Nat.le_of_ble_eq_true rfl⟩ ⟨Nat.le_of_ble_eq_true rfl, Nat.le_of_ble_eq_true rfl⟩ dX6_lay_9 ?_
  rintro r M1 H locs ⟨rfl, e1⟩ hM hS
  rw [e1] at hM
  clear e1 M1
  refine W.eq (g2 := F0 m 12 ls [.int (bI (goS S (s_hd S) (inn v)))]) rfl ?_
  refine lv_if_ne (tgt := 18) hx hb dX6_lay_12 (by decide) (fun c12 => ?_) (fun c12 => ?_)
  · rw [bI_n] at c12
    refine lv_iload_n hx hb dX6_lay_18 rfl (lv_at hl 1 rfl) ?_
    refine lv_iconst (v := (-1)) hx hb dX6_lay_19 (by decide) ?_
    refine lv_icmp_ne (tgt := 26) hx hb dX6_lay_20 (by decide) (fun c20 => ?_) (fun c20 => ?_)
    · obtain ⟨j, rfl⟩ := oI_some c20
      have hj := ho j rfl
      have h8 := hrow j rfl
      have h16 := (hI.2.2.1 j hj).1
      have hm := hI.sz5 hj (rw_pc (rw_of h8 (by omega)))
      have hl : lv_has ls 4 [(0, .ref (q 0)), (1, .int (nI j)), (2, .int (nI v)), (3, .int (nI ii))] := hl
      refine lv_iload_n hx hb dX6_lay_26 rfl (lv_at hl 3 rfl) ?_
      refine lv_aload_n hx hb dX6_lay_27 rfl (lv_at hl 0 rfl) ?_
      refine zm_get hx hb hts hown hE hM hZ.2.1 fl_X6_13_5 rfl dX6_lay_28 ?_
      refine lv_iload_n hx hb dX6_lay_31 rfl (lv_at hl 1 rfl) ?_
      refine zm_iald hx hb hE hM (hZ.ar 2) (vp_in_nI (show j < 50 by omega) (by decide)) dX6_lay_32 ?_
      refine zt_eq (v' := .int (nI (s_sz S j))) (by rw [nI_clamp (by omega)]; exact congrArg Value.int ((hAb.1 j hj).2.1)) ?_
      refine lv_icmp_lt (tgt := 39) hx hb dX6_lay_33 (by decide) (fun c33 => ?_) (fun c33 => ?_)
      · rw [nI_ltI (by omega) (by omega)] at c33
        refine lv_aload_n hx hb dX6_lay_39 rfl (lv_at hl 0 rfl) ?_
        refine lv_aload_n hx hb dX6_lay_40 rfl (lv_at hl 0 rfl) ?_
        refine zm_get hx hb hts hown hE hM hZ.2.1 fl_X6_29_5 rfl dX6_lay_41 ?_
        refine lv_aload_n hx hb dX6_lay_44 rfl (lv_at hl 0 rfl) ?_
        refine zm_get hx hb hts hown hE hM hZ.2.1 fl_X6_7_5 rfl dX6_lay_45 ?_
        refine lv_iload_n hx hb dX6_lay_48 rfl (lv_at hl 1 rfl) ?_
        refine zm_iald hx hb hE hM (hZ.ar 1) (vp_in_nI (show j < 50 by omega) (by decide)) dX6_lay_49 ?_
        refine zt_eq (v' := .int (nI (s_kd S j))) (by rw [nI_clamp (by omega)]; exact congrArg Value.int ((hAb.1 j hj).1)) ?_
        refine zm_callS (As := [.int (nI (s_kd S j))]) (rest := [.int (oI (s_hd S)), .ref (q 0)]) hx hb hml hts hown hE hA hM hS (c_X6_inner l G A _ (s_kd S j) (by omega) (by omega)) cd_X6_inner ml_X6_92 rfl rfl hl.1 (Nat.le_of_ble_eq_true rfl) ⟨Nat.le_of_ble_eq_true rfl, Nat.le_of_ble_eq_true rfl⟩ ⟨Nat.le_of_ble_eq_true rfl, Nat.le_of_ble_eq_true rfl⟩ dX6_lay_50 ?_
        rintro r M1 H locs ⟨rfl, e1⟩ hM hS
        rw [e1] at hM
        clear e1 M1
        refine W.eq (g2 := F0 m 53 ls [.int (nI (inn (s_kd S j))), .int (oI (s_hd S)), .ref (q 0)]) rfl ?_
        refine zm_callV (As := [.int (oI (s_hd S)), .int (nI (inn (s_kd S j)))]) (rest := []) hx hb hml hts hown hE hA hM hS hZ.2.1 rfl (c_X6_goes l G A q S _ (s_hd S) (inn (s_kd S j)) (inn17 _) (hI.2.2.2.2.2.1) hI ⟨f, g, hZ, hAb⟩) cd_X6_goes ml_X6_110 rfl rfl hl.1 (Nat.le_of_ble_eq_true rfl) ⟨Nat.le_of_ble_eq_true rfl, Nat.le_of_ble_eq_true rfl⟩ ⟨Nat.le_of_ble_eq_true rfl, Nat.le_of_ble_eq_true rfl⟩ dX6_lay_53 ?_
        rintro r M1 H locs ⟨rfl, e1⟩ hM hS
        rw [e1] at hM
        clear e1 M1
        refine W.eq (g2 := F0 m 56 ls [.int (bI (goS S (s_hd S) (inn (s_kd S j))))]) rfl ?_
        refine lv_if_ne (tgt := 62) hx hb dX6_lay_56 (by decide) (fun c56 => ?_) (fun c56 => ?_)
        · rw [bI_n] at c56
          refine lv_aload_n hx hb dX6_lay_62 rfl (lv_at hl 0 rfl) ?_
          refine zm_get hx hb hts hown hE hM hZ.2.1 fl_X6_23_5 rfl dX6_lay_63 ?_
          refine lv_iconst (v := 5) hx hb dX6_lay_66 (by decide) ?_
          refine lv_iload_n hx hb dX6_lay_67 rfl (lv_at hl 1 rfl) ?_
          refine lv_imul hx hb dX6_lay_68 ?_
          refine lv_iload_n hx hb dX6_lay_69 rfl (lv_at hl 3 rfl) ?_
          refine lv_iadd hx hb dX6_lay_70 ?_
          refine lv_aload_n hx hb dX6_lay_71 rfl (lv_at hl 0 rfl) ?_
          refine zm_get hx hb hts hown hE hM hZ.2.1 fl_X6_29_5 rfl dX6_lay_72 ?_
          refine W.eq (g2 := F0 m 75 ls (.int (oI (s_hd S)) :: .int (nI (5 * j + ii)) :: .ref (q 5) :: [])) (by rw [idx5]) ?_
          refine zm_iast hx hb hE hM hS (hZ.ar 5) (vp_in_nI (show 5 * j + ii < 250 by omega) (by decide)) dX6_lay_75 (fun H locs hM hS => ?_)
          rw [nI_clamp (by omega)] at hM
          have hZ1 := hZ.arr 5 (upd (f 5) (5 * j + ii) (oI (s_hd S)))
          refine lv_aload_n hx hb dX6_lay_76 rfl (lv_at hl 0 rfl) ?_
          refine lv_iconst (v := (-1)) hx hb dX6_lay_77 (by decide) ?_
          refine zm_put hx hb hts hown hE hM hS hZ1.2.1 fp_X6_29_5 rfl rfl (Nat.le_of_ble_eq_true rfl) dX6_lay_78 (fun H locs hM hS => ?_)
          have hR2 : RepR G q (w_th (w_hd S none) (up2 (s_th S) j ii (s_hd S))) _ := ⟨_, _, hZ1.fld (objR q (w_th (w_hd S none) (up2 (s_th S) j ii (s_hd S)))), abs_th (S := w_hd S none) hAb j ii (s_hd S) (by omega)⟩
          refine lv_iconst (v := 0) hx hb dX6_lay_81 (by decide) ?_
          refine zm_iret hx hb hr hlk hM hS ?_ ⟨Nat.le_refl _, Nat.le_refl _⟩ dX6_lay_82
          exact Or.inr ⟨c12, Or.inr ⟨j, rfl, Or.inr ⟨c33, Or.inr ⟨c56, rfl, hR2⟩⟩⟩⟩
        · rw [bI_0] at c56
          refine lv_bipush (v := (-7)) hx hb dX6_lay_59 (by decide) ?_
          refine zm_iret hx hb hr hlk hM hS ?_ ⟨Nat.le_refl _, Nat.le_refl _⟩ dX6_lay_61
          exact Or.inr ⟨c12, Or.inr ⟨j, rfl, Or.inr ⟨c33, Or.inl ⟨c56, rfl, ⟨f, g, hZ, hAb⟩⟩⟩⟩⟩
      · rw [nI_ltI (by omega) (by omega)] at c33
        refine lv_bipush (v := (-6)) hx hb dX6_lay_36 (by decide) ?_
        refine zm_iret hx hb hr hlk hM hS ?_ ⟨Nat.le_refl _, Nat.le_refl _⟩ dX6_lay_38
        exact Or.inr ⟨c12, Or.inr ⟨j, rfl, Or.inl ⟨c33, rfl, ⟨f, g, hZ, hAb⟩⟩⟩⟩
    · refine lv_bipush (v := (-4)) hx hb dX6_lay_23 (by decide) ?_
      refine zm_iret hx hb hr hlk hM hS ?_ ⟨Nat.le_refl _, Nat.le_refl _⟩ dX6_lay_25
      exact Or.inr ⟨c12, Or.inl ⟨(oI_m1 (fun j hj => by have := ho j hj; omega)).mp c20, rfl, ⟨f, g, hZ, hAb⟩⟩⟩
  · rw [bI_0] at c12
    refine lv_bipush (v := (-5)) hx hb dX6_lay_15 (by decide) ?_
    refine zm_iret hx hb hr hlk hM hS ?_ ⟨Nat.le_refl _, Nat.le_refl _⟩ dX6_lay_17
    exact Or.inl ⟨c12, rfl, ⟨f, g, hZ, hAb⟩⟩
end
section
set_option maxRecDepth 100000 in
set_option maxHeartbeats 4000000 in
theorem c_X6_done (l : Launch) (G : zm_G) (A : Nat → Prop) (q : Nat → Nat) (S : zS) (M : zm_M) (c0 : Nat) (hc0 : c0 < s_nc S) (hI : zInv S) (hR : RepR G q S M) : Met l yX6_done (zm_W yX6_done cX6_done 5 (some .int)) (zm_rm 3 0 0) (zm_Pc G [.ref (q 0), .int (nI c0)] A M) (zm_Q G (fun r M' => r = some (.int (stp S c0).1) ∧ RepR G q (stp S c0).2 M') A) 0 0 A := by
  refine zm_start (by decide) (Nat.le_of_ble_eq_true rfl) ?_
  intro p e s m below meth c hx hb hml hr hts hown hlk hnm hE hA ls hl hM hS
  have hl : lv_has ls 5 [(0, .ref (q 0)), (1, .int (nI c0))] := hl
  obtain ⟨f, g, hZ, hAb⟩ := hR
  have hnp := hI.1
  have hncc := hI.2.1
  obtain ⟨k1, k2, k3, k4, k5⟩ := hI.2.2.2.2.2.2 c0 hc0
  have hso : ∀ j, s_sl S (s_cu S c0).2.1 = some j → j < s_np S := fun t ht => hI.2.2.2.2.1 _ t k2 ht
  refine lv_aload_n hx hb dX6_done_0 rfl (lv_at hl 0 rfl) ?_
  refine zm_get hx hb hts hown hE hM hZ.2.1 fl_X6_36_5 rfl dX6_done_1 ?_
  refine lv_iload_n hx hb dX6_done_4 rfl (lv_at hl 1 rfl) ?_
  refine zm_iald hx hb hE hM (hZ.ar 8) (vp_in_nI (show c0 < 30 by omega) (by decide)) dX6_done_5 ?_
  refine zt_eq (v' := .int (nI (s_cu S c0).2.1)) (by rw [nI_clamp (by omega)]; exact congrArg Value.int ((hAb.2.2.2.2 c0 hc0).2.1)) ?_
  refine lv_istore_n (lv' := [(2, .int (nI (s_cu S c0).2.1)), (0, .ref (q 0)), (1, .int (nI c0))]) hx hb dX6_done_6 rfl hl (by decide) rfl (fun ls hl => ?_)
  refine lv_aload_n hx hb dX6_done_7 rfl (lv_at hl 1 rfl) ?_
  refine zm_get hx hb hts hown hE hM hZ.2.1 fl_X6_26_5 rfl dX6_done_8 ?_
  refine lv_iload_n hx hb dX6_done_11 rfl (lv_at hl 0 rfl) ?_
  refine zm_iald hx hb hE hM (hZ.ar 6) (vp_in_nI (show (s_cu S c0).2.1 < 10 by omega) (by decide)) dX6_done_12 ?_
  refine zt_eq (v' := .int (oI (s_sl S (s_cu S c0).2.1))) (by rw [nI_clamp (by omega)]; exact congrArg Value.int (hAb.2.2.2.1 (s_cu S c0).2.1 k2)) ?_
  refine lv_istore_n (lv' := [(3, .int (oI (s_sl S (s_cu S c0).2.1))), (2, .int (nI (s_cu S c0).2.1)), (0, .ref (q 0)), (1, .int (nI c0))]) hx hb dX6_done_13 rfl hl (by decide) rfl (fun ls hl => ?_)
  refine lv_aload_n hx hb dX6_done_14 rfl (lv_at hl 2 rfl) ?_
  refine zm_get hx hb hts hown hE hM hZ.2.1 fl_X6_39_5 rfl dX6_done_15 ?_
  refine lv_iload_n hx hb dX6_done_18 rfl (lv_at hl 3 rfl) ?_
  refine zm_iald hx hb hE hM (hZ.ar 9) (vp_in_nI (show c0 < 30 by omega) (by decide)) dX6_done_19 ?_
  refine zt_eq (v' := .int (nI (s_cu S c0).2.2.1)) (by rw [nI_clamp (by omega)]; exact congrArg Value.int ((hAb.2.2.2.2 c0 hc0).2.2.1)) ?_
  refine lv_istore (lv' := [(4, .int (nI (s_cu S c0).2.2.1)), (3, .int (oI (s_sl S (s_cu S c0).2.1))), (2, .int (nI (s_cu S c0).2.1)), (0, .ref (q 0)), (1, .int (nI c0))]) hx hb dX6_done_20 hl (by decide) rfl (fun ls hl => ?_)
  refine lv_aload_n hx hb dX6_done_22 rfl (lv_at hl 3 rfl) ?_
  refine lv_iload_n hx hb dX6_done_23 rfl (lv_at hl 1 rfl) ?_
  refine lv_iload hx hb dX6_done_24 (lv_at hl 0 rfl) ?_
  refine zm_callV (As := [.int (oI (s_sl S (s_cu S c0).2.1)), .int (nI (s_cu S c0).2.2.1)]) (rest := []) hx hb hml hts hown hE hA hM hS hZ.2.1 rfl (c_X6_goes l G A q S _ (s_sl S (s_cu S c0).2.1) ((s_cu S c0).2.2.1) (k3) (hso) hI ⟨f, g, hZ, hAb⟩) cd_X6_goes ml_X6_110 rfl rfl hl.1 (Nat.le_of_ble_eq_true rfl) ⟨Nat.le_of_ble_eq_true rfl, Nat.le_of_ble_eq_true rfl⟩ ⟨Nat.le_of_ble_eq_true rfl, Nat.le_of_ble_eq_true rfl⟩ dX6_done_26 ?_
  rintro r M1 H locs ⟨rfl, e1⟩ hM hS
  rw [e1] at hM
  clear e1 M1
  refine W.eq (g2 := F0 m 29 ls [.int (bI (goS S (s_sl S (s_cu S c0).2.1) ((s_cu S c0).2.2.1)))]) rfl ?_
  refine lv_if_ne (tgt := 35) hx hb dX6_done_29 (by decide) (fun c29 => ?_) (fun c29 => ?_)
  · rw [bI_n] at c29
    refine lv_iload_n hx hb dX6_done_35 rfl (lv_at hl 1 rfl) ?_
    refine lv_iconst (v := (-1)) hx hb dX6_done_36 (by decide) ?_
    refine lv_icmp_ne (tgt := 53) hx hb dX6_done_37 (by decide) (fun c37 => ?_) (fun c37 => ?_)
    · refine lv_aload_n hx hb dX6_done_53 rfl (lv_at hl 3 rfl) ?_
      refine zm_get hx hb hts hown hE hM hZ.2.1 fl_X6_33_5 rfl dX6_done_54 ?_
      refine lv_iload_n hx hb dX6_done_57 rfl (lv_at hl 4 rfl) ?_
      refine zm_iald hx hb hE hM (hZ.ar 7) (vp_in_nI (show c0 < 30 by omega) (by decide)) dX6_done_58 ?_
      refine zt_eq (v' := .int (nI (s_cu S c0).1)) (by rw [nI_clamp (by omega)]; exact congrArg Value.int ((hAb.2.2.2.2 c0 hc0).1)) ?_
      rcases (show (s_cu S c0).1 = 0 ∨ (s_cu S c0).1 = 1 ∨ (s_cu S c0).1 = 2 ∨ (s_cu S c0).1 = 3 ∨ (s_cu S c0).1 = 4 ∨ (s_cu S c0).1 = 5 by omega) with ha | ha | ha | ha | ha | ha
      · refine lv_tableIn (off := 33) (tgt := 92) hx hb dX6_done_59 (by rw [ha]; decide) (by rw [ha]; decide) (by rw [ha]; rfl) (by decide) ?_
        obtain ⟨j, hoj⟩ := oI_some c37
        have hj := hso j hoj
        have hgj : gA (s_kd S j) (s_cu S c0).2.2.1 = true := by rw [hoj] at c29; exact c29
        rw [hoj] at hl
        have hl : lv_has ls 5 [(4, .int (nI (s_cu S c0).2.2.1)), (3, .int (nI j)), (2, .int (nI (s_cu S c0).2.1)), (0, .ref (q 0)), (1, .int (nI c0))] := hl
        refine lv_aload_n hx hb dX6_done_92 rfl (lv_at hl 3 rfl) ?_
        refine lv_dup hx hb dX6_done_93 rfl ?_
        refine zm_get hx hb hts hown hE hM hZ.2.1 fl_X6_113_5 rfl dX6_done_94 ?_
        refine lv_aload_n hx hb dX6_done_97 rfl (lv_at hl 3 rfl) ?_
        refine lv_iload_n hx hb dX6_done_98 rfl (lv_at hl 1 rfl) ?_
        refine lv_iload hx hb dX6_done_99 (lv_at hl 0 rfl) ?_
        refine zm_callV (As := [.int (nI j), .int (nI (s_cu S c0).2.2.1)]) (rest := [.long (s_po S), .ref (q 0)]) hx hb hml hts hown hE hA hM hS hZ.2.1 rfl (c_X6_worthOf l G A q S _ j hj (s_cu S c0).2.2.1 k3 hgj hI ⟨f, g, hZ, hAb⟩) cd_X6_worthOf ml_X6_117 rfl rfl hl.1 (Nat.le_of_ble_eq_true rfl) ⟨Nat.le_of_ble_eq_true rfl, Nat.le_of_ble_eq_true rfl⟩ ⟨Nat.le_of_ble_eq_true rfl, Nat.le_of_ble_eq_true rfl⟩ dX6_done_101 ?_
        rintro r M1 H locs ⟨rfl, e1⟩ hM hS
        rw [e1] at hM
        clear e1 M1
        refine W.eq (g2 := F0 m 104 ls [.long (wOf S j (s_cu S c0).2.2.1), .long (s_po S), .ref (q 0)]) rfl ?_
        refine lv_ladd hx hb dX6_done_104 ?_
        refine zm_put hx hb hts hown hE hM hS hZ.2.1 fp_X6_113_5 rfl rfl (Nat.le_of_ble_eq_true rfl) dX6_done_105 (fun H locs hM hS => ?_)
        have hR2 : RepR G q (w_po S (s_po S + wOf S j (s_cu S c0).2.2.1)) _ := ⟨_, _, hZ.fld (objR q (w_po S (s_po S + wOf S j (s_cu S c0).2.2.1))), hAb⟩
        refine lv_iconst (v := 0) hx hb dX6_done_108 (by decide) ?_
        refine zm_iret hx hb hr hlk hM hS ?_ ⟨Nat.le_refl _, Nat.le_refl _⟩ dX6_done_109
        have hs : stp S c0 = (0, w_po S (s_po S + wOf S j (s_cu S c0).2.2.1)) := by unfold stp; rw [if_neg (by rw [c29]; decide), ha]; simp only [hoj]
        exact ⟨by rw [hs], by rw [hs]; exact hR2⟩
      · refine lv_tableIn (off := 51) (tgt := 110) hx hb dX6_done_59 (by rw [ha]; decide) (by rw [ha]; decide) (by rw [ha]; rfl) (by decide) ?_
        obtain ⟨j, hoj⟩ := oI_some c37
        have hj := hso j hoj
        have hgj : gA (s_kd S j) (s_cu S c0).2.2.1 = true := by rw [hoj] at c29; exact c29
        rw [hoj] at hl
        have hl : lv_has ls 5 [(4, .int (nI (s_cu S c0).2.2.1)), (3, .int (nI j)), (2, .int (nI (s_cu S c0).2.1)), (0, .ref (q 0)), (1, .int (nI c0))] := hl
        refine lv_aload_n hx hb dX6_done_110 rfl (lv_at hl 3 rfl) ?_
        refine lv_iload_n hx hb dX6_done_111 rfl (lv_at hl 1 rfl) ?_
        have h4 : 4 ≤ s_kd S j := by rw [ha] at k5; have := has1 _ k3 k5; have h16 := (hI.2.2.1 j hj).1; have := (gA_lv0 _ h16 _ k3 hgj).1; omega
        refine zm_callV (As := [.int (nI j)]) (rest := []) hx hb hml hts hown hE hA hM hS hZ.2.1 rfl (c_X6_wearAll l G A q S _ j hj h4 hI ⟨f, g, hZ, hAb⟩) cd_X6_wearAll ml_X6_120 rfl rfl hl.1 (Nat.le_of_ble_eq_true rfl) ⟨Nat.le_of_ble_eq_true rfl, Nat.le_of_ble_eq_true rfl⟩ ⟨Nat.le_of_ble_eq_true rfl, Nat.le_of_ble_eq_true rfl⟩ dX6_done_112 ?_
        rintro r M1 H locs ⟨rfl, hR2⟩ hM hS
        refine W.eq (g2 := F0 m 115 ls []) rfl ?_
        refine lv_iconst (v := 0) hx hb dX6_done_115 (by decide) ?_
        refine zm_iret hx hb hr hlk hM hS ?_ ⟨Nat.le_refl _, Nat.le_refl _⟩ dX6_done_116
        have hs : stp S c0 = (0, w_wr S (wAll S j)) := by unfold stp; rw [if_neg (by rw [c29]; decide), ha]; simp only [hoj]
        exact ⟨by rw [hs], by rw [hs]; exact hR2⟩
      · refine lv_tableIn (off := 58) (tgt := 117) hx hb dX6_done_59 (by rw [ha]; decide) (by rw [ha]; decide) (by rw [ha]; rfl) (by decide) ?_
        obtain ⟨j, hoj⟩ := oI_some c37
        have hj := hso j hoj
        have hgj : gA (s_kd S j) (s_cu S c0).2.2.1 = true := by rw [hoj] at c29; exact c29
        rw [hoj] at hl
        have hl : lv_has ls 5 [(4, .int (nI (s_cu S c0).2.2.1)), (3, .int (nI j)), (2, .int (nI (s_cu S c0).2.1)), (0, .ref (q 0)), (1, .int (nI c0))] := hl
        refine lv_aload_n hx hb dX6_done_117 rfl (lv_at hl 3 rfl) ?_
        refine lv_iload_n hx hb dX6_done_118 rfl (lv_at hl 1 rfl) ?_
        refine lv_aload_n hx hb dX6_done_119 rfl (lv_at hl 3 rfl) ?_
        refine zm_get hx hb hts hown hE hM hZ.2.1 fl_X6_42_5 rfl dX6_done_120 ?_
        refine lv_iload_n hx hb dX6_done_123 rfl (lv_at hl 4 rfl) ?_
        refine zm_iald hx hb hE hM (hZ.ar 10) (vp_in_nI (show c0 < 30 by omega) (by decide)) dX6_done_124 ?_
        refine zt_eq (v' := .int (nI (s_cu S c0).2.2.2)) (by rw [nI_clamp (by omega)]; exact congrArg Value.int ((hAb.2.2.2.2 c0 hc0).2.2.2)) ?_
        have k6 : 8 ≤ (s_cu S c0).2.2.1 ∧ (s_cu S c0).2.2.1 ≤ 15 := by rw [ha] at k5; simpa [hasV] using k5
        refine zm_callV (As := [.int (nI j), .int (nI (s_cu S c0).2.2.2)]) (rest := []) hx hb hml hts hown hE hA hM hS hZ.2.1 rfl (c_X6_take l G A q S _ j hj (s_cu S c0).2.2.2 k4 (gA_row _ (hI.2.2.1 j hj).1 _ k6.1 k6.2 hgj) hI ⟨f, g, hZ, hAb⟩) cd_X6_take ml_X6_123 rfl rfl hl.1 (Nat.le_of_ble_eq_true rfl) ⟨Nat.le_of_ble_eq_true rfl, Nat.le_of_ble_eq_true rfl⟩ ⟨Nat.le_of_ble_eq_true rfl, Nat.le_of_ble_eq_true rfl⟩ dX6_done_125 ?_
        rintro r M1 H locs (⟨hi, rfl, hR2⟩ | ⟨hi, rfl, hR2⟩) hM hS
        · refine W.eq (g2 := F0 m 128 ls [.int 0]) rfl ?_
          refine zm_iret hx hb hr hlk hM hS ?_ ⟨Nat.le_refl _, Nat.le_refl _⟩ dX6_done_128
          have hs : stp S c0 = (0, w_th (w_hd S (s_th S j (s_cu S c0).2.2.2)) (up2 (s_th S) j (s_cu S c0).2.2.2 none)) := by unfold stp; rw [if_neg (by rw [c29]; decide), ha]; simp only [hoj, if_pos hi]
          exact ⟨by rw [hs], by rw [hs]; exact hR2⟩
        · refine W.eq (g2 := F0 m 128 ls [.int (-6)]) rfl ?_
          refine zm_iret hx hb hr hlk hM hS ?_ ⟨Nat.le_refl _, Nat.le_refl _⟩ dX6_done_128
          have hs : stp S c0 = (-6, S) := by unfold stp; rw [if_neg (by rw [c29]; decide), ha]; simp only [hoj, if_neg hi]
          exact ⟨by rw [hs], by rw [hs]; exact hR2⟩
      · refine lv_tableIn (off := 70) (tgt := 129) hx hb dX6_done_59 (by rw [ha]; decide) (by rw [ha]; decide) (by rw [ha]; rfl) (by decide) ?_
        refine lv_aload_n hx hb dX6_done_129 rfl (lv_at hl 3 rfl) ?_
        refine lv_iload_n hx hb dX6_done_130 rfl (lv_at hl 1 rfl) ?_
        refine lv_iload hx hb dX6_done_131 (lv_at hl 0 rfl) ?_
        refine lv_aload_n hx hb dX6_done_133 rfl (lv_at hl 3 rfl) ?_
        refine zm_get hx hb hts hown hE hM hZ.2.1 fl_X6_42_5 rfl dX6_done_134 ?_
        refine lv_iload_n hx hb dX6_done_137 rfl (lv_at hl 4 rfl) ?_
        refine zm_iald hx hb hE hM (hZ.ar 10) (vp_in_nI (show c0 < 30 by omega) (by decide)) dX6_done_138 ?_
        refine zt_eq (v' := .int (nI (s_cu S c0).2.2.2)) (by rw [nI_clamp (by omega)]; exact congrArg Value.int ((hAb.2.2.2.2 c0 hc0).2.2.2)) ?_
        have k6 : 8 ≤ (s_cu S c0).2.2.1 ∧ (s_cu S c0).2.2.1 ≤ 15 := by rw [ha] at k5; simpa [hasV] using k5
        refine zm_callV (As := [.int (oI (s_sl S (s_cu S c0).2.1)), .int (nI (s_cu S c0).2.2.1), .int (nI (s_cu S c0).2.2.2)]) (rest := []) hx hb hml hts hown hE hA hM hS hZ.2.1 rfl (c_X6_lay l G A q S _ (s_sl S (s_cu S c0).2.1) (s_cu S c0).2.2.1 (s_cu S c0).2.2.2 hso (fun j hj => gA_row _ (hI.2.2.1 j (hso j hj)).1 _ k6.1 k6.2 (by rw [hj] at c29; exact c29)) k6.1 k6.2 k4 hI ⟨f, g, hZ, hAb⟩) cd_X6_lay ml_X6_127 rfl rfl hl.1 (Nat.le_of_ble_eq_true rfl) ⟨Nat.le_of_ble_eq_true rfl, Nat.le_of_ble_eq_true rfl⟩ ⟨Nat.le_of_ble_eq_true rfl, Nat.le_of_ble_eq_true rfl⟩ dX6_done_139 ?_
        rintro r M1 H locs (⟨hg, rfl, hR2⟩ | ⟨hg, ⟨ho, rfl, hR2⟩ | ⟨j, ho, ⟨hi, rfl, hR2⟩ | ⟨hi, ⟨hq, rfl, hR2⟩ | ⟨hq, rfl, hR2⟩⟩⟩⟩) hM hS
        · refine W.eq (g2 := F0 m 142 ls [.int (-5)]) rfl ?_
          refine zm_iret hx hb hr hlk hM hS ?_ ⟨Nat.le_refl _, Nat.le_refl _⟩ dX6_done_142
          have hs : stp S c0 = (-5, S) := by unfold stp; rw [if_neg (by rw [c29]; decide), ha]; simp only [if_pos hg]
          exact ⟨by rw [hs], by rw [hs]; exact hR2⟩
        · refine W.eq (g2 := F0 m 142 ls [.int (-4)]) rfl ?_
          refine zm_iret hx hb hr hlk hM hS ?_ ⟨Nat.le_refl _, Nat.le_refl _⟩ dX6_done_142
          have hs : stp S c0 = (-4, S) := by unfold stp; rw [if_neg (by rw [c29]; decide), ha]; simp only [if_neg (show ¬ goS S (s_hd S) (inn (s_cu S c0).2.2.1) = false by rw [hg]; decide), ho]
          exact ⟨by rw [hs], by rw [hs]; exact hR2⟩
        · refine W.eq (g2 := F0 m 142 ls [.int (-6)]) rfl ?_
          refine zm_iret hx hb hr hlk hM hS ?_ ⟨Nat.le_refl _, Nat.le_refl _⟩ dX6_done_142
          have hs : stp S c0 = (-6, S) := by unfold stp; rw [if_neg (by rw [c29]; decide), ha]; simp only [if_neg (show ¬ goS S (s_hd S) (inn (s_cu S c0).2.2.1) = false by rw [hg]; decide), ho, if_neg hi]
          exact ⟨by rw [hs], by rw [hs]; exact hR2⟩
        · refine W.eq (g2 := F0 m 142 ls [.int (-7)]) rfl ?_
          refine zm_iret hx hb hr hlk hM hS ?_ ⟨Nat.le_refl _, Nat.le_refl _⟩ dX6_done_142
          have hs : stp S c0 = (-7, S) := by unfold stp; rw [if_neg (by rw [c29]; decide), ha]; simp only [if_neg (show ¬ goS S (s_hd S) (inn (s_cu S c0).2.2.1) = false by rw [hg]; decide), ho, if_pos hi, if_pos hq]
          exact ⟨by rw [hs], by rw [hs]; exact hR2⟩
        · refine W.eq (g2 := F0 m 142 ls [.int 0]) rfl ?_
          refine zm_iret hx hb hr hlk hM hS ?_ ⟨Nat.le_refl _, Nat.le_refl _⟩ dX6_done_142
          have hs : stp S c0 = (0, w_th (w_hd S none) (up2 (s_th S) j (s_cu S c0).2.2.2 (s_hd S))) := by unfold stp; rw [if_neg (by rw [c29]; decide), ha]; simp only [if_neg (show ¬ goS S (s_hd S) (inn (s_cu S c0).2.2.1) = false by rw [hg]; decide), ho, if_pos hi, if_neg (show ¬ goS S (s_hd S) (inn (s_kd S j)) = false by rw [hq]; decide)]
          exact ⟨by rw [hs], by rw [hs]; exact hR2⟩
      · refine lv_tableIn (off := 84) (tgt := 143) hx hb dX6_done_59 (by rw [ha]; decide) (by rw [ha]; decide) (by rw [ha]; rfl) (by decide) ?_
        refine lv_aload_n hx hb dX6_done_143 rfl (lv_at hl 3 rfl) ?_
        refine zm_get hx hb hts hown hE hM hZ.2.1 fl_X6_26_5 rfl dX6_done_144 ?_
        refine lv_iload_n hx hb dX6_done_147 rfl (lv_at hl 2 rfl) ?_
        refine lv_aload_n hx hb dX6_done_148 rfl (lv_at hl 3 rfl) ?_
        refine zm_get hx hb hts hown hE hM hZ.2.1 fl_X6_29_5 rfl dX6_done_149 ?_
        refine zm_iast hx hb hE hM hS (hZ.ar 6) (vp_in_nI (show (s_cu S c0).2.1 < 10 from k2) (by decide)) dX6_done_152 (fun H locs hM hS => ?_)
        rw [nI_clamp (by omega)] at hM
        have hZ1 := hZ.arr 6 (upd (f 6) (s_cu S c0).2.1 (oI (s_hd S)))
        refine lv_aload_n hx hb dX6_done_153 rfl (lv_at hl 3 rfl) ?_
        refine lv_iload_n hx hb dX6_done_154 rfl (lv_at hl 1 rfl) ?_
        refine zm_put hx hb hts hown hE hM hS hZ1.2.1 fp_X6_29_5 rfl rfl (Nat.le_of_ble_eq_true rfl) dX6_done_155 (fun H locs hM hS => ?_)
        have hR2 : RepR G q (w_hd (w_sl S (va_up (s_sl S) (s_cu S c0).2.1 (s_hd S))) (s_sl S (s_cu S c0).2.1)) _ := ⟨_, _, hZ1.fld (objR q (w_hd (w_sl S (va_up (s_sl S) (s_cu S c0).2.1 (s_hd S))) (s_sl S (s_cu S c0).2.1))), abs_sl hAb (s_cu S c0).2.1 (s_hd S)⟩
        refine lv_iconst (v := 0) hx hb dX6_done_158 (by decide) ?_
        refine zm_iret hx hb hr hlk hM hS ?_ ⟨Nat.le_refl _, Nat.le_refl _⟩ dX6_done_159
        have hs : stp S c0 = (0, w_hd (w_sl S (va_up (s_sl S) (s_cu S c0).2.1 (s_hd S))) (s_sl S (s_cu S c0).2.1)) := by unfold stp; rw [if_neg (by rw [c29]; decide), ha]; rfl
        exact ⟨by rw [hs], by rw [hs]; exact hR2⟩
      · refine lv_tableOut (tgt := 160) hx hb dX6_done_59 (by rw [ha]; decide) (by decide) ?_
        refine lv_aload_n hx hb dX6_done_160 rfl (lv_at hl 3 rfl) ?_
        refine zm_get hx hb hts hown hE hM hZ.2.1 fl_X6_26_5 rfl dX6_done_161 ?_
        refine lv_aload_n hx hb dX6_done_164 rfl (lv_at hl 3 rfl) ?_
        refine zm_get hx hb hts hown hE hM hZ.2.1 fl_X6_42_5 rfl dX6_done_165 ?_
        refine lv_iload_n hx hb dX6_done_168 rfl (lv_at hl 4 rfl) ?_
        refine zm_iald hx hb hE hM (hZ.ar 10) (vp_in_nI (show c0 < 30 by omega) (by decide)) dX6_done_169 ?_
        refine zt_eq (v' := .int (nI (s_cu S c0).2.2.2)) (by rw [nI_clamp (by omega)]; exact congrArg Value.int ((hAb.2.2.2.2 c0 hc0).2.2.2)) ?_
        refine lv_iload_n hx hb dX6_done_170 rfl (lv_at hl 1 rfl) ?_
        refine zm_iast hx hb hE hM hS (hZ.ar 6) (vp_in_nI (show (s_cu S c0).2.2.2 < 10 from k4) (by decide)) dX6_done_171 (fun H locs hM hS => ?_)
        rw [nI_clamp (by omega)] at hM
        have hR2 : RepR G q (w_sl S (va_up (s_sl S) (s_cu S c0).2.2.2 (s_sl S (s_cu S c0).2.1))) _ := ⟨_, _, hZ.arr 6 _, abs_sl hAb (s_cu S c0).2.2.2 (s_sl S (s_cu S c0).2.1)⟩
        refine lv_iconst (v := 0) hx hb dX6_done_172 (by decide) ?_
        refine zm_iret hx hb hr hlk hM hS ?_ ⟨Nat.le_refl _, Nat.le_refl _⟩ dX6_done_173
        have hs : stp S c0 = (0, w_sl S (va_up (s_sl S) (s_cu S c0).2.2.2 (s_sl S (s_cu S c0).2.1))) := by unfold stp; rw [if_neg (by rw [c29]; decide), ha]; rfl
        exact ⟨by rw [hs], by rw [hs]; exact hR2⟩
    · refine lv_aload_n hx hb dX6_done_40 rfl (lv_at hl 3 rfl) ?_
      refine zm_get hx hb hts hown hE hM hZ.2.1 fl_X6_33_5 rfl dX6_done_41 ?_
      refine lv_iload_n hx hb dX6_done_44 rfl (lv_at hl 4 rfl) ?_
      refine zm_iald hx hb hE hM (hZ.ar 7) (vp_in_nI (show c0 < 30 by omega) (by decide)) dX6_done_45 ?_
      refine zt_eq (v' := .int (nI (s_cu S c0).1)) (by rw [nI_clamp (by omega)]; exact congrArg Value.int ((hAb.2.2.2.2 c0 hc0).1)) ?_
      refine lv_iconst (v := 3) hx hb dX6_done_46 (by decide) ?_
      refine lv_icmp_ge (tgt := 53) hx hb dX6_done_47 (by decide) (fun c47 => ?_) (fun c47 => ?_)
      · refine lv_aload_n hx hb dX6_done_53 rfl (lv_at hl 3 rfl) ?_
        refine zm_get hx hb hts hown hE hM hZ.2.1 fl_X6_33_5 rfl dX6_done_54 ?_
        refine lv_iload_n hx hb dX6_done_57 rfl (lv_at hl 4 rfl) ?_
        refine zm_iald hx hb hE hM (hZ.ar 7) (vp_in_nI (show c0 < 30 by omega) (by decide)) dX6_done_58 ?_
        refine zt_eq (v' := .int (nI (s_cu S c0).1)) (by rw [nI_clamp (by omega)]; exact congrArg Value.int ((hAb.2.2.2.2 c0 hc0).1)) ?_
        rcases (show (s_cu S c0).1 = 0 ∨ (s_cu S c0).1 = 1 ∨ (s_cu S c0).1 = 2 ∨ (s_cu S c0).1 = 3 ∨ (s_cu S c0).1 = 4 ∨ (s_cu S c0).1 = 5 by omega) with ha | ha | ha | ha | ha | ha
        · rw [ha] at c47; exact absurd c47 (by decide)
        · rw [ha] at c47; exact absurd c47 (by decide)
        · rw [ha] at c47; exact absurd c47 (by decide)
        · refine lv_tableIn (off := 70) (tgt := 129) hx hb dX6_done_59 (by rw [ha]; decide) (by rw [ha]; decide) (by rw [ha]; rfl) (by decide) ?_
          refine lv_aload_n hx hb dX6_done_129 rfl (lv_at hl 3 rfl) ?_
          refine lv_iload_n hx hb dX6_done_130 rfl (lv_at hl 1 rfl) ?_
          refine lv_iload hx hb dX6_done_131 (lv_at hl 0 rfl) ?_
          refine lv_aload_n hx hb dX6_done_133 rfl (lv_at hl 3 rfl) ?_
          refine zm_get hx hb hts hown hE hM hZ.2.1 fl_X6_42_5 rfl dX6_done_134 ?_
          refine lv_iload_n hx hb dX6_done_137 rfl (lv_at hl 4 rfl) ?_
          refine zm_iald hx hb hE hM (hZ.ar 10) (vp_in_nI (show c0 < 30 by omega) (by decide)) dX6_done_138 ?_
          refine zt_eq (v' := .int (nI (s_cu S c0).2.2.2)) (by rw [nI_clamp (by omega)]; exact congrArg Value.int ((hAb.2.2.2.2 c0 hc0).2.2.2)) ?_
          have k6 : 8 ≤ (s_cu S c0).2.2.1 ∧ (s_cu S c0).2.2.1 ≤ 15 := by rw [ha] at k5; simpa [hasV] using k5
          refine zm_callV (As := [.int (oI (s_sl S (s_cu S c0).2.1)), .int (nI (s_cu S c0).2.2.1), .int (nI (s_cu S c0).2.2.2)]) (rest := []) hx hb hml hts hown hE hA hM hS hZ.2.1 rfl (c_X6_lay l G A q S _ (s_sl S (s_cu S c0).2.1) (s_cu S c0).2.2.1 (s_cu S c0).2.2.2 hso (fun j hj => gA_row _ (hI.2.2.1 j (hso j hj)).1 _ k6.1 k6.2 (by rw [hj] at c29; exact c29)) k6.1 k6.2 k4 hI ⟨f, g, hZ, hAb⟩) cd_X6_lay ml_X6_127 rfl rfl hl.1 (Nat.le_of_ble_eq_true rfl) ⟨Nat.le_of_ble_eq_true rfl, Nat.le_of_ble_eq_true rfl⟩ ⟨Nat.le_of_ble_eq_true rfl, Nat.le_of_ble_eq_true rfl⟩ dX6_done_139 ?_
          rintro r M1 H locs (⟨hg, rfl, hR2⟩ | ⟨hg, ⟨ho, rfl, hR2⟩ | ⟨j, ho, ⟨hi, rfl, hR2⟩ | ⟨hi, ⟨hq, rfl, hR2⟩ | ⟨hq, rfl, hR2⟩⟩⟩⟩) hM hS
          · refine W.eq (g2 := F0 m 142 ls [.int (-5)]) rfl ?_
            refine zm_iret hx hb hr hlk hM hS ?_ ⟨Nat.le_refl _, Nat.le_refl _⟩ dX6_done_142
            have hs : stp S c0 = (-5, S) := by unfold stp; rw [if_neg (by rw [c29]; decide), ha]; simp only [if_pos hg]
            exact ⟨by rw [hs], by rw [hs]; exact hR2⟩
          · refine W.eq (g2 := F0 m 142 ls [.int (-4)]) rfl ?_
            refine zm_iret hx hb hr hlk hM hS ?_ ⟨Nat.le_refl _, Nat.le_refl _⟩ dX6_done_142
            have hs : stp S c0 = (-4, S) := by unfold stp; rw [if_neg (by rw [c29]; decide), ha]; simp only [if_neg (show ¬ goS S (s_hd S) (inn (s_cu S c0).2.2.1) = false by rw [hg]; decide), ho]
            exact ⟨by rw [hs], by rw [hs]; exact hR2⟩
          · refine W.eq (g2 := F0 m 142 ls [.int (-6)]) rfl ?_
            refine zm_iret hx hb hr hlk hM hS ?_ ⟨Nat.le_refl _, Nat.le_refl _⟩ dX6_done_142
            have hs : stp S c0 = (-6, S) := by unfold stp; rw [if_neg (by rw [c29]; decide), ha]; simp only [if_neg (show ¬ goS S (s_hd S) (inn (s_cu S c0).2.2.1) = false by rw [hg]; decide), ho, if_neg hi]
            exact ⟨by rw [hs], by rw [hs]; exact hR2⟩
          · refine W.eq (g2 := F0 m 142 ls [.int (-7)]) rfl ?_
            refine zm_iret hx hb hr hlk hM hS ?_ ⟨Nat.le_refl _, Nat.le_refl _⟩ dX6_done_142
            have hs : stp S c0 = (-7, S) := by unfold stp; rw [if_neg (by rw [c29]; decide), ha]; simp only [if_neg (show ¬ goS S (s_hd S) (inn (s_cu S c0).2.2.1) = false by rw [hg]; decide), ho, if_pos hi, if_pos hq]
            exact ⟨by rw [hs], by rw [hs]; exact hR2⟩
          · refine W.eq (g2 := F0 m 142 ls [.int 0]) rfl ?_
            refine zm_iret hx hb hr hlk hM hS ?_ ⟨Nat.le_refl _, Nat.le_refl _⟩ dX6_done_142
            have hs : stp S c0 = (0, w_th (w_hd S none) (up2 (s_th S) j (s_cu S c0).2.2.2 (s_hd S))) := by unfold stp; rw [if_neg (by rw [c29]; decide), ha]; simp only [if_neg (show ¬ goS S (s_hd S) (inn (s_cu S c0).2.2.1) = false by rw [hg]; decide), ho, if_pos hi, if_neg (show ¬ goS S (s_hd S) (inn (s_kd S j)) = false by rw [hq]; decide)]
            exact ⟨by rw [hs], by rw [hs]; exact hR2⟩
        · refine lv_tableIn (off := 84) (tgt := 143) hx hb dX6_done_59 (by rw [ha]; decide) (by rw [ha]; decide) (by rw [ha]; rfl) (by decide) ?_
          refine lv_aload_n hx hb dX6_done_143 rfl (lv_at hl 3 rfl) ?_
          refine zm_get hx hb hts hown hE hM hZ.2.1 fl_X6_26_5 rfl dX6_done_144 ?_
          refine lv_iload_n hx hb dX6_done_147 rfl (lv_at hl 2 rfl) ?_
          refine lv_aload_n hx hb dX6_done_148 rfl (lv_at hl 3 rfl) ?_
          refine zm_get hx hb hts hown hE hM hZ.2.1 fl_X6_29_5 rfl dX6_done_149 ?_
          refine zm_iast hx hb hE hM hS (hZ.ar 6) (vp_in_nI (show (s_cu S c0).2.1 < 10 from k2) (by decide)) dX6_done_152 (fun H locs hM hS => ?_)
          rw [nI_clamp (by omega)] at hM
          have hZ1 := hZ.arr 6 (upd (f 6) (s_cu S c0).2.1 (oI (s_hd S)))
          refine lv_aload_n hx hb dX6_done_153 rfl (lv_at hl 3 rfl) ?_
          refine lv_iload_n hx hb dX6_done_154 rfl (lv_at hl 1 rfl) ?_
          refine zm_put hx hb hts hown hE hM hS hZ1.2.1 fp_X6_29_5 rfl rfl (Nat.le_of_ble_eq_true rfl) dX6_done_155 (fun H locs hM hS => ?_)
          have hR2 : RepR G q (w_hd (w_sl S (va_up (s_sl S) (s_cu S c0).2.1 (s_hd S))) (s_sl S (s_cu S c0).2.1)) _ := ⟨_, _, hZ1.fld (objR q (w_hd (w_sl S (va_up (s_sl S) (s_cu S c0).2.1 (s_hd S))) (s_sl S (s_cu S c0).2.1))), abs_sl hAb (s_cu S c0).2.1 (s_hd S)⟩
          refine lv_iconst (v := 0) hx hb dX6_done_158 (by decide) ?_
          refine zm_iret hx hb hr hlk hM hS ?_ ⟨Nat.le_refl _, Nat.le_refl _⟩ dX6_done_159
          have hs : stp S c0 = (0, w_hd (w_sl S (va_up (s_sl S) (s_cu S c0).2.1 (s_hd S))) (s_sl S (s_cu S c0).2.1)) := by unfold stp; rw [if_neg (by rw [c29]; decide), ha]; rfl
          exact ⟨by rw [hs], by rw [hs]; exact hR2⟩
        · refine lv_tableOut (tgt := 160) hx hb dX6_done_59 (by rw [ha]; decide) (by decide) ?_
          refine lv_aload_n hx hb dX6_done_160 rfl (lv_at hl 3 rfl) ?_
          refine zm_get hx hb hts hown hE hM hZ.2.1 fl_X6_26_5 rfl dX6_done_161 ?_
          refine lv_aload_n hx hb dX6_done_164 rfl (lv_at hl 3 rfl) ?_
          refine zm_get hx hb hts hown hE hM hZ.2.1 fl_X6_42_5 rfl dX6_done_165 ?_
          refine lv_iload_n hx hb dX6_done_168 rfl (lv_at hl 4 rfl) ?_
          refine zm_iald hx hb hE hM (hZ.ar 10) (vp_in_nI (show c0 < 30 by omega) (by decide)) dX6_done_169 ?_
          refine zt_eq (v' := .int (nI (s_cu S c0).2.2.2)) (by rw [nI_clamp (by omega)]; exact congrArg Value.int ((hAb.2.2.2.2 c0 hc0).2.2.2)) ?_
          refine lv_iload_n hx hb dX6_done_170 rfl (lv_at hl 1 rfl) ?_
          refine zm_iast hx hb hE hM hS (hZ.ar 6) (vp_in_nI (show (s_cu S c0).2.2.2 < 10 from k4) (by decide)) dX6_done_171 (fun H locs hM hS => ?_)
          rw [nI_clamp (by omega)] at hM
          have hR2 : RepR G q (w_sl S (va_up (s_sl S) (s_cu S c0).2.2.2 (s_sl S (s_cu S c0).2.1))) _ := ⟨_, _, hZ.arr 6 _, abs_sl hAb (s_cu S c0).2.2.2 (s_sl S (s_cu S c0).2.1)⟩
          refine lv_iconst (v := 0) hx hb dX6_done_172 (by decide) ?_
          refine zm_iret hx hb hr hlk hM hS ?_ ⟨Nat.le_refl _, Nat.le_refl _⟩ dX6_done_173
          have hs : stp S c0 = (0, w_sl S (va_up (s_sl S) (s_cu S c0).2.2.2 (s_sl S (s_cu S c0).2.1))) := by unfold stp; rw [if_neg (by rw [c29]; decide), ha]; rfl
          exact ⟨by rw [hs], by rw [hs]; exact hR2⟩
      · refine lv_bipush (v := (-4)) hx hb dX6_done_50 (by decide) ?_
        refine zm_iret hx hb hr hlk hM hS ?_ ⟨Nat.le_refl _, Nat.le_refl _⟩ dX6_done_52
        have ho : s_sl S (s_cu S c0).2.1 = none := (oI_m1 (fun j hj => by have := hso j hj; omega)).mp c37
        have hs : stp S c0 = (-4, S) := by
          rw [show (3 : Int32) = nI 3 from rfl, nI_leI (by omega) (by omega)] at c47
          rcases (show (s_cu S c0).1 = 0 ∨ (s_cu S c0).1 = 1 ∨ (s_cu S c0).1 = 2 by omega) with ha | ha | ha <;> (unfold stp; rw [if_neg (by rw [c29]; decide), ha]; simp only [ho])
        exact ⟨by rw [hs], by rw [hs]; exact ⟨f, g, hZ, hAb⟩⟩
  · rw [bI_0] at c29
    refine lv_bipush (v := (-5)) hx hb dX6_done_32 (by decide) ?_
    refine zm_iret hx hb hr hlk hM hS ?_ ⟨Nat.le_refl _, Nat.le_refl _⟩ dX6_done_34
    exact ⟨by rw [stp_cast c29], by rw [stp_cast c29]; exact ⟨f, g, hZ, hAb⟩⟩
theorem stp_wy (S : zS) (c : Nat) : s_wy (stp S c).2 = s_wy S ∧ s_at (stp S c).2 = s_at S := by
  unfold stp
  repeat (first | exact ⟨rfl, rfl⟩ | split)
theorem play_bad0 {S : zS} {a b : Int32} (h : ix (s_nc S) a = none) : sp_play S a b = (-2, S) := by unfold sp_play; rw [h]
theorem zbt_ti {a b x : Int32} (h : zbt a b x = true) : ¬ x < a ∧ ¬ b < x := by
  unfold zbt at h
  rw [Bool.and_eq_true, decide_eq_true_eq, decide_eq_true_eq] at h
  exact h
theorem zbt_fi {a b x : Int32} (h : zbt a b x = false) : x < a ∨ b < x := by
  by_cases h1 : x < a
  · exact Or.inl h1
  · by_cases h2 : b < x
    · exact Or.inr h2
    · rw [zbt_t h1 h2] at h; cases h
set_option maxRecDepth 100000 in
set_option maxHeartbeats 4000000 in
theorem c_X6_play (l : Launch) (G : zm_G) (A : Nat → Prop) (q : Nat → Nat) (S : zS) (M : zm_M) (a b : Int32) (hI : zInv S) (hR : RepR G q S M) : Met l yX6_play (zm_W yX6_play cX6_play 5 (some .int)) (zm_rm 4 0 0) (zm_Pc G [.ref (q 0), .int a, .int b] A M) (zm_Q G (fun r M' => r = some (.int (sp_play S a b).1) ∧ RepR G q (sp_play S a b).2 M') A) 0 0 A := by
  refine zm_start (by decide) (Nat.le_of_ble_eq_true rfl) ?_
  intro p e s m below meth c hx hb hml hr hts hown hlk hnm hE hA ls hl hM hS
  have hl : lv_has ls 5 [(0, .ref (q 0)), (1, .int a), (2, .int b)] := hl
  obtain ⟨f, g, hZ, hAb⟩ := hR
  have hnp := hI.1
  have hncc := hI.2.1
  refine lv_iload_n hx hb dX6_play_0 rfl (lv_at hl 1 rfl) ?_
  refine lv_iconst (v := 0) hx hb dX6_play_1 (by decide) ?_
  refine lv_aload_n hx hb dX6_play_2 rfl (lv_at hl 0 rfl) ?_
  refine zm_get hx hb hts hown hE hM hZ.2.1 fl_X6_83_5 rfl dX6_play_3 ?_
  refine lv_iconst (v := 1) hx hb dX6_play_6 (by decide) ?_
  refine lv_isub hx hb dX6_play_7 ?_
  refine zm_callS (As := [.int a, .int 0, .int ((nI (s_nc S)) - 1)]) (rest := []) hx hb hml hts hown hE hA hM hS (c_X6_isIn l G A _ a 0 ((nI (s_nc S)) - 1)) cd_X6_isIn ml_X6_51 rfl rfl hl.1 (Nat.le_of_ble_eq_true rfl) ⟨Nat.le_of_ble_eq_true rfl, Nat.le_of_ble_eq_true rfl⟩ ⟨Nat.le_of_ble_eq_true rfl, Nat.le_of_ble_eq_true rfl⟩ dX6_play_8 ?_
  rintro r M1 H locs ⟨rfl, e1⟩ hM hS
  rw [e1] at hM
  clear e1 M1
  refine W.eq (g2 := F0 m 11 ls [.int (bI (zbt 0 ((nI (s_nc S)) - 1) a))]) rfl ?_
  refine lv_if_eq (tgt := 28) hx hb dX6_play_11 (by decide) (fun c11 => ?_) (fun c11 => ?_)
  · rw [zbt_np (by omega), bI_0] at c11
    have hia := isS_f c11
    refine lv_bipush (v := (-2)) hx hb dX6_play_28 (by decide) ?_
    refine zm_iret hx hb hr hlk hM hS ?_ ⟨Nat.le_refl _, Nat.le_refl _⟩ dX6_play_30
    have hs : sp_play S a b = (-2, S) := by first | exact play_bad0 hia | exact play_bad hI ((zbt_fi c25).elim (fun z => Or.inr (Or.inl z)) (fun z => Or.inr (Or.inr ((lt_pred (pred_toInt (by omega))).mp z))))
    exact ⟨by rw [hs], by rw [hs]; exact ⟨f, g, hZ, hAb⟩⟩
  · rw [zbt_np (by omega), bI_n] at c11
    obtain ⟨x0, hia0⟩ := isS_t c11
    have ha0 : ¬ a < 0 := fun z => by rw [ix_lt z] at hia0; cases hia0
    refine lv_iload_n hx hb dX6_play_14 rfl (lv_at hl 2 rfl) ?_
    refine lv_iload_n hx hb dX6_play_15 rfl (lv_at hl 1 rfl) ?_
    refine lv_aload_n hx hb dX6_play_16 rfl (lv_at hl 0 rfl) ?_
    refine zm_get hx hb hts hown hE hM hZ.2.1 fl_X6_83_5 rfl dX6_play_17 ?_
    refine lv_iconst (v := 1) hx hb dX6_play_20 (by decide) ?_
    refine lv_isub hx hb dX6_play_21 ?_
    refine zm_callS (As := [.int b, .int a, .int ((nI (s_nc S)) - 1)]) (rest := []) hx hb hml hts hown hE hA hM hS (c_X6_isIn l G A _ b a ((nI (s_nc S)) - 1)) cd_X6_isIn ml_X6_51 rfl rfl hl.1 (Nat.le_of_ble_eq_true rfl) ⟨Nat.le_of_ble_eq_true rfl, Nat.le_of_ble_eq_true rfl⟩ ⟨Nat.le_of_ble_eq_true rfl, Nat.le_of_ble_eq_true rfl⟩ dX6_play_22 ?_
    rintro r M1 H locs ⟨rfl, e1⟩ hM hS
    rw [e1] at hM
    clear e1 M1
    refine W.eq (g2 := F0 m 25 ls [.int (bI (zbt a ((nI (s_nc S)) - 1) b))]) rfl ?_
    refine lv_if_ne (tgt := 31) hx hb dX6_play_25 (by decide) (fun c25 => ?_) (fun c25 => ?_)
    · rw [bI_n] at c25
      obtain ⟨d1, d2⟩ := zbt_ti c25
      obtain ⟨x, y, rfl, rfl, hxy, hy, hs⟩ := play_ok hI ha0 d1 (by rw [← Int32.not_le]; exact (le_pred (pred_toInt (by omega))).mp d2)
      refine lv_aload_n hx hb dX6_play_31 rfl (lv_at hl 0 rfl) ?_
      refine lv_iconst (v := 0) hx hb dX6_play_32 (by decide) ?_
      refine zm_put hx hb hts hown hE hM hS hZ.2.1 fp_X6_131_5 rfl rfl (Nat.le_of_ble_eq_true rfl) dX6_play_33 (fun H locs hM hS => ?_)
      have hZ1 := hZ.fld (objR q (w_ms S 0 (s_at S) (s_of S)))
      refine lv_aload_n hx hb dX6_play_36 rfl (lv_at hl 0 rfl) ?_
      refine lv_iconst (v := (-1)) hx hb dX6_play_37 (by decide) ?_
      refine zm_put hx hb hts hown hE hM hS hZ1.2.1 fp_X6_45_5 rfl rfl (Nat.le_of_ble_eq_true rfl) dX6_play_38 (fun H locs hM hS => ?_)
      have hZ2 := hZ1.fld (objR q (w_ms S 0 (-1) (s_of S)))
      refine lv_iconst (v := 0) hx hb dX6_play_41 (by decide) ?_
      refine lv_istore_n (lv' := [(3, .int 0), (0, .ref (q 0)), (1, .int (nI x)), (2, .int (nI y))]) hx hb dX6_play_42 rfl hl (by decide) rfl (fun ls hl => ?_)
      refine lv_iload_n hx hb dX6_play_43 rfl (lv_at hl 2 rfl) ?_
      refine lv_istore (lv' := [(4, .int (nI x)), (3, .int 0), (0, .ref (q 0)), (1, .int (nI x)), (2, .int (nI y))]) hx hb dX6_play_44 hl (by decide) rfl (fun ls hl => ?_)
      have loop : ∀ (n k : Nat), x ≤ k → k ≤ y + 1 → y + 2 ≤ k + n → ∀ (ls : Array Slot) (S1 : zS) (M : zm_M) (H : Heap) (locs : List Loc), zInv S1 → s_nc S1 = s_nc S → s_wy S1 = 0 → pls (y + 1 - x) x (w_ms S 0 (-1) (s_of S)) = ((pls (y + 1 - k) k S1).1 + (k - x), (pls (y + 1 - k) k S1).2) → RepR G q S1 M → zm_P G A M H → va_S A s.heap H locs → lv_has ls 5 [(4, .int (nI k)), (3, .int (nI (k - x))), (0, .ref (q 0)), (1, .int (nI x)), (2, .int (nI y))] → W p l e (zm_rm 4 0 0) s m [.ref (q 0), .int (nI x), .int (nI y)].toArray below meth c H locs 0 0 (MQ below (zm_Q G (fun r M' => r = some (.int (sp_play S (nI x) (nI y)).1) ∧ RepR G q (sp_play S (nI x) (nI y)).2 M') A) [.ref (q 0), .int (nI x), .int (nI y)].toArray s 0 0 A) (F0 m 46 ls []) := by
        intro n
        induction n with
        | zero => intro k h0 h1 h2; exact absurd h2 (by omega)
        | succ n ih =>
          intro k hk0 hk1 hk2 ls S1 M H locs hI1 hn1 hw1 hp hR1 hM hS hl
          obtain ⟨f, g, hZ, hAb⟩ := hR1
          refine lv_iload hx hb dX6_play_46 (lv_at hl 0 rfl) ?_
          refine lv_iload_n hx hb dX6_play_48 rfl (lv_at hl 4 rfl) ?_
          refine lv_icmp_gt (tgt := 104) hx hb dX6_play_49 (by decide) (fun c49 => ?_) (fun c49 => ?_)
          · rw [nI_ltI (by omega) (by omega)] at c49
            refine lv_iload_n hx hb dX6_play_104 rfl (lv_at hl 1 rfl) ?_
            refine zm_iret hx hb hr hlk hM hS ?_ ⟨Nat.le_refl _, Nat.le_refl _⟩ dX6_play_105
            rw [show y + 1 - k = 0 by omega] at hp
            rw [hs, hp]
            exact ⟨by show _ = some (Value.int (nI (0 + (k - x)))); rw [Nat.zero_add], f, g, hZ, hAb⟩
          · rw [nI_ltI (by omega) (by omega)] at c49
            refine lv_aload_n hx hb dX6_play_52 rfl (lv_at hl 2 rfl) ?_
            refine zm_get hx hb hts hown hE hM hZ.2.1 fl_X6_131_5 rfl dX6_play_53 ?_
            refine lv_if_ne (tgt := 104) hx hb dX6_play_56 (by decide) (fun c56 => ?_) (fun c56 => ?_)
            · exact absurd hw1 c56
            · refine lv_aload_n hx hb dX6_play_59 rfl (lv_at hl 2 rfl) ?_
              refine lv_aload_n hx hb dX6_play_60 rfl (lv_at hl 2 rfl) ?_
              refine lv_iload hx hb dX6_play_61 (lv_at hl 0 rfl) ?_
              have hkn : k < s_nc S1 := by omega
              refine zm_callV (As := [.int (nI k)]) (rest := [.ref (q 0)]) hx hb hml hts hown hE hA hM hS hZ.2.1 rfl (c_X6_done l G A q S1 _ k hkn hI1 ⟨f, g, hZ, hAb⟩) cd_X6_done ml_X6_134 rfl rfl hl.1 (Nat.le_of_ble_eq_true rfl) ⟨Nat.le_of_ble_eq_true rfl, Nat.le_of_ble_eq_true rfl⟩ ⟨Nat.le_of_ble_eq_true rfl, Nat.le_of_ble_eq_true rfl⟩ dX6_play_63 ?_
              rintro r M1 H locs ⟨rfl, hR2⟩ hM hS
              obtain ⟨f, g, hZ, hAb⟩ := hR2
              refine W.eq (g2 := F0 m 66 ls [.int ((stp S1 k).1), .ref (q 0)]) rfl ?_
              refine zm_put hx hb hts hown hE hM hS hZ.2.1 fp_X6_131_5 rfl rfl (Nat.le_of_ble_eq_true rfl) dX6_play_66 (fun H locs hM hS => ?_)
              have hZ3 := hZ.fld (objR q (w_ms (stp S1 k).2 (stp S1 k).1 (s_at (stp S1 k).2) (s_of (stp S1 k).2)))
              refine lv_aload_n hx hb dX6_play_69 rfl (lv_at hl 2 rfl) ?_
              refine zm_get hx hb hts hown hE hM hZ3.2.1 fl_X6_131_5 rfl dX6_play_70 ?_
              refine lv_if_ne (tgt := 82) hx hb dX6_play_73 (by decide) (fun c73 => ?_) (fun c73 => ?_)
              · have c73 : ¬ (stp S1 k).1 = 0 := c73
                have hS1 := (stp_inv hI1 hkn).2.2.2.2.2 c73
                rw [hS1] at hZ3 hAb hM
                refine lv_aload_n hx hb dX6_play_82 rfl (lv_at hl 2 rfl) ?_
                refine lv_iload hx hb dX6_play_83 (lv_at hl 0 rfl) ?_
                refine zm_put hx hb hts hown hE hM hS hZ3.2.1 fp_X6_45_5 rfl rfl (Nat.le_of_ble_eq_true rfl) dX6_play_85 (fun H locs hM hS => ?_)
                have hZ4 := hZ3.fld (objR q (w_ms S1 (stp S1 k).1 (nI k) (s_of S1)))
                refine lv_aload_n hx hb dX6_play_88 rfl (lv_at hl 2 rfl) ?_
                refine lv_dup hx hb dX6_play_89 rfl ?_
                refine zm_get hx hb hts hown hE hM hZ4.2.1 fl_X6_137_5 rfl dX6_play_90 ?_
                refine lv_iconst (v := 1) hx hb dX6_play_93 (by decide) ?_
                refine lv_iadd hx hb dX6_play_94 ?_
                refine zm_put hx hb hts hown hE hM hS hZ4.2.1 fp_X6_137_5 rfl rfl (Nat.le_of_ble_eq_true rfl) dX6_play_95 (fun H locs hM hS => ?_)
                have hZ5 := hZ4.fld (objR q (w_ms S1 (stp S1 k).1 (nI k) (s_of S1 + 1)))
                refine lv_iinc (v := nI (k + 1)) (lv' := [(4, .int (nI (k + 1))), (3, .int (nI (k - x))), (0, .ref (q 0)), (1, .int (nI x)), (2, .int (nI y))]) hx hb dX6_play_98 hl (k := 0) rfl (nI_1 k) (by decide) rfl (fun ls hl => ?_)
                refine lv_goto (tgt := 46) hx hb dX6_play_101 (by decide) ?_
                refine lv_iload hx hb dX6_play_46 (lv_at hl 0 rfl) ?_
                refine lv_iload_n hx hb dX6_play_48 rfl (lv_at hl 4 rfl) ?_
                refine lv_icmp_gt (tgt := 104) hx hb dX6_play_49 (by decide) (fun c49 => ?_) (fun c49 => ?_)
                · refine lv_iload_n hx hb dX6_play_104 rfl (lv_at hl 1 rfl) ?_
                  refine zm_iret hx hb hr hlk hM hS ?_ ⟨Nat.le_refl _, Nat.le_refl _⟩ dX6_play_105
                  rw [show y + 1 - k = (y - k) + 1 by omega, pls_f c73] at hp
                  rw [hs, hp]
                  exact ⟨by show _ = some (Value.int (nI (0 + (k - x)))); rw [Nat.zero_add], f, g, hZ5, hAb⟩
                · refine lv_aload_n hx hb dX6_play_52 rfl (lv_at hl 2 rfl) ?_
                  refine zm_get hx hb hts hown hE hM hZ5.2.1 fl_X6_131_5 rfl dX6_play_53 ?_
                  refine lv_if_ne (tgt := 104) hx hb dX6_play_56 (by decide) (fun c56 => ?_) (fun c56 => ?_)
                  · refine lv_iload_n hx hb dX6_play_104 rfl (lv_at hl 1 rfl) ?_
                    refine zm_iret hx hb hr hlk hM hS ?_ ⟨Nat.le_refl _, Nat.le_refl _⟩ dX6_play_105
                    rw [show y + 1 - k = (y - k) + 1 by omega, pls_f c73] at hp
                    rw [hs, hp]
                    exact ⟨by show _ = some (Value.int (nI (0 + (k - x)))); rw [Nat.zero_add], f, g, hZ5, hAb⟩
                  · exact absurd c56 c73
              · have c73 : (stp S1 k).1 = 0 := c73
                have h73 : (stp S1 k).1 = s_wy (stp S1 k).2 := c73.trans ((stp_wy S1 k).1.trans hw1).symm
                have e73 : (w_ms (stp S1 k).2 (stp S1 k).1 (s_at (stp S1 k).2) (s_of (stp S1 k).2)) = (stp S1 k).2 := congrArg (fun z => w_ms (stp S1 k).2 z (s_at (stp S1 k).2) (s_of (stp S1 k).2)) h73
                have hh : RepR G q (w_ms (stp S1 k).2 (stp S1 k).1 (s_at (stp S1 k).2) (s_of (stp S1 k).2)) (zm_up M1 (q 0) (.inr (5, objR q (w_ms (stp S1 k).2 (stp S1 k).1 (s_at (stp S1 k).2) (s_of (stp S1 k).2))))) := ⟨_, _, hZ3, hAb⟩
                have hR3 : RepR G q (stp S1 k).2 (zm_up M1 (q 0) (.inr (5, objR q (w_ms (stp S1 k).2 (stp S1 k).1 (s_at (stp S1 k).2) (s_of (stp S1 k).2))))) := Eq.mp (congrArg (fun z => RepR G q z (zm_up M1 (q 0) (.inr (5, objR q (w_ms (stp S1 k).2 (stp S1 k).1 (s_at (stp S1 k).2) (s_of (stp S1 k).2)))))) e73) hh
                refine lv_iinc (v := nI (k + 1 - x)) (lv' := [(3, .int (nI (k + 1 - x))), (4, .int (nI k)), (0, .ref (q 0)), (1, .int (nI x)), (2, .int (nI y))]) hx hb dX6_play_76 hl (k := 1) rfl (by show nI (k - x) + 1 = _; rw [nI_1, show k - x + 1 = k + 1 - x by omega]) (by decide) rfl (fun ls hl => ?_)
                refine lv_goto (tgt := 98) hx hb dX6_play_79 (by decide) ?_
                refine lv_iinc (v := nI (k + 1)) (lv' := [(4, .int (nI (k + 1))), (3, .int (nI (k + 1 - x))), (0, .ref (q 0)), (1, .int (nI x)), (2, .int (nI y))]) hx hb dX6_play_98 hl (k := 1) rfl (nI_1 k) (by decide) rfl (fun ls hl => ?_)
                refine lv_goto (tgt := 46) hx hb dX6_play_101 (by decide) ?_
                exact ih (k + 1) (by omega) (by omega) (by omega) ls _ _ _ _ (stp_inv hI1 hkn).1 ((stp_inv hI1 hkn).2.1.trans hn1) ((stp_wy S1 k).1.trans hw1) (by rw [hp, show y + 1 - k = (y + 1 - (k + 1)) + 1 by omega, pls_s c73]; exact Prod.ext (by show _ + 1 + (k - x) = _ + (k + 1 - x); omega) rfl) hR3 hM hS (lv_sub hl [0, 1, 2, 3, 4] rfl)
      exact loop (y + 2) x (Nat.le_refl _) (by omega) (by omega) ls (w_ms S 0 (-1) (s_of S)) _ _ _ (hI.ms 0 (-1) (s_of S)) rfl rfl (by simp) ⟨f, g, hZ2, hAb⟩ hM hS (by rw [show nI (x - x) = 0 by rw [Nat.sub_self]; rfl]; exact (lv_sub hl [0, 1, 2, 3, 4] rfl))
    · rw [bI_0] at c25
      refine lv_bipush (v := (-2)) hx hb dX6_play_28 (by decide) ?_
      refine zm_iret hx hb hr hlk hM hS ?_ ⟨Nat.le_refl _, Nat.le_refl _⟩ dX6_play_30
      have hs : sp_play S a b = (-2, S) := by first | exact play_bad0 hia | exact play_bad hI ((zbt_fi c25).elim (fun z => Or.inr (Or.inl z)) (fun z => Or.inr (Or.inr ((lt_pred (pred_toInt (by omega))).mp z))))
      exact ⟨by rw [hs], by rw [hs]; exact ⟨f, g, hZ, hAb⟩⟩
end
section
theorem abs_add {S : zS} {f : Nat → Nat → Int32} {g g2 : Nat → Int64} {u : Nat → Int32} {kk nn : Nat} (h : zAbs S f g) (hg1 : ∀ m, m < 15 * s_np S → g2 m = g m) (hg2 : ∀ i, i < 15 → g2 (15 * s_np S + i) = 0) (hu1 : ∀ m, m < 5 * s_np S → u m = f 5 m) (hu2 : ∀ i, i < 5 → u (5 * s_np S + i) = -1) : zAbs (addS S kk nn) (va_up (va_up (va_up (va_up f 1 (upd (f 1) (s_np S) (nI kk))) 2 (upd (f 2) (s_np S) (nI nn))) 3 (upd (f 3) (s_np S) 0)) 5 u) g2 := by
  obtain ⟨h1, h2, h3, h4, h5⟩ := h
  refine ⟨fun j hj => ?_, fun j i hj hi => ?_, fun j i hj hi => ?_, h4, h5⟩
  · have hj : j < s_np S + 1 := hj
    show upd (f 1) (s_np S) (nI kk) j = nI (va_up (s_kd S) (s_np S) kk j) ∧ upd (f 2) (s_np S) (nI nn) j = nI (va_up (s_sz S) (s_np S) nn j) ∧ upd (f 3) (s_np S) 0 j = upd (s_wr S) (s_np S) 0 j
    by_cases e : j = s_np S
    · subst e; rw [pk_us, pk_us, pk_us, pk_us, va_up_self, va_up_self]; exact ⟨rfl, rfl, rfl⟩
    · rw [pk_un e, pk_un e, pk_un e, pk_un e, va_up_ne _ _ e, va_up_ne _ _ e]; exact h1 j (by omega)
  · have hj : j < s_np S + 1 := hj
    show g2 (15 * j + i) = va_up (s_nu S) (s_np S) (fun _ => 0) j i
    by_cases e : j = s_np S
    · subst e; rw [va_up_self]; exact hg2 i hi
    · rw [va_up_ne _ _ e, hg1 _ (by omega)]; exact h2 j i (by omega) hi
  · have hj : j < s_np S + 1 := hj
    show u (5 * j + i) = oI (va_up (s_th S) (s_np S) (fun _ => none) j i)
    by_cases e : j = s_np S
    · subst e; rw [va_up_self]; exact hu2 i hi
    · rw [va_up_ne _ _ e, hu1 _ (by omega)]; exact h3 j i (by omega) hi
theorem zbt_100 {x : Int32} : zbt 0 100 x = (ix 101 x).isSome := zbt_c (by decide) (by decide)
theorem num_ext {g2 : Nat → Int64} {b k : Nat} (h : ∀ i, i < k → g2 (b + i) = 0) : ∀ i, i < k + 1 → vp_updL g2 (b + k) 0 (b + i) = 0 := by
  intro i hi
  by_cases e : i = k
  · rw [e, pk_uLs]
  · rw [pk_uLn (by omega)]; exact h i (by omega)
theorem thi_ext {u : Nat → Int32} {b k : Nat} (h : ∀ i, i < k → u (b + i) = -1) : ∀ i, i < k + 1 → upd u (b + k) (-1) (b + i) = -1 := by
  intro i hi
  by_cases e : i = k
  · rw [e, pk_us]
  · rw [pk_un (by omega)]; exact h i (by omega)
theorem va_uu2 {α : Type} (f : Nat → α) (k : Nat) (v w : α) : va_up (va_up f k v) k w = va_up f k w := bx_uu f k v w
theorem va_id5 {f : Nat → Nat → Int32} {a b c : Nat → Int32} : va_up (va_up (va_up (va_up f 1 a) 2 b) 3 c) 5 (f 5) = va_up (va_up (va_up f 1 a) 2 b) 3 c := by
  funext z
  by_cases h : z = 5
  · subst h; rw [va_up_self]; rfl
  · rw [va_up_ne _ _ h]
set_option maxRecDepth 100000 in
set_option maxHeartbeats 4000000 in
theorem c_X6_prop (l : Launch) (G : zm_G) (A : Nat → Prop) (q : Nat → Nat) (S : zS) (M : zm_M) (k n : Int32) (hI : zInv S) (hR : RepR G q S M) : Met l yX6_prop (zm_W yX6_prop cX6_prop 4 (some .int)) (zm_rm 2 0 0) (zm_Pc G [.ref (q 0), .int k, .int n] A M) (zm_Q G (fun r M' => r = some (.int (sp_prop S k n).1) ∧ RepR G q (sp_prop S k n).2 M') A) 0 0 A := by
  refine zm_start (by decide) (Nat.le_of_ble_eq_true rfl) ?_
  intro p e s m below meth c hx hb hml hr hts hown hlk hnm hE hA ls hl hM hS
  have hl : lv_has ls 4 [(0, .ref (q 0)), (1, .int k), (2, .int n)] := hl
  obtain ⟨f, g, hZ, hAb⟩ := hR
  have hnp := hI.1
  have hncc := hI.2.1
  refine lv_iload_n hx hb dX6_prop_0 rfl (lv_at hl 1 rfl) ?_
  refine lv_iconst (v := 0) hx hb dX6_prop_1 (by decide) ?_
  refine lv_bipush (v := 15) hx hb dX6_prop_2 (by decide) ?_
  refine zm_callS (As := [.int k, .int 0, .int 15]) (rest := []) hx hb hml hts hown hE hA hM hS (c_X6_isIn l G A _ k 0 15) cd_X6_isIn ml_X6_51 rfl rfl hl.1 (Nat.le_of_ble_eq_true rfl) ⟨Nat.le_of_ble_eq_true rfl, Nat.le_of_ble_eq_true rfl⟩ ⟨Nat.le_of_ble_eq_true rfl, Nat.le_of_ble_eq_true rfl⟩ dX6_prop_4 ?_
  rintro r M1 H locs ⟨rfl, e1⟩ hM hS
  rw [e1] at hM
  clear e1 M1
  refine W.eq (g2 := F0 m 7 ls [.int (bI (zbt 0 15 k))]) rfl ?_
  refine lv_if_eq (tgt := 31) hx hb dX6_prop_7 (by decide) (fun c7 => ?_) (fun c7 => ?_)
  · rw [zbt_k, bI_0] at c7
    have hik := isS_f c7
    refine lv_bipush (v := (-2)) hx hb dX6_prop_31 (by decide) ?_
    refine zm_iret hx hb hr hlk hM hS ?_ ⟨Nat.le_refl _, Nat.le_refl _⟩ dX6_prop_33
    have hs : sp_prop S k n = (-2, S) := by first | exact prop_bad1 hik | exact prop_bad2 hik hin
    exact ⟨by rw [hs], by rw [hs]; exact ⟨f, g, hZ, hAb⟩⟩
  · rw [zbt_k, bI_n] at c7
    obtain ⟨kk, hik⟩ := isS_t c7
    obtain ⟨hkk16, rfl⟩ := ix_some (by decide) hik
    refine lv_iload_n hx hb dX6_prop_10 rfl (lv_at hl 2 rfl) ?_
    refine lv_iconst (v := 0) hx hb dX6_prop_11 (by decide) ?_
    refine lv_iload_n hx hb dX6_prop_12 rfl (lv_at hl 1 rfl) ?_
    refine zm_callS (As := [.int (nI kk)]) (rest := [.int 0, .int n]) hx hb hml hts hown hE hA hM hS (c_X6_isSingle l G A _ (nI kk)) cd_X6_isSingle ml_X6_59 rfl rfl hl.1 (Nat.le_of_ble_eq_true rfl) ⟨Nat.le_of_ble_eq_true rfl, Nat.le_of_ble_eq_true rfl⟩ ⟨Nat.le_of_ble_eq_true rfl, Nat.le_of_ble_eq_true rfl⟩ dX6_prop_13 ?_
    rintro r M1 H locs ⟨rfl, e1⟩ hM hS
    rw [e1] at hM
    clear e1 M1
    refine W.eq (g2 := F0 m 16 ls [.int (bI (zbt 4 7 (nI kk))), .int 0, .int n]) rfl ?_
    refine lv_if_eq (tgt := 24) hx hb dX6_prop_16 (by decide) (fun c16 => ?_) (fun c16 => ?_)
    · rw [zbt_pc _ hkk16, bI_0] at c16
      have hmx : (6 : Nat) = if isPc kk = true then 101 else 6 := by rw [if_neg (by rw [c16]; decide)]
      refine lv_iconst (v := 5) hx hb dX6_prop_24 (by decide) ?_
      refine zm_callS (As := [.int n, .int 0, .int 5]) (rest := []) hx hb hml hts hown hE hA hM hS (c_X6_isIn l G A _ n 0 5) cd_X6_isIn ml_X6_51 rfl rfl hl.1 (Nat.le_of_ble_eq_true rfl) ⟨Nat.le_of_ble_eq_true rfl, Nat.le_of_ble_eq_true rfl⟩ ⟨Nat.le_of_ble_eq_true rfl, Nat.le_of_ble_eq_true rfl⟩ dX6_prop_25 ?_
      rintro r M1 H locs ⟨rfl, e1⟩ hM hS
      rw [e1] at hM
      clear e1 M1
      refine W.eq (g2 := F0 m 28 ls [.int (bI (zbt 0 5 n))]) rfl ?_
      refine lv_if_ne (tgt := 34) hx hb dX6_prop_28 (by decide) (fun c28 => ?_) (fun c28 => ?_)
      · rw [zbt_a, bI_n] at c28
        rw [hmx] at c28
        obtain ⟨nn, hin⟩ := isS_t c28
        obtain ⟨hnn, rfl⟩ := ix_some (by split <;> decide) hin
        refine lv_aload_n hx hb dX6_prop_34 rfl (lv_at hl 0 rfl) ?_
        refine zm_get hx hb hts hown hE hM hZ.2.1 fl_X6_48_5 rfl dX6_prop_35 ?_
        refine lv_bipush (v := 50) hx hb dX6_prop_38 (by decide) ?_
        refine lv_icmp_ne (tgt := 46) hx hb dX6_prop_40 (by decide) (fun c40 => ?_) (fun c40 => ?_)
        · have hnp5 : ¬ s_np S = 50 := fun e => c40 (by rw [e]; rfl)
          refine lv_aload_n hx hb dX6_prop_46 rfl (lv_at hl 0 rfl) ?_
          refine zm_get hx hb hts hown hE hM hZ.2.1 fl_X6_7_5 rfl dX6_prop_47 ?_
          refine lv_aload_n hx hb dX6_prop_50 rfl (lv_at hl 0 rfl) ?_
          refine zm_get hx hb hts hown hE hM hZ.2.1 fl_X6_48_5 rfl dX6_prop_51 ?_
          refine lv_iload_n hx hb dX6_prop_54 rfl (lv_at hl 1 rfl) ?_
          refine zm_iast hx hb hE hM hS (hZ.ar 1) (vp_in_nI (show s_np S < 50 by omega) (by decide)) dX6_prop_55 (fun H locs hM hS => ?_)
          rw [nI_clamp (by omega)] at hM
          have hZ1 := hZ.arr 1 (upd (f 1) (s_np S) (nI kk))
          refine lv_aload_n hx hb dX6_prop_56 rfl (lv_at hl 0 rfl) ?_
          refine zm_get hx hb hts hown hE hM hZ1.2.1 fl_X6_13_5 rfl dX6_prop_57 ?_
          refine lv_aload_n hx hb dX6_prop_60 rfl (lv_at hl 0 rfl) ?_
          refine zm_get hx hb hts hown hE hM hZ1.2.1 fl_X6_48_5 rfl dX6_prop_61 ?_
          refine lv_iload_n hx hb dX6_prop_64 rfl (lv_at hl 2 rfl) ?_
          refine zm_iast hx hb hE hM hS (hZ1.ar 2) (vp_in_nI (show s_np S < 50 by omega) (by decide)) dX6_prop_65 (fun H locs hM hS => ?_)
          rw [nI_clamp (by omega)] at hM
          have hZ2 := hZ1.arr 2 (upd (f 2) (s_np S) (nI nn))
          refine lv_aload_n hx hb dX6_prop_66 rfl (lv_at hl 0 rfl) ?_
          refine zm_get hx hb hts hown hE hM hZ2.2.1 fl_X6_16_5 rfl dX6_prop_67 ?_
          refine lv_aload_n hx hb dX6_prop_70 rfl (lv_at hl 0 rfl) ?_
          refine zm_get hx hb hts hown hE hM hZ2.2.1 fl_X6_48_5 rfl dX6_prop_71 ?_
          refine lv_iconst (v := 0) hx hb dX6_prop_74 (by decide) ?_
          refine zm_iast hx hb hE hM hS (hZ2.ar 3) (vp_in_nI (show s_np S < 50 by omega) (by decide)) dX6_prop_75 (fun H locs hM hS => ?_)
          rw [nI_clamp (by omega)] at hM
          have hZ3 := hZ2.arr 3 (upd (f 3) (s_np S) 0)
          refine lv_iconst (v := 0) hx hb dX6_prop_76 (by decide) ?_
          refine lv_istore_n (lv' := [(3, .int 0), (0, .ref (q 0)), (1, .int (nI kk)), (2, .int (nI nn))]) hx hb dX6_prop_77 rfl hl (by decide) rfl (fun ls hl => ?_)
          have loop : ∀ (n k : Nat), k ≤ 15 → 16 ≤ k + n → ∀ (ls : Array Slot) (g2 : Nat → Int64) (M : zm_M) (H : Heap) (locs : List Loc), zRA G q (objR q S) (va_up (va_up (va_up f 1 (upd (f 1) (s_np S) (nI kk))) 2 (upd (f 2) (s_np S) (nI nn))) 3 (upd (f 3) (s_np S) 0)) g2 M → (∀ m, m < 15 * s_np S → g2 m = g m) → (∀ i, i < k → g2 (15 * s_np S + i) = 0) → zm_P G A M H → va_S A s.heap H locs → lv_has ls 4 [(3, .int (nI k)), (0, .ref (q 0)), (1, .int (nI kk)), (2, .int (nI nn))] → W p l e (zm_rm 2 0 0) s m [.ref (q 0), .int (nI kk), .int (nI nn)].toArray below meth c H locs 0 0 (MQ below (zm_Q G (fun r M' => r = some (.int (sp_prop S (nI kk) (nI nn)).1) ∧ RepR G q (sp_prop S (nI kk) (nI nn)).2 M') A) [.ref (q 0), .int (nI kk), .int (nI nn)].toArray s 0 0 A) (F0 m 78 ls []) := by
            intro n
            induction n with
            | zero => intro k h1 h2; exact absurd h2 (by omega)
            | succ n ih =>
              intro k hk1 hk2 ls g2 M H locs hZ1 hg1 hg2 hM hS hl
              refine lv_iload_n hx hb dX6_prop_78 rfl (lv_at hl 0 rfl) ?_
              refine lv_bipush (v := 15) hx hb dX6_prop_79 (by decide) ?_
              refine lv_icmp_ge (tgt := 105) hx hb dX6_prop_81 (by decide) (fun c81 => ?_) (fun c81 => ?_)
              · obtain rfl : k = 15 := by rw [show (15 : Int32) = nI 15 from rfl, nI_leI (by omega) (by omega)] at c81; omega
                refine lv_iconst (v := 0) hx hb dX6_prop_105 (by decide) ?_
                refine lv_istore_n (lv' := [(3, .int 0), (0, .ref (q 0)), (1, .int (nI kk)), (2, .int (nI nn))]) hx hb dX6_prop_106 rfl hl (by decide) rfl (fun ls hl => ?_)
                have loop : ∀ (n k : Nat), k ≤ 5 → 6 ≤ k + n → ∀ (ls : Array Slot) (u : Nat → Int32) (M : zm_M) (H : Heap) (locs : List Loc), zRA G q (objR q S) (va_up (va_up (va_up (va_up f 1 (upd (f 1) (s_np S) (nI kk))) 2 (upd (f 2) (s_np S) (nI nn))) 3 (upd (f 3) (s_np S) 0)) 5 u) g2 M → (∀ m, m < 5 * s_np S → u m = f 5 m) → (∀ i, i < k → u (5 * s_np S + i) = -1) → zm_P G A M H → va_S A s.heap H locs → lv_has ls 4 [(3, .int (nI k)), (0, .ref (q 0)), (1, .int (nI kk)), (2, .int (nI nn))] → W p l e (zm_rm 2 0 0) s m [.ref (q 0), .int (nI kk), .int (nI nn)].toArray below meth c H locs 0 0 (MQ below (zm_Q G (fun r M' => r = some (.int (sp_prop S (nI kk) (nI nn)).1) ∧ RepR G q (sp_prop S (nI kk) (nI nn)).2 M') A) [.ref (q 0), .int (nI kk), .int (nI nn)].toArray s 0 0 A) (F0 m 107 ls []) := by
                  intro n
                  induction n with
                  | zero => intro k h1 h2; exact absurd h2 (by omega)
                  | succ n ih =>
                    intro k hk3 hk4 ls u M H locs hZ4 hu1 hu2 hM hS hl
                    refine lv_iload_n hx hb dX6_prop_107 rfl (lv_at hl 0 rfl) ?_
                    refine lv_iconst (v := 5) hx hb dX6_prop_108 (by decide) ?_
                    refine lv_icmp_ge (tgt := 132) hx hb dX6_prop_109 (by decide) (fun c109 => ?_) (fun c109 => ?_)
                    · obtain rfl : k = 5 := by rw [show (5 : Int32) = nI 5 from rfl, nI_leI (by omega) (by omega)] at c109; omega
                      refine lv_aload_n hx hb dX6_prop_132 rfl (lv_at hl 1 rfl) ?_
                      refine lv_dup hx hb dX6_prop_133 rfl ?_
                      refine zm_get hx hb hts hown hE hM hZ4.2.1 fl_X6_48_5 rfl dX6_prop_134 ?_
                      refine lv_iconst (v := 1) hx hb dX6_prop_137 (by decide) ?_
                      refine lv_iadd hx hb dX6_prop_138 ?_
                      refine zm_put hx hb hts hown hE hM hS hZ4.2.1 fp_X6_48_5 rfl rfl (Nat.le_of_ble_eq_true rfl) dX6_prop_139 (fun H locs hM hS => ?_)
                      rw [show (objR q S).set 0 (.int (nI (s_np S) + 1)) = objR q (addS S kk nn) by rw [nI_1]; rfl] at hM
                      have hZ5 := hZ4.fld (objR q (addS S kk nn))
                      refine lv_aload_n hx hb dX6_prop_142 rfl (lv_at hl 1 rfl) ?_
                      refine zm_get hx hb hts hown hE hM hZ5.2.1 fl_X6_48_5 rfl dX6_prop_143 ?_
                      refine lv_iconst (v := 1) hx hb dX6_prop_146 (by decide) ?_
                      refine lv_isub hx hb dX6_prop_147 ?_
                      refine zm_iret hx hb hr hlk hM hS ?_ ⟨Nat.le_refl _, Nat.le_refl _⟩ dX6_prop_148
                      rw [prop_ok hik hin hnp5]
                      exact ⟨by rw [nI_pred], _, _, hZ5, abs_add hAb hg1 hg2 hu1 hu2⟩
                    · have hkk : k < 5 := by rw [show (5 : Int32) = nI 5 from rfl, nI_leI (by omega) (by omega)] at c109; omega
                      refine lv_aload_n hx hb dX6_prop_112 rfl (lv_at hl 1 rfl) ?_
                      refine zm_get hx hb hts hown hE hM hZ4.2.1 fl_X6_23_5 rfl dX6_prop_113 ?_
                      refine lv_iconst (v := 5) hx hb dX6_prop_116 (by decide) ?_
                      refine lv_aload_n hx hb dX6_prop_117 rfl (lv_at hl 1 rfl) ?_
                      refine zm_get hx hb hts hown hE hM hZ4.2.1 fl_X6_48_5 rfl dX6_prop_118 ?_
                      refine lv_imul hx hb dX6_prop_121 ?_
                      refine lv_iload_n hx hb dX6_prop_122 rfl (lv_at hl 0 rfl) ?_
                      refine lv_iadd hx hb dX6_prop_123 ?_
                      refine lv_iconst (v := (-1)) hx hb dX6_prop_124 (by decide) ?_
                      refine W.eq (g2 := F0 m 125 ls (.int (-1) :: .int (nI (5 * s_np S + k)) :: .ref (q 5) :: [])) (by rw [idx5]) ?_
                      refine zm_iast hx hb hE hM hS (hZ4.ar 5) (vp_in_nI (show 5 * s_np S + k < 250 by omega) (by decide)) dX6_prop_125 (fun H locs hM hS => ?_)
                      rw [nI_clamp (by omega)] at hM
                      have hZ2 := hZ4.arr 5 (upd u (5 * s_np S + k) (-1))
                      rw [va_uu2] at hZ2
                      have hu1n : ∀ m, m < 5 * s_np S → upd u (5 * s_np S + k) (-1) m = f 5 m := fun m hm => by rw [pk_un (by omega)]; exact hu1 m hm
                      have hu2n : ∀ i, i < k + 1 → upd u (5 * s_np S + k) (-1) (5 * s_np S + i) = -1 := thi_ext hu2
                      refine lv_iinc (v := nI (k + 1)) (lv' := [(3, .int (nI (k + 1))), (0, .ref (q 0)), (1, .int (nI kk)), (2, .int (nI nn))]) hx hb dX6_prop_126 hl (k := 0) rfl (nI_1 k) (by decide) rfl (fun ls hl => ?_)
                      refine lv_goto (tgt := 107) hx hb dX6_prop_129 (by decide) ?_
                      exact ih (k + 1) (by omega) (by omega) ls _ _ _ _ hZ2 hu1n hu2n hM hS (lv_sub hl [0, 1, 2, 3] rfl)
                exact loop 6 0 (by omega) (by omega) ls (f 5) _ _ _ (by rw [va_id5]; exact hZ1) (fun _ _ => rfl) (fun i hi => absurd hi (Nat.not_lt_zero _)) hM hS (lv_sub hl [0, 1, 2, 3] rfl)
              · have hkk : k < 15 := by rw [show (15 : Int32) = nI 15 from rfl, nI_leI (by omega) (by omega)] at c81; omega
                refine lv_aload_n hx hb dX6_prop_84 rfl (lv_at hl 1 rfl) ?_
                refine zm_get hx hb hts hown hE hM hZ1.2.1 fl_X6_19_5 rfl dX6_prop_85 ?_
                refine lv_bipush (v := 15) hx hb dX6_prop_88 (by decide) ?_
                refine lv_aload_n hx hb dX6_prop_90 rfl (lv_at hl 1 rfl) ?_
                refine zm_get hx hb hts hown hE hM hZ1.2.1 fl_X6_48_5 rfl dX6_prop_91 ?_
                refine lv_imul hx hb dX6_prop_94 ?_
                refine lv_iload_n hx hb dX6_prop_95 rfl (lv_at hl 0 rfl) ?_
                refine lv_iadd hx hb dX6_prop_96 ?_
                refine lv_lconst (v := 0) hx hb dX6_prop_97 (by decide) ?_
                refine W.eq (g2 := F0 m 98 ls (.long 0 :: .int (nI (15 * s_np S + k)) :: .ref (q 4) :: [])) (by rw [idx15]) ?_
                refine zm_last hx hb hE hM hS hZ1.2.2.2 (vp_in_nI (show 15 * s_np S + k < 750 by omega) (by decide)) dX6_prop_98 (fun H locs hM hS => ?_)
                rw [nI_clamp (by omega)] at hM
                have hZ2 := hZ1.num (vp_updL g2 (15 * s_np S + k) 0)
                have hg1n : ∀ m, m < 15 * s_np S → vp_updL g2 (15 * s_np S + k) 0 m = g m := fun m hm => by rw [pk_uLn (by omega)]; exact hg1 m hm
                have hg2n : ∀ i, i < k + 1 → vp_updL g2 (15 * s_np S + k) 0 (15 * s_np S + i) = 0 := num_ext hg2
                refine lv_iinc (v := nI (k + 1)) (lv' := [(3, .int (nI (k + 1))), (0, .ref (q 0)), (1, .int (nI kk)), (2, .int (nI nn))]) hx hb dX6_prop_99 hl (k := 0) rfl (nI_1 k) (by decide) rfl (fun ls hl => ?_)
                refine lv_goto (tgt := 78) hx hb dX6_prop_102 (by decide) ?_
                exact ih (k + 1) (by omega) (by omega) ls _ _ _ _ hZ2 hg1n hg2n hM hS (lv_sub hl [0, 1, 2, 3] rfl)
          exact loop 16 0 (by omega) (by omega) ls _ _ _ _ hZ3 (fun _ _ => rfl) (fun i hi => absurd hi (Nat.not_lt_zero _)) hM hS (lv_sub hl [0, 1, 2, 3] rfl)
        · refine lv_bipush (v := (-3)) hx hb dX6_prop_43 (by decide) ?_
          refine zm_iret hx hb hr hlk hM hS ?_ ⟨Nat.le_refl _, Nat.le_refl _⟩ dX6_prop_45
          have h3 : s_np S = 50 := (nI_eq (b := 50) (by omega) (by omega)).mp c40
          exact ⟨by rw [prop_full hik hin h3], by rw [prop_full hik hin h3]; exact ⟨f, g, hZ, hAb⟩⟩
      · rw [zbt_a, bI_0] at c28
        rw [hmx] at c28
        have hin := isS_f c28
        refine lv_bipush (v := (-2)) hx hb dX6_prop_31 (by decide) ?_
        refine zm_iret hx hb hr hlk hM hS ?_ ⟨Nat.le_refl _, Nat.le_refl _⟩ dX6_prop_33
        have hs : sp_prop S (nI kk) n = (-2, S) := by first | exact prop_bad1 hik | exact prop_bad2 hik hin
        exact ⟨by rw [hs], by rw [hs]; exact ⟨f, g, hZ, hAb⟩⟩
    · rw [zbt_pc _ hkk16, bI_n] at c16
      have hmx : (101 : Nat) = if isPc kk = true then 101 else 6 := by rw [if_pos c16]
      refine lv_bipush (v := 100) hx hb dX6_prop_19 (by decide) ?_
      refine lv_goto (tgt := 25) hx hb dX6_prop_21 (by decide) ?_
      refine zm_callS (As := [.int n, .int 0, .int 100]) (rest := []) hx hb hml hts hown hE hA hM hS (c_X6_isIn l G A _ n 0 100) cd_X6_isIn ml_X6_51 rfl rfl hl.1 (Nat.le_of_ble_eq_true rfl) ⟨Nat.le_of_ble_eq_true rfl, Nat.le_of_ble_eq_true rfl⟩ ⟨Nat.le_of_ble_eq_true rfl, Nat.le_of_ble_eq_true rfl⟩ dX6_prop_25 ?_
      rintro r M1 H locs ⟨rfl, e1⟩ hM hS
      rw [e1] at hM
      clear e1 M1
      refine W.eq (g2 := F0 m 28 ls [.int (bI (zbt 0 100 n))]) rfl ?_
      refine lv_if_ne (tgt := 34) hx hb dX6_prop_28 (by decide) (fun c28 => ?_) (fun c28 => ?_)
      · rw [zbt_100, bI_n] at c28
        rw [hmx] at c28
        obtain ⟨nn, hin⟩ := isS_t c28
        obtain ⟨hnn, rfl⟩ := ix_some (by split <;> decide) hin
        refine lv_aload_n hx hb dX6_prop_34 rfl (lv_at hl 0 rfl) ?_
        refine zm_get hx hb hts hown hE hM hZ.2.1 fl_X6_48_5 rfl dX6_prop_35 ?_
        refine lv_bipush (v := 50) hx hb dX6_prop_38 (by decide) ?_
        refine lv_icmp_ne (tgt := 46) hx hb dX6_prop_40 (by decide) (fun c40 => ?_) (fun c40 => ?_)
        · have hnp5 : ¬ s_np S = 50 := fun e => c40 (by rw [e]; rfl)
          refine lv_aload_n hx hb dX6_prop_46 rfl (lv_at hl 0 rfl) ?_
          refine zm_get hx hb hts hown hE hM hZ.2.1 fl_X6_7_5 rfl dX6_prop_47 ?_
          refine lv_aload_n hx hb dX6_prop_50 rfl (lv_at hl 0 rfl) ?_
          refine zm_get hx hb hts hown hE hM hZ.2.1 fl_X6_48_5 rfl dX6_prop_51 ?_
          refine lv_iload_n hx hb dX6_prop_54 rfl (lv_at hl 1 rfl) ?_
          refine zm_iast hx hb hE hM hS (hZ.ar 1) (vp_in_nI (show s_np S < 50 by omega) (by decide)) dX6_prop_55 (fun H locs hM hS => ?_)
          rw [nI_clamp (by omega)] at hM
          have hZ1 := hZ.arr 1 (upd (f 1) (s_np S) (nI kk))
          refine lv_aload_n hx hb dX6_prop_56 rfl (lv_at hl 0 rfl) ?_
          refine zm_get hx hb hts hown hE hM hZ1.2.1 fl_X6_13_5 rfl dX6_prop_57 ?_
          refine lv_aload_n hx hb dX6_prop_60 rfl (lv_at hl 0 rfl) ?_
          refine zm_get hx hb hts hown hE hM hZ1.2.1 fl_X6_48_5 rfl dX6_prop_61 ?_
          refine lv_iload_n hx hb dX6_prop_64 rfl (lv_at hl 2 rfl) ?_
          refine zm_iast hx hb hE hM hS (hZ1.ar 2) (vp_in_nI (show s_np S < 50 by omega) (by decide)) dX6_prop_65 (fun H locs hM hS => ?_)
          rw [nI_clamp (by omega)] at hM
          have hZ2 := hZ1.arr 2 (upd (f 2) (s_np S) (nI nn))
          refine lv_aload_n hx hb dX6_prop_66 rfl (lv_at hl 0 rfl) ?_
          refine zm_get hx hb hts hown hE hM hZ2.2.1 fl_X6_16_5 rfl dX6_prop_67 ?_
          refine lv_aload_n hx hb dX6_prop_70 rfl (lv_at hl 0 rfl) ?_
          refine zm_get hx hb hts hown hE hM hZ2.2.1 fl_X6_48_5 rfl dX6_prop_71 ?_
          refine lv_iconst (v := 0) hx hb dX6_prop_74 (by decide) ?_
          refine zm_iast hx hb hE hM hS (hZ2.ar 3) (vp_in_nI (show s_np S < 50 by omega) (by decide)) dX6_prop_75 (fun H locs hM hS => ?_)
          rw [nI_clamp (by omega)] at hM
          have hZ3 := hZ2.arr 3 (upd (f 3) (s_np S) 0)
          refine lv_iconst (v := 0) hx hb dX6_prop_76 (by decide) ?_
          refine lv_istore_n (lv' := [(3, .int 0), (0, .ref (q 0)), (1, .int (nI kk)), (2, .int (nI nn))]) hx hb dX6_prop_77 rfl hl (by decide) rfl (fun ls hl => ?_)
          have loop : ∀ (n k : Nat), k ≤ 15 → 16 ≤ k + n → ∀ (ls : Array Slot) (g2 : Nat → Int64) (M : zm_M) (H : Heap) (locs : List Loc), zRA G q (objR q S) (va_up (va_up (va_up f 1 (upd (f 1) (s_np S) (nI kk))) 2 (upd (f 2) (s_np S) (nI nn))) 3 (upd (f 3) (s_np S) 0)) g2 M → (∀ m, m < 15 * s_np S → g2 m = g m) → (∀ i, i < k → g2 (15 * s_np S + i) = 0) → zm_P G A M H → va_S A s.heap H locs → lv_has ls 4 [(3, .int (nI k)), (0, .ref (q 0)), (1, .int (nI kk)), (2, .int (nI nn))] → W p l e (zm_rm 2 0 0) s m [.ref (q 0), .int (nI kk), .int (nI nn)].toArray below meth c H locs 0 0 (MQ below (zm_Q G (fun r M' => r = some (.int (sp_prop S (nI kk) (nI nn)).1) ∧ RepR G q (sp_prop S (nI kk) (nI nn)).2 M') A) [.ref (q 0), .int (nI kk), .int (nI nn)].toArray s 0 0 A) (F0 m 78 ls []) := by
            intro n
            induction n with
            | zero => intro k h1 h2; exact absurd h2 (by omega)
            | succ n ih =>
              intro k hk1 hk2 ls g2 M H locs hZ1 hg1 hg2 hM hS hl
              refine lv_iload_n hx hb dX6_prop_78 rfl (lv_at hl 0 rfl) ?_
              refine lv_bipush (v := 15) hx hb dX6_prop_79 (by decide) ?_
              refine lv_icmp_ge (tgt := 105) hx hb dX6_prop_81 (by decide) (fun c81 => ?_) (fun c81 => ?_)
              · obtain rfl : k = 15 := by rw [show (15 : Int32) = nI 15 from rfl, nI_leI (by omega) (by omega)] at c81; omega
                refine lv_iconst (v := 0) hx hb dX6_prop_105 (by decide) ?_
                refine lv_istore_n (lv' := [(3, .int 0), (0, .ref (q 0)), (1, .int (nI kk)), (2, .int (nI nn))]) hx hb dX6_prop_106 rfl hl (by decide) rfl (fun ls hl => ?_)
                have loop : ∀ (n k : Nat), k ≤ 5 → 6 ≤ k + n → ∀ (ls : Array Slot) (u : Nat → Int32) (M : zm_M) (H : Heap) (locs : List Loc), zRA G q (objR q S) (va_up (va_up (va_up (va_up f 1 (upd (f 1) (s_np S) (nI kk))) 2 (upd (f 2) (s_np S) (nI nn))) 3 (upd (f 3) (s_np S) 0)) 5 u) g2 M → (∀ m, m < 5 * s_np S → u m = f 5 m) → (∀ i, i < k → u (5 * s_np S + i) = -1) → zm_P G A M H → va_S A s.heap H locs → lv_has ls 4 [(3, .int (nI k)), (0, .ref (q 0)), (1, .int (nI kk)), (2, .int (nI nn))] → W p l e (zm_rm 2 0 0) s m [.ref (q 0), .int (nI kk), .int (nI nn)].toArray below meth c H locs 0 0 (MQ below (zm_Q G (fun r M' => r = some (.int (sp_prop S (nI kk) (nI nn)).1) ∧ RepR G q (sp_prop S (nI kk) (nI nn)).2 M') A) [.ref (q 0), .int (nI kk), .int (nI nn)].toArray s 0 0 A) (F0 m 107 ls []) := by
                  intro n
                  induction n with
                  | zero => intro k h1 h2; exact absurd h2 (by omega)
                  | succ n ih =>
                    intro k hk3 hk4 ls u M H locs hZ4 hu1 hu2 hM hS hl
                    refine lv_iload_n hx hb dX6_prop_107 rfl (lv_at hl 0 rfl) ?_
                    refine lv_iconst (v := 5) hx hb dX6_prop_108 (by decide) ?_
                    refine lv_icmp_ge (tgt := 132) hx hb dX6_prop_109 (by decide) (fun c109 => ?_) (fun c109 => ?_)
                    · obtain rfl : k = 5 := by rw [show (5 : Int32) = nI 5 from rfl, nI_leI (by omega) (by omega)] at c109; omega
                      refine lv_aload_n hx hb dX6_prop_132 rfl (lv_at hl 1 rfl) ?_
                      refine lv_dup hx hb dX6_prop_133 rfl ?_
                      refine zm_get hx hb hts hown hE hM hZ4.2.1 fl_X6_48_5 rfl dX6_prop_134 ?_
                      refine lv_iconst (v := 1) hx hb dX6_prop_137 (by decide) ?_
                      refine lv_iadd hx hb dX6_prop_138 ?_
                      refine zm_put hx hb hts hown hE hM hS hZ4.2.1 fp_X6_48_5 rfl rfl (Nat.le_of_ble_eq_true rfl) dX6_prop_139 (fun H locs hM hS => ?_)
                      rw [show (objR q S).set 0 (.int (nI (s_np S) + 1)) = objR q (addS S kk nn) by rw [nI_1]; rfl] at hM
                      have hZ5 := hZ4.fld (objR q (addS S kk nn))
                      refine lv_aload_n hx hb dX6_prop_142 rfl (lv_at hl 1 rfl) ?_
                      refine zm_get hx hb hts hown hE hM hZ5.2.1 fl_X6_48_5 rfl dX6_prop_143 ?_
                      refine lv_iconst (v := 1) hx hb dX6_prop_146 (by decide) ?_
                      refine lv_isub hx hb dX6_prop_147 ?_
                      refine zm_iret hx hb hr hlk hM hS ?_ ⟨Nat.le_refl _, Nat.le_refl _⟩ dX6_prop_148
                      rw [prop_ok hik hin hnp5]
                      exact ⟨by rw [nI_pred], _, _, hZ5, abs_add hAb hg1 hg2 hu1 hu2⟩
                    · have hkk : k < 5 := by rw [show (5 : Int32) = nI 5 from rfl, nI_leI (by omega) (by omega)] at c109; omega
                      refine lv_aload_n hx hb dX6_prop_112 rfl (lv_at hl 1 rfl) ?_
                      refine zm_get hx hb hts hown hE hM hZ4.2.1 fl_X6_23_5 rfl dX6_prop_113 ?_
                      refine lv_iconst (v := 5) hx hb dX6_prop_116 (by decide) ?_
                      refine lv_aload_n hx hb dX6_prop_117 rfl (lv_at hl 1 rfl) ?_
                      refine zm_get hx hb hts hown hE hM hZ4.2.1 fl_X6_48_5 rfl dX6_prop_118 ?_
                      refine lv_imul hx hb dX6_prop_121 ?_
                      refine lv_iload_n hx hb dX6_prop_122 rfl (lv_at hl 0 rfl) ?_
                      refine lv_iadd hx hb dX6_prop_123 ?_
                      refine lv_iconst (v := (-1)) hx hb dX6_prop_124 (by decide) ?_
                      refine W.eq (g2 := F0 m 125 ls (.int (-1) :: .int (nI (5 * s_np S + k)) :: .ref (q 5) :: [])) (by rw [idx5]) ?_
                      refine zm_iast hx hb hE hM hS (hZ4.ar 5) (vp_in_nI (show 5 * s_np S + k < 250 by omega) (by decide)) dX6_prop_125 (fun H locs hM hS => ?_)
                      rw [nI_clamp (by omega)] at hM
                      have hZ2 := hZ4.arr 5 (upd u (5 * s_np S + k) (-1))
                      rw [va_uu2] at hZ2
                      have hu1n : ∀ m, m < 5 * s_np S → upd u (5 * s_np S + k) (-1) m = f 5 m := fun m hm => by rw [pk_un (by omega)]; exact hu1 m hm
                      have hu2n : ∀ i, i < k + 1 → upd u (5 * s_np S + k) (-1) (5 * s_np S + i) = -1 := thi_ext hu2
                      refine lv_iinc (v := nI (k + 1)) (lv' := [(3, .int (nI (k + 1))), (0, .ref (q 0)), (1, .int (nI kk)), (2, .int (nI nn))]) hx hb dX6_prop_126 hl (k := 0) rfl (nI_1 k) (by decide) rfl (fun ls hl => ?_)
                      refine lv_goto (tgt := 107) hx hb dX6_prop_129 (by decide) ?_
                      exact ih (k + 1) (by omega) (by omega) ls _ _ _ _ hZ2 hu1n hu2n hM hS (lv_sub hl [0, 1, 2, 3] rfl)
                exact loop 6 0 (by omega) (by omega) ls (f 5) _ _ _ (by rw [va_id5]; exact hZ1) (fun _ _ => rfl) (fun i hi => absurd hi (Nat.not_lt_zero _)) hM hS (lv_sub hl [0, 1, 2, 3] rfl)
              · have hkk : k < 15 := by rw [show (15 : Int32) = nI 15 from rfl, nI_leI (by omega) (by omega)] at c81; omega
                refine lv_aload_n hx hb dX6_prop_84 rfl (lv_at hl 1 rfl) ?_
                refine zm_get hx hb hts hown hE hM hZ1.2.1 fl_X6_19_5 rfl dX6_prop_85 ?_
                refine lv_bipush (v := 15) hx hb dX6_prop_88 (by decide) ?_
                refine lv_aload_n hx hb dX6_prop_90 rfl (lv_at hl 1 rfl) ?_
                refine zm_get hx hb hts hown hE hM hZ1.2.1 fl_X6_48_5 rfl dX6_prop_91 ?_
                refine lv_imul hx hb dX6_prop_94 ?_
                refine lv_iload_n hx hb dX6_prop_95 rfl (lv_at hl 0 rfl) ?_
                refine lv_iadd hx hb dX6_prop_96 ?_
                refine lv_lconst (v := 0) hx hb dX6_prop_97 (by decide) ?_
                refine W.eq (g2 := F0 m 98 ls (.long 0 :: .int (nI (15 * s_np S + k)) :: .ref (q 4) :: [])) (by rw [idx15]) ?_
                refine zm_last hx hb hE hM hS hZ1.2.2.2 (vp_in_nI (show 15 * s_np S + k < 750 by omega) (by decide)) dX6_prop_98 (fun H locs hM hS => ?_)
                rw [nI_clamp (by omega)] at hM
                have hZ2 := hZ1.num (vp_updL g2 (15 * s_np S + k) 0)
                have hg1n : ∀ m, m < 15 * s_np S → vp_updL g2 (15 * s_np S + k) 0 m = g m := fun m hm => by rw [pk_uLn (by omega)]; exact hg1 m hm
                have hg2n : ∀ i, i < k + 1 → vp_updL g2 (15 * s_np S + k) 0 (15 * s_np S + i) = 0 := num_ext hg2
                refine lv_iinc (v := nI (k + 1)) (lv' := [(3, .int (nI (k + 1))), (0, .ref (q 0)), (1, .int (nI kk)), (2, .int (nI nn))]) hx hb dX6_prop_99 hl (k := 0) rfl (nI_1 k) (by decide) rfl (fun ls hl => ?_)
                refine lv_goto (tgt := 78) hx hb dX6_prop_102 (by decide) ?_
                exact ih (k + 1) (by omega) (by omega) ls _ _ _ _ hZ2 hg1n hg2n hM hS (lv_sub hl [0, 1, 2, 3] rfl)
          exact loop 16 0 (by omega) (by omega) ls _ _ _ _ hZ3 (fun _ _ => rfl) (fun i hi => absurd hi (Nat.not_lt_zero _)) hM hS (lv_sub hl [0, 1, 2, 3] rfl)
        · refine lv_bipush (v := (-3)) hx hb dX6_prop_43 (by decide) ?_
          refine zm_iret hx hb hr hlk hM hS ?_ ⟨Nat.le_refl _, Nat.le_refl _⟩ dX6_prop_45
          have h3 : s_np S = 50 := (nI_eq (b := 50) (by omega) (by omega)).mp c40
          exact ⟨by rw [prop_full hik hin h3], by rw [prop_full hik hin h3]; exact ⟨f, g, hZ, hAb⟩⟩
      · rw [zbt_100, bI_0] at c28
        rw [hmx] at c28
        have hin := isS_f c28
        refine lv_bipush (v := (-2)) hx hb dX6_prop_31 (by decide) ?_
        refine zm_iret hx hb hr hlk hM hS ?_ ⟨Nat.le_refl _, Nat.le_refl _⟩ dX6_prop_33
        have hs : sp_prop S (nI kk) n = (-2, S) := by first | exact prop_bad1 hik | exact prop_bad2 hik hin
        exact ⟨by rw [hs], by rw [hs]; exact ⟨f, g, hZ, hAb⟩⟩
theorem ns_up {M : zm_M} {L : List Nat} (h : ∀ x ∈ L, M x ≠ none) (b : Nat) (e : va_E) : ∀ x ∈ L, zm_up M b e x ≠ none := by
  intro x hx
  by_cases q : x = b
  · subst q; rw [zm_up_s]; exact fun z => by cases z
  · rw [zm_up_n q]; exact h x hx
theorem ns_new {M : zm_M} {L : List Nat} (h : ∀ x ∈ L, M x ≠ none) (b : Nat) (e : va_E) : ∀ x ∈ L ++ [b], zm_up M b e x ≠ none := by
  intro x hx
  rcases List.mem_append.mp hx with hx | hx
  · exact ns_up h b e x hx
  · rw [List.mem_singleton.mp hx, zm_up_s]; exact fun z => by cases z
theorem nd_new {M : zm_M} {L : List Nat} {b : Nat} (hd : L.Nodup) (h : ∀ x ∈ L, M x ≠ none) (hb : M b = none) : (L ++ [b]).Nodup := by
  rw [List.nodup_append]
  refine ⟨hd, by simp, fun x hx y hy e => ?_⟩
  rw [List.mem_singleton.mp hy] at e
  exact h x hx (by rw [e]; exact hb)
theorem nd_inj {L : List Nat} (h : L.Nodup) : ∀ i j, i < L.length → j < L.length → L.getD i 0 = L.getD j 0 → i = j := by
  intro i j hi hj e
  have e2 : L[i] = L[j] := by simpa [List.getD, hi, hj] using e
  have hp := List.pairwise_iff_getElem.mp h
  rcases Nat.lt_trichotomy i j with q | q | q
  · exact absurd e2 (hp i j hi hj q)
  · exact q
  · exact absurd e2.symm (hp j i hj hi q)
theorem sl_ext {f : Nat → Nat → Int32} {k : Nat} (h : ∀ i, i < k → f 6 i = -1) : ∀ i, i < k + 1 → va_up f 6 (upd (f 6) k (-1)) 6 i = -1 := by
  intro i hi
  rw [va_up_self]
  by_cases e : i = k
  · rw [e, pk_us]
  · rw [pk_un e]; exact h i (by omega)
set_option maxRecDepth 100000 in
set_option maxHeartbeats 4000000 in
theorem c_X6_init (l : Launch) (G : zm_G) (A : Nat → Prop) (M : zm_M) (a : Nat) (h0 : M a = some (.inr (5, [.int 0, .null, .null, .null, .null, .null, .null, .int 0, .int 0, .null, .null, .null, .null, .long 0, .int 0, .int 0, .int 0]))) : Met l yX6_init (zm_W yX6_init cX6_init 2 none) (zm_rm 1 10 1280) (zm_Pc G [.ref a] A M) (zm_Q G (fun r M' => r = none ∧ ∃ q : Nat → Nat, q 0 = a ∧ RepR G q s_0 M') A) 10 1280 A := by
  refine zm_start (by decide) (Nat.le_of_ble_eq_true rfl) ?_
  intro p e s m below meth c hx hb hml hr hts hown hlk hnm hE hA ls hl hM hS
  have hl : lv_has ls 2 [(0, .ref a)] := hl
  have hnd : [a].Nodup := by simp
  have hns : ∀ x ∈ [a], M x ≠ none := fun x hx => by rw [List.mem_singleton.mp hx, h0]; exact fun z => by cases z
  refine lv_aload_n hx hb dX6_init_0 rfl (lv_at hl 0 rfl) ?_
  refine zm_objInit hx hb hml hts hown ml_X6_1 hl.1 (by decide) (Nat.le_of_ble_eq_true rfl) dX6_init_1 ?_
  refine lv_aload_n hx hb dX6_init_4 rfl (lv_at hl 0 rfl) ?_
  refine lv_bipush (v := 50) hx hb dX6_init_5 (by decide) ?_
  refine zm_newI hx hb hts hE hA hM hS aw_int (by decide) (N := 50) (by decide) (by decide) (Nat.le_of_ble_eq_true rfl) (Nat.le_of_ble_eq_true rfl) dX6_init_7 (fun q1 H nq1 hM hS => ?_)
  have hnd := nd_new hnd hns nq1
  have hns := ns_new hns q1 (zm_I G 50 (fun _ => 0))
  have h0 := zm_up_k (e := (zm_I G 50 (fun _ => 0))) (zm_neN h0 nq1) h0
  have kq1 : zm_up M q1 (zm_I G 50 (fun _ => 0)) q1 = some (zm_I G 50 (fun _ => 0)) := zm_up_s
  generalize hMx : zm_up M q1 (zm_I G 50 (fun _ => 0)) = Mx at *
  clear hMx nq1
  refine zm_putF hx hb hts hown hnm hE hM hS h0 fp_X6_7_5 rfl rfl (Nat.le_of_ble_eq_true rfl) dX6_init_9 (fun H locs hM hS => ?_)
  have hM : zm_P G A (zm_up Mx a (.inr (5, [.int 0, .ref q1, .null, .null, .null, .null, .null, .int 0, .int 0, .null, .null, .null, .null, .long 0, .int 0, .int 0, .int 0]) : va_E)) H := hM
  have kq1 := zm_up_k (e := (.inr (5, [.int 0, .ref q1, .null, .null, .null, .null, .null, .int 0, .int 0, .null, .null, .null, .null, .long 0, .int 0, .int 0, .int 0]) : va_E)) (zm_ne kq1 h0 (by simp)) kq1
  have hns := ns_up hns a (.inr (5, [.int 0, .ref q1, .null, .null, .null, .null, .null, .int 0, .int 0, .null, .null, .null, .null, .long 0, .int 0, .int 0, .int 0]) : va_E)
  have h0 : zm_up Mx a (.inr (5, [.int 0, .ref q1, .null, .null, .null, .null, .null, .int 0, .int 0, .null, .null, .null, .null, .long 0, .int 0, .int 0, .int 0]) : va_E) a = some (.inr (5, [.int 0, .ref q1, .null, .null, .null, .null, .null, .int 0, .int 0, .null, .null, .null, .null, .long 0, .int 0, .int 0, .int 0]) : va_E) := zm_up_s
  generalize hMx : zm_up Mx a (.inr (5, [.int 0, .ref q1, .null, .null, .null, .null, .null, .int 0, .int 0, .null, .null, .null, .null, .long 0, .int 0, .int 0, .int 0]) : va_E) = Mx at *
  clear hMx
  refine lv_aload_n hx hb dX6_init_12 rfl (lv_at hl 0 rfl) ?_
  refine lv_bipush (v := 50) hx hb dX6_init_13 (by decide) ?_
  refine zm_newI hx hb hts hE hA hM hS aw_int (by decide) (N := 50) (by decide) (by decide) (Nat.le_of_ble_eq_true rfl) (Nat.le_of_ble_eq_true rfl) dX6_init_15 (fun q2 H nq2 hM hS => ?_)
  have hnd := nd_new hnd hns nq2
  have hns := ns_new hns q2 (zm_I G 50 (fun _ => 0))
  have h0 := zm_up_k (e := (zm_I G 50 (fun _ => 0))) (zm_neN h0 nq2) h0
  have kq1 := zm_up_k (e := (zm_I G 50 (fun _ => 0))) (zm_neN kq1 nq2) kq1
  have kq2 : zm_up Mx q2 (zm_I G 50 (fun _ => 0)) q2 = some (zm_I G 50 (fun _ => 0)) := zm_up_s
  generalize hMx : zm_up Mx q2 (zm_I G 50 (fun _ => 0)) = Mx at *
  clear hMx nq2
  refine zm_putF hx hb hts hown hnm hE hM hS h0 fp_X6_13_5 rfl rfl (Nat.le_of_ble_eq_true rfl) dX6_init_17 (fun H locs hM hS => ?_)
  have hM : zm_P G A (zm_up Mx a (.inr (5, [.int 0, .ref q1, .ref q2, .null, .null, .null, .null, .int 0, .int 0, .null, .null, .null, .null, .long 0, .int 0, .int 0, .int 0]) : va_E)) H := hM
  have kq1 := zm_up_k (e := (.inr (5, [.int 0, .ref q1, .ref q2, .null, .null, .null, .null, .int 0, .int 0, .null, .null, .null, .null, .long 0, .int 0, .int 0, .int 0]) : va_E)) (zm_ne kq1 h0 (by simp)) kq1
  have kq2 := zm_up_k (e := (.inr (5, [.int 0, .ref q1, .ref q2, .null, .null, .null, .null, .int 0, .int 0, .null, .null, .null, .null, .long 0, .int 0, .int 0, .int 0]) : va_E)) (zm_ne kq2 h0 (by simp)) kq2
  have hns := ns_up hns a (.inr (5, [.int 0, .ref q1, .ref q2, .null, .null, .null, .null, .int 0, .int 0, .null, .null, .null, .null, .long 0, .int 0, .int 0, .int 0]) : va_E)
  have h0 : zm_up Mx a (.inr (5, [.int 0, .ref q1, .ref q2, .null, .null, .null, .null, .int 0, .int 0, .null, .null, .null, .null, .long 0, .int 0, .int 0, .int 0]) : va_E) a = some (.inr (5, [.int 0, .ref q1, .ref q2, .null, .null, .null, .null, .int 0, .int 0, .null, .null, .null, .null, .long 0, .int 0, .int 0, .int 0]) : va_E) := zm_up_s
  generalize hMx : zm_up Mx a (.inr (5, [.int 0, .ref q1, .ref q2, .null, .null, .null, .null, .int 0, .int 0, .null, .null, .null, .null, .long 0, .int 0, .int 0, .int 0]) : va_E) = Mx at *
  clear hMx
  refine lv_aload_n hx hb dX6_init_20 rfl (lv_at hl 0 rfl) ?_
  refine lv_bipush (v := 50) hx hb dX6_init_21 (by decide) ?_
  refine zm_newI hx hb hts hE hA hM hS aw_int (by decide) (N := 50) (by decide) (by decide) (Nat.le_of_ble_eq_true rfl) (Nat.le_of_ble_eq_true rfl) dX6_init_23 (fun q3 H nq3 hM hS => ?_)
  have hnd := nd_new hnd hns nq3
  have hns := ns_new hns q3 (zm_I G 50 (fun _ => 0))
  have h0 := zm_up_k (e := (zm_I G 50 (fun _ => 0))) (zm_neN h0 nq3) h0
  have kq1 := zm_up_k (e := (zm_I G 50 (fun _ => 0))) (zm_neN kq1 nq3) kq1
  have kq2 := zm_up_k (e := (zm_I G 50 (fun _ => 0))) (zm_neN kq2 nq3) kq2
  have kq3 : zm_up Mx q3 (zm_I G 50 (fun _ => 0)) q3 = some (zm_I G 50 (fun _ => 0)) := zm_up_s
  generalize hMx : zm_up Mx q3 (zm_I G 50 (fun _ => 0)) = Mx at *
  clear hMx nq3
  refine zm_putF hx hb hts hown hnm hE hM hS h0 fp_X6_16_5 rfl rfl (Nat.le_of_ble_eq_true rfl) dX6_init_25 (fun H locs hM hS => ?_)
  have hM : zm_P G A (zm_up Mx a (.inr (5, [.int 0, .ref q1, .ref q2, .ref q3, .null, .null, .null, .int 0, .int 0, .null, .null, .null, .null, .long 0, .int 0, .int 0, .int 0]) : va_E)) H := hM
  have kq1 := zm_up_k (e := (.inr (5, [.int 0, .ref q1, .ref q2, .ref q3, .null, .null, .null, .int 0, .int 0, .null, .null, .null, .null, .long 0, .int 0, .int 0, .int 0]) : va_E)) (zm_ne kq1 h0 (by simp)) kq1
  have kq2 := zm_up_k (e := (.inr (5, [.int 0, .ref q1, .ref q2, .ref q3, .null, .null, .null, .int 0, .int 0, .null, .null, .null, .null, .long 0, .int 0, .int 0, .int 0]) : va_E)) (zm_ne kq2 h0 (by simp)) kq2
  have kq3 := zm_up_k (e := (.inr (5, [.int 0, .ref q1, .ref q2, .ref q3, .null, .null, .null, .int 0, .int 0, .null, .null, .null, .null, .long 0, .int 0, .int 0, .int 0]) : va_E)) (zm_ne kq3 h0 (by simp)) kq3
  have hns := ns_up hns a (.inr (5, [.int 0, .ref q1, .ref q2, .ref q3, .null, .null, .null, .int 0, .int 0, .null, .null, .null, .null, .long 0, .int 0, .int 0, .int 0]) : va_E)
  have h0 : zm_up Mx a (.inr (5, [.int 0, .ref q1, .ref q2, .ref q3, .null, .null, .null, .int 0, .int 0, .null, .null, .null, .null, .long 0, .int 0, .int 0, .int 0]) : va_E) a = some (.inr (5, [.int 0, .ref q1, .ref q2, .ref q3, .null, .null, .null, .int 0, .int 0, .null, .null, .null, .null, .long 0, .int 0, .int 0, .int 0]) : va_E) := zm_up_s
  generalize hMx : zm_up Mx a (.inr (5, [.int 0, .ref q1, .ref q2, .ref q3, .null, .null, .null, .int 0, .int 0, .null, .null, .null, .null, .long 0, .int 0, .int 0, .int 0]) : va_E) = Mx at *
  clear hMx
  refine lv_aload_n hx hb dX6_init_28 rfl (lv_at hl 0 rfl) ?_
  refine lv_sipush (v := 750) hx hb dX6_init_29 (by decide) ?_
  refine zm_newJ hx hb hts hE hA hM hS aw_long (by decide) (N := 750) (by decide) (by decide) (Nat.le_of_ble_eq_true rfl) (Nat.le_of_ble_eq_true rfl) dX6_init_32 (fun q4 H nq4 hM hS => ?_)
  have hnd := nd_new hnd hns nq4
  have hns := ns_new hns q4 (zm_J G 750 (fun _ => 0))
  have h0 := zm_up_k (e := (zm_J G 750 (fun _ => 0))) (zm_neN h0 nq4) h0
  have kq1 := zm_up_k (e := (zm_J G 750 (fun _ => 0))) (zm_neN kq1 nq4) kq1
  have kq2 := zm_up_k (e := (zm_J G 750 (fun _ => 0))) (zm_neN kq2 nq4) kq2
  have kq3 := zm_up_k (e := (zm_J G 750 (fun _ => 0))) (zm_neN kq3 nq4) kq3
  have kq4 : zm_up Mx q4 (zm_J G 750 (fun _ => 0)) q4 = some (zm_J G 750 (fun _ => 0)) := zm_up_s
  generalize hMx : zm_up Mx q4 (zm_J G 750 (fun _ => 0)) = Mx at *
  clear hMx nq4
  refine zm_putF hx hb hts hown hnm hE hM hS h0 fp_X6_19_5 rfl rfl (Nat.le_of_ble_eq_true rfl) dX6_init_34 (fun H locs hM hS => ?_)
  have hM : zm_P G A (zm_up Mx a (.inr (5, [.int 0, .ref q1, .ref q2, .ref q3, .ref q4, .null, .null, .int 0, .int 0, .null, .null, .null, .null, .long 0, .int 0, .int 0, .int 0]) : va_E)) H := hM
  have kq1 := zm_up_k (e := (.inr (5, [.int 0, .ref q1, .ref q2, .ref q3, .ref q4, .null, .null, .int 0, .int 0, .null, .null, .null, .null, .long 0, .int 0, .int 0, .int 0]) : va_E)) (zm_ne kq1 h0 (by simp)) kq1
  have kq2 := zm_up_k (e := (.inr (5, [.int 0, .ref q1, .ref q2, .ref q3, .ref q4, .null, .null, .int 0, .int 0, .null, .null, .null, .null, .long 0, .int 0, .int 0, .int 0]) : va_E)) (zm_ne kq2 h0 (by simp)) kq2
  have kq3 := zm_up_k (e := (.inr (5, [.int 0, .ref q1, .ref q2, .ref q3, .ref q4, .null, .null, .int 0, .int 0, .null, .null, .null, .null, .long 0, .int 0, .int 0, .int 0]) : va_E)) (zm_ne kq3 h0 (by simp)) kq3
  have kq4 := zm_up_k (e := (.inr (5, [.int 0, .ref q1, .ref q2, .ref q3, .ref q4, .null, .null, .int 0, .int 0, .null, .null, .null, .null, .long 0, .int 0, .int 0, .int 0]) : va_E)) (zm_ne kq4 h0 (by simp)) kq4
  have hns := ns_up hns a (.inr (5, [.int 0, .ref q1, .ref q2, .ref q3, .ref q4, .null, .null, .int 0, .int 0, .null, .null, .null, .null, .long 0, .int 0, .int 0, .int 0]) : va_E)
  have h0 : zm_up Mx a (.inr (5, [.int 0, .ref q1, .ref q2, .ref q3, .ref q4, .null, .null, .int 0, .int 0, .null, .null, .null, .null, .long 0, .int 0, .int 0, .int 0]) : va_E) a = some (.inr (5, [.int 0, .ref q1, .ref q2, .ref q3, .ref q4, .null, .null, .int 0, .int 0, .null, .null, .null, .null, .long 0, .int 0, .int 0, .int 0]) : va_E) := zm_up_s
  generalize hMx : zm_up Mx a (.inr (5, [.int 0, .ref q1, .ref q2, .ref q3, .ref q4, .null, .null, .int 0, .int 0, .null, .null, .null, .null, .long 0, .int 0, .int 0, .int 0]) : va_E) = Mx at *
  clear hMx
  refine lv_aload_n hx hb dX6_init_37 rfl (lv_at hl 0 rfl) ?_
  refine lv_sipush (v := 250) hx hb dX6_init_38 (by decide) ?_
  refine zm_newI hx hb hts hE hA hM hS aw_int (by decide) (N := 250) (by decide) (by decide) (Nat.le_of_ble_eq_true rfl) (Nat.le_of_ble_eq_true rfl) dX6_init_41 (fun q5 H nq5 hM hS => ?_)
  have hnd := nd_new hnd hns nq5
  have hns := ns_new hns q5 (zm_I G 250 (fun _ => 0))
  have h0 := zm_up_k (e := (zm_I G 250 (fun _ => 0))) (zm_neN h0 nq5) h0
  have kq1 := zm_up_k (e := (zm_I G 250 (fun _ => 0))) (zm_neN kq1 nq5) kq1
  have kq2 := zm_up_k (e := (zm_I G 250 (fun _ => 0))) (zm_neN kq2 nq5) kq2
  have kq3 := zm_up_k (e := (zm_I G 250 (fun _ => 0))) (zm_neN kq3 nq5) kq3
  have kq4 := zm_up_k (e := (zm_I G 250 (fun _ => 0))) (zm_neN kq4 nq5) kq4
  have kq5 : zm_up Mx q5 (zm_I G 250 (fun _ => 0)) q5 = some (zm_I G 250 (fun _ => 0)) := zm_up_s
  generalize hMx : zm_up Mx q5 (zm_I G 250 (fun _ => 0)) = Mx at *
  clear hMx nq5
  refine zm_putF hx hb hts hown hnm hE hM hS h0 fp_X6_23_5 rfl rfl (Nat.le_of_ble_eq_true rfl) dX6_init_43 (fun H locs hM hS => ?_)
  have hM : zm_P G A (zm_up Mx a (.inr (5, [.int 0, .ref q1, .ref q2, .ref q3, .ref q4, .ref q5, .null, .int 0, .int 0, .null, .null, .null, .null, .long 0, .int 0, .int 0, .int 0]) : va_E)) H := hM
  have kq1 := zm_up_k (e := (.inr (5, [.int 0, .ref q1, .ref q2, .ref q3, .ref q4, .ref q5, .null, .int 0, .int 0, .null, .null, .null, .null, .long 0, .int 0, .int 0, .int 0]) : va_E)) (zm_ne kq1 h0 (by simp)) kq1
  have kq2 := zm_up_k (e := (.inr (5, [.int 0, .ref q1, .ref q2, .ref q3, .ref q4, .ref q5, .null, .int 0, .int 0, .null, .null, .null, .null, .long 0, .int 0, .int 0, .int 0]) : va_E)) (zm_ne kq2 h0 (by simp)) kq2
  have kq3 := zm_up_k (e := (.inr (5, [.int 0, .ref q1, .ref q2, .ref q3, .ref q4, .ref q5, .null, .int 0, .int 0, .null, .null, .null, .null, .long 0, .int 0, .int 0, .int 0]) : va_E)) (zm_ne kq3 h0 (by simp)) kq3
  have kq4 := zm_up_k (e := (.inr (5, [.int 0, .ref q1, .ref q2, .ref q3, .ref q4, .ref q5, .null, .int 0, .int 0, .null, .null, .null, .null, .long 0, .int 0, .int 0, .int 0]) : va_E)) (zm_ne kq4 h0 (by simp)) kq4
  have kq5 := zm_up_k (e := (.inr (5, [.int 0, .ref q1, .ref q2, .ref q3, .ref q4, .ref q5, .null, .int 0, .int 0, .null, .null, .null, .null, .long 0, .int 0, .int 0, .int 0]) : va_E)) (zm_ne kq5 h0 (by simp)) kq5
  have hns := ns_up hns a (.inr (5, [.int 0, .ref q1, .ref q2, .ref q3, .ref q4, .ref q5, .null, .int 0, .int 0, .null, .null, .null, .null, .long 0, .int 0, .int 0, .int 0]) : va_E)
  have h0 : zm_up Mx a (.inr (5, [.int 0, .ref q1, .ref q2, .ref q3, .ref q4, .ref q5, .null, .int 0, .int 0, .null, .null, .null, .null, .long 0, .int 0, .int 0, .int 0]) : va_E) a = some (.inr (5, [.int 0, .ref q1, .ref q2, .ref q3, .ref q4, .ref q5, .null, .int 0, .int 0, .null, .null, .null, .null, .long 0, .int 0, .int 0, .int 0]) : va_E) := zm_up_s
  generalize hMx : zm_up Mx a (.inr (5, [.int 0, .ref q1, .ref q2, .ref q3, .ref q4, .ref q5, .null, .int 0, .int 0, .null, .null, .null, .null, .long 0, .int 0, .int 0, .int 0]) : va_E) = Mx at *
  clear hMx
  refine lv_aload_n hx hb dX6_init_46 rfl (lv_at hl 0 rfl) ?_
  refine lv_bipush (v := 10) hx hb dX6_init_47 (by decide) ?_
  refine zm_newI hx hb hts hE hA hM hS aw_int (by decide) (N := 10) (by decide) (by decide) (Nat.le_of_ble_eq_true rfl) (Nat.le_of_ble_eq_true rfl) dX6_init_49 (fun q6 H nq6 hM hS => ?_)
  have hnd := nd_new hnd hns nq6
  have hns := ns_new hns q6 (zm_I G 10 (fun _ => 0))
  have h0 := zm_up_k (e := (zm_I G 10 (fun _ => 0))) (zm_neN h0 nq6) h0
  have kq1 := zm_up_k (e := (zm_I G 10 (fun _ => 0))) (zm_neN kq1 nq6) kq1
  have kq2 := zm_up_k (e := (zm_I G 10 (fun _ => 0))) (zm_neN kq2 nq6) kq2
  have kq3 := zm_up_k (e := (zm_I G 10 (fun _ => 0))) (zm_neN kq3 nq6) kq3
  have kq4 := zm_up_k (e := (zm_I G 10 (fun _ => 0))) (zm_neN kq4 nq6) kq4
  have kq5 := zm_up_k (e := (zm_I G 10 (fun _ => 0))) (zm_neN kq5 nq6) kq5
  have kq6 : zm_up Mx q6 (zm_I G 10 (fun _ => 0)) q6 = some (zm_I G 10 (fun _ => 0)) := zm_up_s
  generalize hMx : zm_up Mx q6 (zm_I G 10 (fun _ => 0)) = Mx at *
  clear hMx nq6
  refine zm_putF hx hb hts hown hnm hE hM hS h0 fp_X6_26_5 rfl rfl (Nat.le_of_ble_eq_true rfl) dX6_init_51 (fun H locs hM hS => ?_)
  have hM : zm_P G A (zm_up Mx a (.inr (5, [.int 0, .ref q1, .ref q2, .ref q3, .ref q4, .ref q5, .ref q6, .int 0, .int 0, .null, .null, .null, .null, .long 0, .int 0, .int 0, .int 0]) : va_E)) H := hM
  have kq1 := zm_up_k (e := (.inr (5, [.int 0, .ref q1, .ref q2, .ref q3, .ref q4, .ref q5, .ref q6, .int 0, .int 0, .null, .null, .null, .null, .long 0, .int 0, .int 0, .int 0]) : va_E)) (zm_ne kq1 h0 (by simp)) kq1
  have kq2 := zm_up_k (e := (.inr (5, [.int 0, .ref q1, .ref q2, .ref q3, .ref q4, .ref q5, .ref q6, .int 0, .int 0, .null, .null, .null, .null, .long 0, .int 0, .int 0, .int 0]) : va_E)) (zm_ne kq2 h0 (by simp)) kq2
  have kq3 := zm_up_k (e := (.inr (5, [.int 0, .ref q1, .ref q2, .ref q3, .ref q4, .ref q5, .ref q6, .int 0, .int 0, .null, .null, .null, .null, .long 0, .int 0, .int 0, .int 0]) : va_E)) (zm_ne kq3 h0 (by simp)) kq3
  have kq4 := zm_up_k (e := (.inr (5, [.int 0, .ref q1, .ref q2, .ref q3, .ref q4, .ref q5, .ref q6, .int 0, .int 0, .null, .null, .null, .null, .long 0, .int 0, .int 0, .int 0]) : va_E)) (zm_ne kq4 h0 (by simp)) kq4
  have kq5 := zm_up_k (e := (.inr (5, [.int 0, .ref q1, .ref q2, .ref q3, .ref q4, .ref q5, .ref q6, .int 0, .int 0, .null, .null, .null, .null, .long 0, .int 0, .int 0, .int 0]) : va_E)) (zm_ne kq5 h0 (by simp)) kq5
  have kq6 := zm_up_k (e := (.inr (5, [.int 0, .ref q1, .ref q2, .ref q3, .ref q4, .ref q5, .ref q6, .int 0, .int 0, .null, .null, .null, .null, .long 0, .int 0, .int 0, .int 0]) : va_E)) (zm_ne kq6 h0 (by simp)) kq6
  have hns := ns_up hns a (.inr (5, [.int 0, .ref q1, .ref q2, .ref q3, .ref q4, .ref q5, .ref q6, .int 0, .int 0, .null, .null, .null, .null, .long 0, .int 0, .int 0, .int 0]) : va_E)
  have h0 : zm_up Mx a (.inr (5, [.int 0, .ref q1, .ref q2, .ref q3, .ref q4, .ref q5, .ref q6, .int 0, .int 0, .null, .null, .null, .null, .long 0, .int 0, .int 0, .int 0]) : va_E) a = some (.inr (5, [.int 0, .ref q1, .ref q2, .ref q3, .ref q4, .ref q5, .ref q6, .int 0, .int 0, .null, .null, .null, .null, .long 0, .int 0, .int 0, .int 0]) : va_E) := zm_up_s
  generalize hMx : zm_up Mx a (.inr (5, [.int 0, .ref q1, .ref q2, .ref q3, .ref q4, .ref q5, .ref q6, .int 0, .int 0, .null, .null, .null, .null, .long 0, .int 0, .int 0, .int 0]) : va_E) = Mx at *
  clear hMx
  refine lv_aload_n hx hb dX6_init_54 rfl (lv_at hl 0 rfl) ?_
  refine lv_iconst (v := (-1)) hx hb dX6_init_55 (by decide) ?_
  refine zm_put hx hb hts hown hE hM hS h0 fp_X6_29_5 rfl rfl (Nat.le_of_ble_eq_true rfl) dX6_init_56 (fun H locs hM hS => ?_)
  have hM : zm_P G A (zm_up Mx a (.inr (5, [.int 0, .ref q1, .ref q2, .ref q3, .ref q4, .ref q5, .ref q6, .int (-1), .int 0, .null, .null, .null, .null, .long 0, .int 0, .int 0, .int 0]) : va_E)) H := hM
  have kq1 := zm_up_k (e := (.inr (5, [.int 0, .ref q1, .ref q2, .ref q3, .ref q4, .ref q5, .ref q6, .int (-1), .int 0, .null, .null, .null, .null, .long 0, .int 0, .int 0, .int 0]) : va_E)) (zm_ne kq1 h0 (by simp)) kq1
  have kq2 := zm_up_k (e := (.inr (5, [.int 0, .ref q1, .ref q2, .ref q3, .ref q4, .ref q5, .ref q6, .int (-1), .int 0, .null, .null, .null, .null, .long 0, .int 0, .int 0, .int 0]) : va_E)) (zm_ne kq2 h0 (by simp)) kq2
  have kq3 := zm_up_k (e := (.inr (5, [.int 0, .ref q1, .ref q2, .ref q3, .ref q4, .ref q5, .ref q6, .int (-1), .int 0, .null, .null, .null, .null, .long 0, .int 0, .int 0, .int 0]) : va_E)) (zm_ne kq3 h0 (by simp)) kq3
  have kq4 := zm_up_k (e := (.inr (5, [.int 0, .ref q1, .ref q2, .ref q3, .ref q4, .ref q5, .ref q6, .int (-1), .int 0, .null, .null, .null, .null, .long 0, .int 0, .int 0, .int 0]) : va_E)) (zm_ne kq4 h0 (by simp)) kq4
  have kq5 := zm_up_k (e := (.inr (5, [.int 0, .ref q1, .ref q2, .ref q3, .ref q4, .ref q5, .ref q6, .int (-1), .int 0, .null, .null, .null, .null, .long 0, .int 0, .int 0, .int 0]) : va_E)) (zm_ne kq5 h0 (by simp)) kq5
  have kq6 := zm_up_k (e := (.inr (5, [.int 0, .ref q1, .ref q2, .ref q3, .ref q4, .ref q5, .ref q6, .int (-1), .int 0, .null, .null, .null, .null, .long 0, .int 0, .int 0, .int 0]) : va_E)) (zm_ne kq6 h0 (by simp)) kq6
  have hns := ns_up hns a (.inr (5, [.int 0, .ref q1, .ref q2, .ref q3, .ref q4, .ref q5, .ref q6, .int (-1), .int 0, .null, .null, .null, .null, .long 0, .int 0, .int 0, .int 0]) : va_E)
  have h0 : zm_up Mx a (.inr (5, [.int 0, .ref q1, .ref q2, .ref q3, .ref q4, .ref q5, .ref q6, .int (-1), .int 0, .null, .null, .null, .null, .long 0, .int 0, .int 0, .int 0]) : va_E) a = some (.inr (5, [.int 0, .ref q1, .ref q2, .ref q3, .ref q4, .ref q5, .ref q6, .int (-1), .int 0, .null, .null, .null, .null, .long 0, .int 0, .int 0, .int 0]) : va_E) := zm_up_s
  generalize hMx : zm_up Mx a (.inr (5, [.int 0, .ref q1, .ref q2, .ref q3, .ref q4, .ref q5, .ref q6, .int (-1), .int 0, .null, .null, .null, .null, .long 0, .int 0, .int 0, .int 0]) : va_E) = Mx at *
  clear hMx
  refine lv_aload_n hx hb dX6_init_59 rfl (lv_at hl 0 rfl) ?_
  refine lv_bipush (v := 30) hx hb dX6_init_60 (by decide) ?_
  refine zm_newI hx hb hts hE hA hM hS aw_int (by decide) (N := 30) (by decide) (by decide) (Nat.le_of_ble_eq_true rfl) (Nat.le_of_ble_eq_true rfl) dX6_init_62 (fun q7 H nq7 hM hS => ?_)
  have hnd := nd_new hnd hns nq7
  have hns := ns_new hns q7 (zm_I G 30 (fun _ => 0))
  have h0 := zm_up_k (e := (zm_I G 30 (fun _ => 0))) (zm_neN h0 nq7) h0
  have kq1 := zm_up_k (e := (zm_I G 30 (fun _ => 0))) (zm_neN kq1 nq7) kq1
  have kq2 := zm_up_k (e := (zm_I G 30 (fun _ => 0))) (zm_neN kq2 nq7) kq2
  have kq3 := zm_up_k (e := (zm_I G 30 (fun _ => 0))) (zm_neN kq3 nq7) kq3
  have kq4 := zm_up_k (e := (zm_I G 30 (fun _ => 0))) (zm_neN kq4 nq7) kq4
  have kq5 := zm_up_k (e := (zm_I G 30 (fun _ => 0))) (zm_neN kq5 nq7) kq5
  have kq6 := zm_up_k (e := (zm_I G 30 (fun _ => 0))) (zm_neN kq6 nq7) kq6
  have kq7 : zm_up Mx q7 (zm_I G 30 (fun _ => 0)) q7 = some (zm_I G 30 (fun _ => 0)) := zm_up_s
  generalize hMx : zm_up Mx q7 (zm_I G 30 (fun _ => 0)) = Mx at *
  clear hMx nq7
  refine zm_putF hx hb hts hown hnm hE hM hS h0 fp_X6_33_5 rfl rfl (Nat.le_of_ble_eq_true rfl) dX6_init_64 (fun H locs hM hS => ?_)
  have hM : zm_P G A (zm_up Mx a (.inr (5, [.int 0, .ref q1, .ref q2, .ref q3, .ref q4, .ref q5, .ref q6, .int (-1), .int 0, .ref q7, .null, .null, .null, .long 0, .int 0, .int 0, .int 0]) : va_E)) H := hM
  have kq1 := zm_up_k (e := (.inr (5, [.int 0, .ref q1, .ref q2, .ref q3, .ref q4, .ref q5, .ref q6, .int (-1), .int 0, .ref q7, .null, .null, .null, .long 0, .int 0, .int 0, .int 0]) : va_E)) (zm_ne kq1 h0 (by simp)) kq1
  have kq2 := zm_up_k (e := (.inr (5, [.int 0, .ref q1, .ref q2, .ref q3, .ref q4, .ref q5, .ref q6, .int (-1), .int 0, .ref q7, .null, .null, .null, .long 0, .int 0, .int 0, .int 0]) : va_E)) (zm_ne kq2 h0 (by simp)) kq2
  have kq3 := zm_up_k (e := (.inr (5, [.int 0, .ref q1, .ref q2, .ref q3, .ref q4, .ref q5, .ref q6, .int (-1), .int 0, .ref q7, .null, .null, .null, .long 0, .int 0, .int 0, .int 0]) : va_E)) (zm_ne kq3 h0 (by simp)) kq3
  have kq4 := zm_up_k (e := (.inr (5, [.int 0, .ref q1, .ref q2, .ref q3, .ref q4, .ref q5, .ref q6, .int (-1), .int 0, .ref q7, .null, .null, .null, .long 0, .int 0, .int 0, .int 0]) : va_E)) (zm_ne kq4 h0 (by simp)) kq4
  have kq5 := zm_up_k (e := (.inr (5, [.int 0, .ref q1, .ref q2, .ref q3, .ref q4, .ref q5, .ref q6, .int (-1), .int 0, .ref q7, .null, .null, .null, .long 0, .int 0, .int 0, .int 0]) : va_E)) (zm_ne kq5 h0 (by simp)) kq5
  have kq6 := zm_up_k (e := (.inr (5, [.int 0, .ref q1, .ref q2, .ref q3, .ref q4, .ref q5, .ref q6, .int (-1), .int 0, .ref q7, .null, .null, .null, .long 0, .int 0, .int 0, .int 0]) : va_E)) (zm_ne kq6 h0 (by simp)) kq6
  have kq7 := zm_up_k (e := (.inr (5, [.int 0, .ref q1, .ref q2, .ref q3, .ref q4, .ref q5, .ref q6, .int (-1), .int 0, .ref q7, .null, .null, .null, .long 0, .int 0, .int 0, .int 0]) : va_E)) (zm_ne kq7 h0 (by simp)) kq7
  have hns := ns_up hns a (.inr (5, [.int 0, .ref q1, .ref q2, .ref q3, .ref q4, .ref q5, .ref q6, .int (-1), .int 0, .ref q7, .null, .null, .null, .long 0, .int 0, .int 0, .int 0]) : va_E)
  have h0 : zm_up Mx a (.inr (5, [.int 0, .ref q1, .ref q2, .ref q3, .ref q4, .ref q5, .ref q6, .int (-1), .int 0, .ref q7, .null, .null, .null, .long 0, .int 0, .int 0, .int 0]) : va_E) a = some (.inr (5, [.int 0, .ref q1, .ref q2, .ref q3, .ref q4, .ref q5, .ref q6, .int (-1), .int 0, .ref q7, .null, .null, .null, .long 0, .int 0, .int 0, .int 0]) : va_E) := zm_up_s
  generalize hMx : zm_up Mx a (.inr (5, [.int 0, .ref q1, .ref q2, .ref q3, .ref q4, .ref q5, .ref q6, .int (-1), .int 0, .ref q7, .null, .null, .null, .long 0, .int 0, .int 0, .int 0]) : va_E) = Mx at *
  clear hMx
  refine lv_aload_n hx hb dX6_init_67 rfl (lv_at hl 0 rfl) ?_
  refine lv_bipush (v := 30) hx hb dX6_init_68 (by decide) ?_
  refine zm_newI hx hb hts hE hA hM hS aw_int (by decide) (N := 30) (by decide) (by decide) (Nat.le_of_ble_eq_true rfl) (Nat.le_of_ble_eq_true rfl) dX6_init_70 (fun q8 H nq8 hM hS => ?_)
  have hnd := nd_new hnd hns nq8
  have hns := ns_new hns q8 (zm_I G 30 (fun _ => 0))
  have h0 := zm_up_k (e := (zm_I G 30 (fun _ => 0))) (zm_neN h0 nq8) h0
  have kq1 := zm_up_k (e := (zm_I G 30 (fun _ => 0))) (zm_neN kq1 nq8) kq1
  have kq2 := zm_up_k (e := (zm_I G 30 (fun _ => 0))) (zm_neN kq2 nq8) kq2
  have kq3 := zm_up_k (e := (zm_I G 30 (fun _ => 0))) (zm_neN kq3 nq8) kq3
  have kq4 := zm_up_k (e := (zm_I G 30 (fun _ => 0))) (zm_neN kq4 nq8) kq4
  have kq5 := zm_up_k (e := (zm_I G 30 (fun _ => 0))) (zm_neN kq5 nq8) kq5
  have kq6 := zm_up_k (e := (zm_I G 30 (fun _ => 0))) (zm_neN kq6 nq8) kq6
  have kq7 := zm_up_k (e := (zm_I G 30 (fun _ => 0))) (zm_neN kq7 nq8) kq7
  have kq8 : zm_up Mx q8 (zm_I G 30 (fun _ => 0)) q8 = some (zm_I G 30 (fun _ => 0)) := zm_up_s
  generalize hMx : zm_up Mx q8 (zm_I G 30 (fun _ => 0)) = Mx at *
  clear hMx nq8
  refine zm_putF hx hb hts hown hnm hE hM hS h0 fp_X6_36_5 rfl rfl (Nat.le_of_ble_eq_true rfl) dX6_init_72 (fun H locs hM hS => ?_)
  have hM : zm_P G A (zm_up Mx a (.inr (5, [.int 0, .ref q1, .ref q2, .ref q3, .ref q4, .ref q5, .ref q6, .int (-1), .int 0, .ref q7, .ref q8, .null, .null, .long 0, .int 0, .int 0, .int 0]) : va_E)) H := hM
  have kq1 := zm_up_k (e := (.inr (5, [.int 0, .ref q1, .ref q2, .ref q3, .ref q4, .ref q5, .ref q6, .int (-1), .int 0, .ref q7, .ref q8, .null, .null, .long 0, .int 0, .int 0, .int 0]) : va_E)) (zm_ne kq1 h0 (by simp)) kq1
  have kq2 := zm_up_k (e := (.inr (5, [.int 0, .ref q1, .ref q2, .ref q3, .ref q4, .ref q5, .ref q6, .int (-1), .int 0, .ref q7, .ref q8, .null, .null, .long 0, .int 0, .int 0, .int 0]) : va_E)) (zm_ne kq2 h0 (by simp)) kq2
  have kq3 := zm_up_k (e := (.inr (5, [.int 0, .ref q1, .ref q2, .ref q3, .ref q4, .ref q5, .ref q6, .int (-1), .int 0, .ref q7, .ref q8, .null, .null, .long 0, .int 0, .int 0, .int 0]) : va_E)) (zm_ne kq3 h0 (by simp)) kq3
  have kq4 := zm_up_k (e := (.inr (5, [.int 0, .ref q1, .ref q2, .ref q3, .ref q4, .ref q5, .ref q6, .int (-1), .int 0, .ref q7, .ref q8, .null, .null, .long 0, .int 0, .int 0, .int 0]) : va_E)) (zm_ne kq4 h0 (by simp)) kq4
  have kq5 := zm_up_k (e := (.inr (5, [.int 0, .ref q1, .ref q2, .ref q3, .ref q4, .ref q5, .ref q6, .int (-1), .int 0, .ref q7, .ref q8, .null, .null, .long 0, .int 0, .int 0, .int 0]) : va_E)) (zm_ne kq5 h0 (by simp)) kq5
  have kq6 := zm_up_k (e := (.inr (5, [.int 0, .ref q1, .ref q2, .ref q3, .ref q4, .ref q5, .ref q6, .int (-1), .int 0, .ref q7, .ref q8, .null, .null, .long 0, .int 0, .int 0, .int 0]) : va_E)) (zm_ne kq6 h0 (by simp)) kq6
  have kq7 := zm_up_k (e := (.inr (5, [.int 0, .ref q1, .ref q2, .ref q3, .ref q4, .ref q5, .ref q6, .int (-1), .int 0, .ref q7, .ref q8, .null, .null, .long 0, .int 0, .int 0, .int 0]) : va_E)) (zm_ne kq7 h0 (by simp)) kq7
  have kq8 := zm_up_k (e := (.inr (5, [.int 0, .ref q1, .ref q2, .ref q3, .ref q4, .ref q5, .ref q6, .int (-1), .int 0, .ref q7, .ref q8, .null, .null, .long 0, .int 0, .int 0, .int 0]) : va_E)) (zm_ne kq8 h0 (by simp)) kq8
  have hns := ns_up hns a (.inr (5, [.int 0, .ref q1, .ref q2, .ref q3, .ref q4, .ref q5, .ref q6, .int (-1), .int 0, .ref q7, .ref q8, .null, .null, .long 0, .int 0, .int 0, .int 0]) : va_E)
  have h0 : zm_up Mx a (.inr (5, [.int 0, .ref q1, .ref q2, .ref q3, .ref q4, .ref q5, .ref q6, .int (-1), .int 0, .ref q7, .ref q8, .null, .null, .long 0, .int 0, .int 0, .int 0]) : va_E) a = some (.inr (5, [.int 0, .ref q1, .ref q2, .ref q3, .ref q4, .ref q5, .ref q6, .int (-1), .int 0, .ref q7, .ref q8, .null, .null, .long 0, .int 0, .int 0, .int 0]) : va_E) := zm_up_s
  generalize hMx : zm_up Mx a (.inr (5, [.int 0, .ref q1, .ref q2, .ref q3, .ref q4, .ref q5, .ref q6, .int (-1), .int 0, .ref q7, .ref q8, .null, .null, .long 0, .int 0, .int 0, .int 0]) : va_E) = Mx at *
  clear hMx
  refine lv_aload_n hx hb dX6_init_75 rfl (lv_at hl 0 rfl) ?_
  refine lv_bipush (v := 30) hx hb dX6_init_76 (by decide) ?_
  refine zm_newI hx hb hts hE hA hM hS aw_int (by decide) (N := 30) (by decide) (by decide) (Nat.le_of_ble_eq_true rfl) (Nat.le_of_ble_eq_true rfl) dX6_init_78 (fun q9 H nq9 hM hS => ?_)
  have hnd := nd_new hnd hns nq9
  have hns := ns_new hns q9 (zm_I G 30 (fun _ => 0))
  have h0 := zm_up_k (e := (zm_I G 30 (fun _ => 0))) (zm_neN h0 nq9) h0
  have kq1 := zm_up_k (e := (zm_I G 30 (fun _ => 0))) (zm_neN kq1 nq9) kq1
  have kq2 := zm_up_k (e := (zm_I G 30 (fun _ => 0))) (zm_neN kq2 nq9) kq2
  have kq3 := zm_up_k (e := (zm_I G 30 (fun _ => 0))) (zm_neN kq3 nq9) kq3
  have kq4 := zm_up_k (e := (zm_I G 30 (fun _ => 0))) (zm_neN kq4 nq9) kq4
  have kq5 := zm_up_k (e := (zm_I G 30 (fun _ => 0))) (zm_neN kq5 nq9) kq5
  have kq6 := zm_up_k (e := (zm_I G 30 (fun _ => 0))) (zm_neN kq6 nq9) kq6
  have kq7 := zm_up_k (e := (zm_I G 30 (fun _ => 0))) (zm_neN kq7 nq9) kq7
  have kq8 := zm_up_k (e := (zm_I G 30 (fun _ => 0))) (zm_neN kq8 nq9) kq8
  have kq9 : zm_up Mx q9 (zm_I G 30 (fun _ => 0)) q9 = some (zm_I G 30 (fun _ => 0)) := zm_up_s
  generalize hMx : zm_up Mx q9 (zm_I G 30 (fun _ => 0)) = Mx at *
  clear hMx nq9
  refine zm_putF hx hb hts hown hnm hE hM hS h0 fp_X6_39_5 rfl rfl (Nat.le_of_ble_eq_true rfl) dX6_init_80 (fun H locs hM hS => ?_)
  have hM : zm_P G A (zm_up Mx a (.inr (5, [.int 0, .ref q1, .ref q2, .ref q3, .ref q4, .ref q5, .ref q6, .int (-1), .int 0, .ref q7, .ref q8, .ref q9, .null, .long 0, .int 0, .int 0, .int 0]) : va_E)) H := hM
  have kq1 := zm_up_k (e := (.inr (5, [.int 0, .ref q1, .ref q2, .ref q3, .ref q4, .ref q5, .ref q6, .int (-1), .int 0, .ref q7, .ref q8, .ref q9, .null, .long 0, .int 0, .int 0, .int 0]) : va_E)) (zm_ne kq1 h0 (by simp)) kq1
  have kq2 := zm_up_k (e := (.inr (5, [.int 0, .ref q1, .ref q2, .ref q3, .ref q4, .ref q5, .ref q6, .int (-1), .int 0, .ref q7, .ref q8, .ref q9, .null, .long 0, .int 0, .int 0, .int 0]) : va_E)) (zm_ne kq2 h0 (by simp)) kq2
  have kq3 := zm_up_k (e := (.inr (5, [.int 0, .ref q1, .ref q2, .ref q3, .ref q4, .ref q5, .ref q6, .int (-1), .int 0, .ref q7, .ref q8, .ref q9, .null, .long 0, .int 0, .int 0, .int 0]) : va_E)) (zm_ne kq3 h0 (by simp)) kq3
  have kq4 := zm_up_k (e := (.inr (5, [.int 0, .ref q1, .ref q2, .ref q3, .ref q4, .ref q5, .ref q6, .int (-1), .int 0, .ref q7, .ref q8, .ref q9, .null, .long 0, .int 0, .int 0, .int 0]) : va_E)) (zm_ne kq4 h0 (by simp)) kq4
  have kq5 := zm_up_k (e := (.inr (5, [.int 0, .ref q1, .ref q2, .ref q3, .ref q4, .ref q5, .ref q6, .int (-1), .int 0, .ref q7, .ref q8, .ref q9, .null, .long 0, .int 0, .int 0, .int 0]) : va_E)) (zm_ne kq5 h0 (by simp)) kq5
  have kq6 := zm_up_k (e := (.inr (5, [.int 0, .ref q1, .ref q2, .ref q3, .ref q4, .ref q5, .ref q6, .int (-1), .int 0, .ref q7, .ref q8, .ref q9, .null, .long 0, .int 0, .int 0, .int 0]) : va_E)) (zm_ne kq6 h0 (by simp)) kq6
  have kq7 := zm_up_k (e := (.inr (5, [.int 0, .ref q1, .ref q2, .ref q3, .ref q4, .ref q5, .ref q6, .int (-1), .int 0, .ref q7, .ref q8, .ref q9, .null, .long 0, .int 0, .int 0, .int 0]) : va_E)) (zm_ne kq7 h0 (by simp)) kq7
  have kq8 := zm_up_k (e := (.inr (5, [.int 0, .ref q1, .ref q2, .ref q3, .ref q4, .ref q5, .ref q6, .int (-1), .int 0, .ref q7, .ref q8, .ref q9, .null, .long 0, .int 0, .int 0, .int 0]) : va_E)) (zm_ne kq8 h0 (by simp)) kq8
  have kq9 := zm_up_k (e := (.inr (5, [.int 0, .ref q1, .ref q2, .ref q3, .ref q4, .ref q5, .ref q6, .int (-1), .int 0, .ref q7, .ref q8, .ref q9, .null, .long 0, .int 0, .int 0, .int 0]) : va_E)) (zm_ne kq9 h0 (by simp)) kq9
  have hns := ns_up hns a (.inr (5, [.int 0, .ref q1, .ref q2, .ref q3, .ref q4, .ref q5, .ref q6, .int (-1), .int 0, .ref q7, .ref q8, .ref q9, .null, .long 0, .int 0, .int 0, .int 0]) : va_E)
  have h0 : zm_up Mx a (.inr (5, [.int 0, .ref q1, .ref q2, .ref q3, .ref q4, .ref q5, .ref q6, .int (-1), .int 0, .ref q7, .ref q8, .ref q9, .null, .long 0, .int 0, .int 0, .int 0]) : va_E) a = some (.inr (5, [.int 0, .ref q1, .ref q2, .ref q3, .ref q4, .ref q5, .ref q6, .int (-1), .int 0, .ref q7, .ref q8, .ref q9, .null, .long 0, .int 0, .int 0, .int 0]) : va_E) := zm_up_s
  generalize hMx : zm_up Mx a (.inr (5, [.int 0, .ref q1, .ref q2, .ref q3, .ref q4, .ref q5, .ref q6, .int (-1), .int 0, .ref q7, .ref q8, .ref q9, .null, .long 0, .int 0, .int 0, .int 0]) : va_E) = Mx at *
  clear hMx
  refine lv_aload_n hx hb dX6_init_83 rfl (lv_at hl 0 rfl) ?_
  refine lv_bipush (v := 30) hx hb dX6_init_84 (by decide) ?_
  refine zm_newI hx hb hts hE hA hM hS aw_int (by decide) (N := 30) (by decide) (by decide) (Nat.le_of_ble_eq_true rfl) (Nat.le_of_ble_eq_true rfl) dX6_init_86 (fun q10 H nq10 hM hS => ?_)
  have hnd := nd_new hnd hns nq10
  have hns := ns_new hns q10 (zm_I G 30 (fun _ => 0))
  have h0 := zm_up_k (e := (zm_I G 30 (fun _ => 0))) (zm_neN h0 nq10) h0
  have kq1 := zm_up_k (e := (zm_I G 30 (fun _ => 0))) (zm_neN kq1 nq10) kq1
  have kq2 := zm_up_k (e := (zm_I G 30 (fun _ => 0))) (zm_neN kq2 nq10) kq2
  have kq3 := zm_up_k (e := (zm_I G 30 (fun _ => 0))) (zm_neN kq3 nq10) kq3
  have kq4 := zm_up_k (e := (zm_I G 30 (fun _ => 0))) (zm_neN kq4 nq10) kq4
  have kq5 := zm_up_k (e := (zm_I G 30 (fun _ => 0))) (zm_neN kq5 nq10) kq5
  have kq6 := zm_up_k (e := (zm_I G 30 (fun _ => 0))) (zm_neN kq6 nq10) kq6
  have kq7 := zm_up_k (e := (zm_I G 30 (fun _ => 0))) (zm_neN kq7 nq10) kq7
  have kq8 := zm_up_k (e := (zm_I G 30 (fun _ => 0))) (zm_neN kq8 nq10) kq8
  have kq9 := zm_up_k (e := (zm_I G 30 (fun _ => 0))) (zm_neN kq9 nq10) kq9
  have kq10 : zm_up Mx q10 (zm_I G 30 (fun _ => 0)) q10 = some (zm_I G 30 (fun _ => 0)) := zm_up_s
  generalize hMx : zm_up Mx q10 (zm_I G 30 (fun _ => 0)) = Mx at *
  clear hMx nq10
  refine zm_putF hx hb hts hown hnm hE hM hS h0 fp_X6_42_5 rfl rfl (Nat.le_of_ble_eq_true rfl) dX6_init_88 (fun H locs hM hS => ?_)
  have hM : zm_P G A (zm_up Mx a (.inr (5, [.int 0, .ref q1, .ref q2, .ref q3, .ref q4, .ref q5, .ref q6, .int (-1), .int 0, .ref q7, .ref q8, .ref q9, .ref q10, .long 0, .int 0, .int 0, .int 0]) : va_E)) H := hM
  have kq1 := zm_up_k (e := (.inr (5, [.int 0, .ref q1, .ref q2, .ref q3, .ref q4, .ref q5, .ref q6, .int (-1), .int 0, .ref q7, .ref q8, .ref q9, .ref q10, .long 0, .int 0, .int 0, .int 0]) : va_E)) (zm_ne kq1 h0 (by simp)) kq1
  have kq2 := zm_up_k (e := (.inr (5, [.int 0, .ref q1, .ref q2, .ref q3, .ref q4, .ref q5, .ref q6, .int (-1), .int 0, .ref q7, .ref q8, .ref q9, .ref q10, .long 0, .int 0, .int 0, .int 0]) : va_E)) (zm_ne kq2 h0 (by simp)) kq2
  have kq3 := zm_up_k (e := (.inr (5, [.int 0, .ref q1, .ref q2, .ref q3, .ref q4, .ref q5, .ref q6, .int (-1), .int 0, .ref q7, .ref q8, .ref q9, .ref q10, .long 0, .int 0, .int 0, .int 0]) : va_E)) (zm_ne kq3 h0 (by simp)) kq3
  have kq4 := zm_up_k (e := (.inr (5, [.int 0, .ref q1, .ref q2, .ref q3, .ref q4, .ref q5, .ref q6, .int (-1), .int 0, .ref q7, .ref q8, .ref q9, .ref q10, .long 0, .int 0, .int 0, .int 0]) : va_E)) (zm_ne kq4 h0 (by simp)) kq4
  have kq5 := zm_up_k (e := (.inr (5, [.int 0, .ref q1, .ref q2, .ref q3, .ref q4, .ref q5, .ref q6, .int (-1), .int 0, .ref q7, .ref q8, .ref q9, .ref q10, .long 0, .int 0, .int 0, .int 0]) : va_E)) (zm_ne kq5 h0 (by simp)) kq5
  have kq6 := zm_up_k (e := (.inr (5, [.int 0, .ref q1, .ref q2, .ref q3, .ref q4, .ref q5, .ref q6, .int (-1), .int 0, .ref q7, .ref q8, .ref q9, .ref q10, .long 0, .int 0, .int 0, .int 0]) : va_E)) (zm_ne kq6 h0 (by simp)) kq6
  have kq7 := zm_up_k (e := (.inr (5, [.int 0, .ref q1, .ref q2, .ref q3, .ref q4, .ref q5, .ref q6, .int (-1), .int 0, .ref q7, .ref q8, .ref q9, .ref q10, .long 0, .int 0, .int 0, .int 0]) : va_E)) (zm_ne kq7 h0 (by simp)) kq7
  have kq8 := zm_up_k (e := (.inr (5, [.int 0, .ref q1, .ref q2, .ref q3, .ref q4, .ref q5, .ref q6, .int (-1), .int 0, .ref q7, .ref q8, .ref q9, .ref q10, .long 0, .int 0, .int 0, .int 0]) : va_E)) (zm_ne kq8 h0 (by simp)) kq8
  have kq9 := zm_up_k (e := (.inr (5, [.int 0, .ref q1, .ref q2, .ref q3, .ref q4, .ref q5, .ref q6, .int (-1), .int 0, .ref q7, .ref q8, .ref q9, .ref q10, .long 0, .int 0, .int 0, .int 0]) : va_E)) (zm_ne kq9 h0 (by simp)) kq9
  have kq10 := zm_up_k (e := (.inr (5, [.int 0, .ref q1, .ref q2, .ref q3, .ref q4, .ref q5, .ref q6, .int (-1), .int 0, .ref q7, .ref q8, .ref q9, .ref q10, .long 0, .int 0, .int 0, .int 0]) : va_E)) (zm_ne kq10 h0 (by simp)) kq10
  have hns := ns_up hns a (.inr (5, [.int 0, .ref q1, .ref q2, .ref q3, .ref q4, .ref q5, .ref q6, .int (-1), .int 0, .ref q7, .ref q8, .ref q9, .ref q10, .long 0, .int 0, .int 0, .int 0]) : va_E)
  have h0 : zm_up Mx a (.inr (5, [.int 0, .ref q1, .ref q2, .ref q3, .ref q4, .ref q5, .ref q6, .int (-1), .int 0, .ref q7, .ref q8, .ref q9, .ref q10, .long 0, .int 0, .int 0, .int 0]) : va_E) a = some (.inr (5, [.int 0, .ref q1, .ref q2, .ref q3, .ref q4, .ref q5, .ref q6, .int (-1), .int 0, .ref q7, .ref q8, .ref q9, .ref q10, .long 0, .int 0, .int 0, .int 0]) : va_E) := zm_up_s
  generalize hMx : zm_up Mx a (.inr (5, [.int 0, .ref q1, .ref q2, .ref q3, .ref q4, .ref q5, .ref q6, .int (-1), .int 0, .ref q7, .ref q8, .ref q9, .ref q10, .long 0, .int 0, .int 0, .int 0]) : va_E) = Mx at *
  clear hMx
  refine lv_aload_n hx hb dX6_init_91 rfl (lv_at hl 0 rfl) ?_
  refine lv_iconst (v := (-1)) hx hb dX6_init_92 (by decide) ?_
  refine zm_put hx hb hts hown hE hM hS h0 fp_X6_45_5 rfl rfl (Nat.le_of_ble_eq_true rfl) dX6_init_93 (fun H locs hM hS => ?_)
  have hM : zm_P G A (zm_up Mx a (.inr (5, [.int 0, .ref q1, .ref q2, .ref q3, .ref q4, .ref q5, .ref q6, .int (-1), .int 0, .ref q7, .ref q8, .ref q9, .ref q10, .long 0, .int 0, .int (-1), .int 0]) : va_E)) H := hM
  have kq1 := zm_up_k (e := (.inr (5, [.int 0, .ref q1, .ref q2, .ref q3, .ref q4, .ref q5, .ref q6, .int (-1), .int 0, .ref q7, .ref q8, .ref q9, .ref q10, .long 0, .int 0, .int (-1), .int 0]) : va_E)) (zm_ne kq1 h0 (by simp)) kq1
  have kq2 := zm_up_k (e := (.inr (5, [.int 0, .ref q1, .ref q2, .ref q3, .ref q4, .ref q5, .ref q6, .int (-1), .int 0, .ref q7, .ref q8, .ref q9, .ref q10, .long 0, .int 0, .int (-1), .int 0]) : va_E)) (zm_ne kq2 h0 (by simp)) kq2
  have kq3 := zm_up_k (e := (.inr (5, [.int 0, .ref q1, .ref q2, .ref q3, .ref q4, .ref q5, .ref q6, .int (-1), .int 0, .ref q7, .ref q8, .ref q9, .ref q10, .long 0, .int 0, .int (-1), .int 0]) : va_E)) (zm_ne kq3 h0 (by simp)) kq3
  have kq4 := zm_up_k (e := (.inr (5, [.int 0, .ref q1, .ref q2, .ref q3, .ref q4, .ref q5, .ref q6, .int (-1), .int 0, .ref q7, .ref q8, .ref q9, .ref q10, .long 0, .int 0, .int (-1), .int 0]) : va_E)) (zm_ne kq4 h0 (by simp)) kq4
  have kq5 := zm_up_k (e := (.inr (5, [.int 0, .ref q1, .ref q2, .ref q3, .ref q4, .ref q5, .ref q6, .int (-1), .int 0, .ref q7, .ref q8, .ref q9, .ref q10, .long 0, .int 0, .int (-1), .int 0]) : va_E)) (zm_ne kq5 h0 (by simp)) kq5
  have kq6 := zm_up_k (e := (.inr (5, [.int 0, .ref q1, .ref q2, .ref q3, .ref q4, .ref q5, .ref q6, .int (-1), .int 0, .ref q7, .ref q8, .ref q9, .ref q10, .long 0, .int 0, .int (-1), .int 0]) : va_E)) (zm_ne kq6 h0 (by simp)) kq6
  have kq7 := zm_up_k (e := (.inr (5, [.int 0, .ref q1, .ref q2, .ref q3, .ref q4, .ref q5, .ref q6, .int (-1), .int 0, .ref q7, .ref q8, .ref q9, .ref q10, .long 0, .int 0, .int (-1), .int 0]) : va_E)) (zm_ne kq7 h0 (by simp)) kq7
  have kq8 := zm_up_k (e := (.inr (5, [.int 0, .ref q1, .ref q2, .ref q3, .ref q4, .ref q5, .ref q6, .int (-1), .int 0, .ref q7, .ref q8, .ref q9, .ref q10, .long 0, .int 0, .int (-1), .int 0]) : va_E)) (zm_ne kq8 h0 (by simp)) kq8
  have kq9 := zm_up_k (e := (.inr (5, [.int 0, .ref q1, .ref q2, .ref q3, .ref q4, .ref q5, .ref q6, .int (-1), .int 0, .ref q7, .ref q8, .ref q9, .ref q10, .long 0, .int 0, .int (-1), .int 0]) : va_E)) (zm_ne kq9 h0 (by simp)) kq9
  have kq10 := zm_up_k (e := (.inr (5, [.int 0, .ref q1, .ref q2, .ref q3, .ref q4, .ref q5, .ref q6, .int (-1), .int 0, .ref q7, .ref q8, .ref q9, .ref q10, .long 0, .int 0, .int (-1), .int 0]) : va_E)) (zm_ne kq10 h0 (by simp)) kq10
  have hns := ns_up hns a (.inr (5, [.int 0, .ref q1, .ref q2, .ref q3, .ref q4, .ref q5, .ref q6, .int (-1), .int 0, .ref q7, .ref q8, .ref q9, .ref q10, .long 0, .int 0, .int (-1), .int 0]) : va_E)
  have h0 : zm_up Mx a (.inr (5, [.int 0, .ref q1, .ref q2, .ref q3, .ref q4, .ref q5, .ref q6, .int (-1), .int 0, .ref q7, .ref q8, .ref q9, .ref q10, .long 0, .int 0, .int (-1), .int 0]) : va_E) a = some (.inr (5, [.int 0, .ref q1, .ref q2, .ref q3, .ref q4, .ref q5, .ref q6, .int (-1), .int 0, .ref q7, .ref q8, .ref q9, .ref q10, .long 0, .int 0, .int (-1), .int 0]) : va_E) := zm_up_s
  generalize hMx : zm_up Mx a (.inr (5, [.int 0, .ref q1, .ref q2, .ref q3, .ref q4, .ref q5, .ref q6, .int (-1), .int 0, .ref q7, .ref q8, .ref q9, .ref q10, .long 0, .int 0, .int (-1), .int 0]) : va_E) = Mx at *
  clear hMx
  refine lv_iconst (v := 0) hx hb dX6_init_96 (by decide) ?_
  refine lv_istore_n (lv' := [(1, .int 0), (0, .ref a)]) hx hb dX6_init_97 rfl hl (by decide) rfl (fun ls hl => ?_)
  have hinj := nd_inj hnd
  obtain ⟨q, hq⟩ : ∃ q : Nat → Nat, q = fun i => ([a, q1, q2, q3, q4, q5, q6, q7, q8, q9, q10] : List Nat).getD i 0 := ⟨_, rfl⟩
  have hZ : zRA G q (objR q s_0) (fun _ _ => 0) (fun _ => 0) Mx := by
    subst hq
    refine ⟨hinj, h0, fun k j1 j2 j3 => ?_, kq4⟩
    rcases (show k = 1 ∨ k = 2 ∨ k = 3 ∨ k = 5 ∨ k = 6 ∨ k = 7 ∨ k = 8 ∨ k = 9 ∨ k = 10 by omega) with rfl | rfl | rfl | rfl | rfl | rfl | rfl | rfl | rfl
    · exact kq1
    · exact kq2
    · exact kq3
    · exact kq5
    · exact kq6
    · exact kq7
    · exact kq8
    · exact kq9
    · exact kq10
  have hqa : q 0 = a := by rw [hq]; rfl
  have hq6 : q 6 = q6 := by rw [hq]; rfl
  rw [← hqa] at hl
  have loop : ∀ (n k : Nat), k ≤ 10 → 11 ≤ k + n → ∀ (ls : Array Slot) (f : Nat → Nat → Int32) (M : zm_M) (H : Heap) (locs : List Loc), zRA G q (objR q s_0) f (fun _ => 0) M → (∀ i, i < k → f 6 i = -1) → zm_P G A M H → va_S A s.heap H locs → lv_has ls 2 [(1, .int (nI k)), (0, .ref (q 0))] → W p l e (zm_rm 1 10 1280) s m [.ref a].toArray below meth c H locs 10 1280 (MQ below (zm_Q G (fun r M' => r = none ∧ ∃ q : Nat → Nat, q 0 = a ∧ RepR G q s_0 M') A) [.ref a].toArray s 10 1280 A) (F0 m 98 ls []) := by
    intro n
    induction n with
    | zero => intro k h1 h2; exact absurd h2 (by omega)
    | succ n ih =>
      intro k hk1 hk2 ls f M H locs hZ hf hM hS hl
      refine lv_iload_n hx hb dX6_init_98 rfl (lv_at hl 0 rfl) ?_
      refine lv_bipush (v := 10) hx hb dX6_init_99 (by decide) ?_
      refine lv_icmp_ge (tgt := 117) hx hb dX6_init_101 (by decide) (fun c101 => ?_) (fun c101 => ?_)
      · obtain rfl : k = 10 := by rw [show (10 : Int32) = nI 10 from rfl, nI_leI (by omega) (by omega)] at c101; omega
        refine zm_vret hx hb hr hlk hM hS ?_ ⟨Nat.le_refl _, Nat.le_refl _⟩ dX6_init_117
        exact ⟨rfl, q, hqa, f, fun _ => 0, hZ, fun j hj => absurd hj (Nat.not_lt_zero _), fun j i hj => absurd hj (Nat.not_lt_zero _), fun j i hj => absurd hj (Nat.not_lt_zero _), hf, fun c hc => absurd hc (Nat.not_lt_zero _)⟩
      · have hkk : k < 10 := by rw [show (10 : Int32) = nI 10 from rfl, nI_leI (by omega) (by omega)] at c101; omega
        refine lv_aload_n hx hb dX6_init_104 rfl (lv_at hl 1 rfl) ?_
        refine zm_get hx hb hts hown hE hM hZ.2.1 fl_X6_26_5 rfl dX6_init_105 ?_
        refine lv_iload_n hx hb dX6_init_108 rfl (lv_at hl 0 rfl) ?_
        refine lv_iconst (v := (-1)) hx hb dX6_init_109 (by decide) ?_
        refine zm_iast hx hb hE hM hS (hZ.ar 6) (vp_in_nI (show k < 10 by omega) (by decide)) dX6_init_110 (fun H locs hM hS => ?_)
        rw [nI_clamp (by omega)] at hM
        have hZ2 := hZ.arr 6 (upd (f 6) k (-1))
        have hf2 : ∀ i, i < k + 1 → va_up f 6 (upd (f 6) k (-1)) 6 i = -1 := sl_ext hf
        refine lv_iinc (v := nI (k + 1)) (lv' := [(1, .int (nI (k + 1))), (0, .ref (q 0))]) hx hb dX6_init_111 hl (k := 0) rfl (nI_1 k) (by decide) rfl (fun ls hl => ?_)
        refine lv_goto (tgt := 98) hx hb dX6_init_114 (by decide) ?_
        exact ih (k + 1) (by omega) (by omega) ls _ _ _ _ hZ2 hf2 hM hS (lv_sub hl [0, 1] rfl)
  exact loop 11 0 (by omega) (by omega) ls _ _ _ _ hZ (fun i hi => absurd hi (Nat.not_lt_zero _)) hM hS (lv_sub hl [0, 1] rfl)
end
