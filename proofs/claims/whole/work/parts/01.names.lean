-- ===== PART A: goes FIRST, ahead of the names: the tables' words, and 'selects' of the private methods out of them =====
/-- a private method of a class that the tables say can be made, by its rows of tables_1 -/
def lw_okq (q : MethodName × Nat) : Prop := (q.1.cls ≠ "java/lang/invoke/MethodHandle" ∧ q.1.cls ≠ "java/lang/invoke/VarHandle") ∧ Cond.instantiable q.1.cls q.2 ∈ tables_1 ∧ Cond.privateMethod q.1 ∈ tables_1 ∧ Cond.instanceMethod q.1 ∈ tables_1
theorem lw_p0 : lw_okq (⟨"PropStore", "find", "(I)LPropStore$Prop;"⟩, 10) := ⟨⟨by decide +kernel, by decide +kernel⟩, List.mem_of_getElem? (i := 9) (by decide +kernel), List.mem_of_getElem? (i := 131) (by decide +kernel), List.mem_of_getElem? (i := 132) (by decide +kernel)⟩
theorem lw_p1 : lw_okq (⟨"PropStore$Numbers", "cut", "(I)J"⟩, 3) := ⟨⟨by decide +kernel, by decide +kernel⟩, List.mem_of_getElem? (i := 114) (by decide +kernel), List.mem_of_getElem? (i := 139) (by decide +kernel), List.mem_of_getElem? (i := 140) (by decide +kernel)⟩
theorem lw_p2 : lw_okq (⟨"PropStore", "perform", "(LPropStore$Cue;)I"⟩, 10) := ⟨⟨by decide +kernel, by decide +kernel⟩, List.mem_of_getElem? (i := 9) (by decide +kernel), List.mem_of_getElem? (i := 203) (by decide +kernel), List.mem_of_getElem? (i := 204) (by decide +kernel)⟩
theorem lw_p3 : lw_okq (⟨"PropStore", "showProp", "(LPropStore$Prop;I)I"⟩, 10) := ⟨⟨by decide +kernel, by decide +kernel⟩, List.mem_of_getElem? (i := 9) (by decide +kernel), List.mem_of_getElem? (i := 212) (by decide +kernel), List.mem_of_getElem? (i := 213) (by decide +kernel)⟩
theorem lw_p4 : lw_okq (⟨"PropStore", "takePart", "(LPropStore$Prop;I)I"⟩, 10) := ⟨⟨by decide +kernel, by decide +kernel⟩, List.mem_of_getElem? (i := 9) (by decide +kernel), List.mem_of_getElem? (i := 254) (by decide +kernel), List.mem_of_getElem? (i := 255) (by decide +kernel)⟩
theorem lw_p5 : lw_okq (⟨"PropStore", "layPart", "(LPropStore$Prop;II)I"⟩, 10) := ⟨⟨by decide +kernel, by decide +kernel⟩, List.mem_of_getElem? (i := 9) (by decide +kernel), List.mem_of_getElem? (i := 262) (by decide +kernel), List.mem_of_getElem? (i := 263) (by decide +kernel)⟩
theorem lw_p6 : lw_okq (⟨"PropStoreModel", "isProp", "(I)Z"⟩, 17) := ⟨⟨by decide +kernel, by decide +kernel⟩, List.mem_of_getElem? (i := 295) (by decide +kernel), List.mem_of_getElem? (i := 368) (by decide +kernel), List.mem_of_getElem? (i := 369) (by decide +kernel)⟩
theorem lw_p7 : lw_okq (⟨"PropStoreModel", "many", "(I)I"⟩, 17) := ⟨⟨by decide +kernel, by decide +kernel⟩, List.mem_of_getElem? (i := 295) (by decide +kernel), List.mem_of_getElem? (i := 372) (by decide +kernel), List.mem_of_getElem? (i := 373) (by decide +kernel)⟩
theorem lw_p8 : lw_okq (⟨"PropStoreModel", "done", "(I)I"⟩, 17) := ⟨⟨by decide +kernel, by decide +kernel⟩, List.mem_of_getElem? (i := 295) (by decide +kernel), List.mem_of_getElem? (i := 413) (by decide +kernel), List.mem_of_getElem? (i := 414) (by decide +kernel)⟩
theorem lw_p9 : lw_okq (⟨"PropStoreModel", "goes", "(II)Z"⟩, 17) := ⟨⟨by decide +kernel, by decide +kernel⟩, List.mem_of_getElem? (i := 295) (by decide +kernel), List.mem_of_getElem? (i := 417) (by decide +kernel), List.mem_of_getElem? (i := 418) (by decide +kernel)⟩
theorem lw_p10 : lw_okq (⟨"PropStoreModel", "worthOf", "(II)J"⟩, 17) := ⟨⟨by decide +kernel, by decide +kernel⟩, List.mem_of_getElem? (i := 295) (by decide +kernel), List.mem_of_getElem? (i := 424) (by decide +kernel), List.mem_of_getElem? (i := 425) (by decide +kernel)⟩
theorem lw_p11 : lw_okq (⟨"PropStoreModel", "worthOfNumbers", "(I)J"⟩, 17) := ⟨⟨by decide +kernel, by decide +kernel⟩, List.mem_of_getElem? (i := 295) (by decide +kernel), List.mem_of_getElem? (i := 428) (by decide +kernel), List.mem_of_getElem? (i := 429) (by decide +kernel)⟩
theorem lw_p12 : lw_okq (⟨"PropStoreModel", "worthOfOne", "(II)J"⟩, 17) := ⟨⟨by decide +kernel, by decide +kernel⟩, List.mem_of_getElem? (i := 295) (by decide +kernel), List.mem_of_getElem? (i := 432) (by decide +kernel), List.mem_of_getElem? (i := 433) (by decide +kernel)⟩
theorem lw_p13 : lw_okq (⟨"PropStoreModel", "worthOfRow", "(II)J"⟩, 17) := ⟨⟨by decide +kernel, by decide +kernel⟩, List.mem_of_getElem? (i := 295) (by decide +kernel), List.mem_of_getElem? (i := 439) (by decide +kernel), List.mem_of_getElem? (i := 440) (by decide +kernel)⟩
theorem lw_p14 : lw_okq (⟨"PropStoreModel", "wearAll", "(I)V"⟩, 17) := ⟨⟨by decide +kernel, by decide +kernel⟩, List.mem_of_getElem? (i := 295) (by decide +kernel), List.mem_of_getElem? (i := 446) (by decide +kernel), List.mem_of_getElem? (i := 447) (by decide +kernel)⟩
theorem lw_p15 : lw_okq (⟨"PropStoreModel", "wearRow", "(I)V"⟩, 17) := ⟨⟨by decide +kernel, by decide +kernel⟩, List.mem_of_getElem? (i := 295) (by decide +kernel), List.mem_of_getElem? (i := 450) (by decide +kernel), List.mem_of_getElem? (i := 451) (by decide +kernel)⟩
def lw_privs_1 : List (MethodName × Nat) := [(⟨"PropStore", "find", "(I)LPropStore$Prop;"⟩, 10), (⟨"PropStore$Numbers", "cut", "(I)J"⟩, 3), (⟨"PropStore", "perform", "(LPropStore$Cue;)I"⟩, 10), (⟨"PropStore", "showProp", "(LPropStore$Prop;I)I"⟩, 10), (⟨"PropStore", "takePart", "(LPropStore$Prop;I)I"⟩, 10), (⟨"PropStore", "layPart", "(LPropStore$Prop;II)I"⟩, 10), (⟨"PropStoreModel", "isProp", "(I)Z"⟩, 17), (⟨"PropStoreModel", "many", "(I)I"⟩, 17), (⟨"PropStoreModel", "done", "(I)I"⟩, 17), (⟨"PropStoreModel", "goes", "(II)Z"⟩, 17), (⟨"PropStoreModel", "worthOf", "(II)J"⟩, 17), (⟨"PropStoreModel", "worthOfNumbers", "(I)J"⟩, 17), (⟨"PropStoreModel", "worthOfOne", "(II)J"⟩, 17), (⟨"PropStoreModel", "worthOfRow", "(II)J"⟩, 17), (⟨"PropStoreModel", "wearAll", "(I)V"⟩, 17), (⟨"PropStoreModel", "wearRow", "(I)V"⟩, 17)]
theorem lw_r1 : ∀ q ∈ lw_privs_1, lw_okq q := List.forall_mem_cons.mpr ⟨lw_p0, List.forall_mem_cons.mpr ⟨lw_p1, List.forall_mem_cons.mpr ⟨lw_p2, List.forall_mem_cons.mpr ⟨lw_p3, List.forall_mem_cons.mpr ⟨lw_p4, List.forall_mem_cons.mpr ⟨lw_p5, List.forall_mem_cons.mpr ⟨lw_p6, List.forall_mem_cons.mpr ⟨lw_p7, List.forall_mem_cons.mpr ⟨lw_p8, List.forall_mem_cons.mpr ⟨lw_p9, List.forall_mem_cons.mpr ⟨lw_p10, List.forall_mem_cons.mpr ⟨lw_p11, List.forall_mem_cons.mpr ⟨lw_p12, List.forall_mem_cons.mpr ⟨lw_p13, List.forall_mem_cons.mpr ⟨lw_p14, List.forall_mem_cons.mpr ⟨lw_p15, fun _ h => absurd h List.not_mem_nil⟩⟩⟩⟩⟩⟩⟩⟩⟩⟩⟩⟩⟩⟩⟩⟩
theorem lw_p16 : lw_okq (⟨"PropStoreModel", "take", "(II)I"⟩, 17) := ⟨⟨by decide +kernel, by decide +kernel⟩, List.mem_of_getElem? (i := 295) (by decide +kernel), List.mem_of_getElem? (i := 454) (by decide +kernel), List.mem_of_getElem? (i := 455) (by decide +kernel)⟩
theorem lw_p17 : lw_okq (⟨"PropStoreModel", "lay", "(III)I"⟩, 17) := ⟨⟨by decide +kernel, by decide +kernel⟩, List.mem_of_getElem? (i := 295) (by decide +kernel), List.mem_of_getElem? (i := 458) (by decide +kernel), List.mem_of_getElem? (i := 459) (by decide +kernel)⟩
def lw_privs_2 : List (MethodName × Nat) := [(⟨"PropStoreModel", "take", "(II)I"⟩, 17), (⟨"PropStoreModel", "lay", "(III)I"⟩, 17)]
theorem lw_r2 : ∀ q ∈ lw_privs_2, lw_okq q := List.forall_mem_cons.mpr ⟨lw_p16, List.forall_mem_cons.mpr ⟨lw_p17, fun _ h => absurd h List.not_mem_nil⟩⟩
def lw_privs : List (MethodName × Nat) := lw_privs_1 ++ (lw_privs_2)
def lw_tbl : List Cond := k2_sels lw_privs ++ tables_1
theorem lw_privs_ok : ∀ q ∈ lw_privs, lw_okq q := by
  show ∀ q ∈ lw_privs_1 ++ (lw_privs_2), lw_okq q
  exact List.forall_mem_append.mpr ⟨lw_r1, lw_r2⟩
-- ===== end of PART A; then your names; then what follows =====
/-! ===== BEGIN words of one list among another's, by their places ===== -/
theorem goodIn_r {big : List Cond} (ws : List Cond) (ps : List Nat) (hp : ws = ps.filterMap (fun i => big[i]?)) (h : ws.all goodWord = true) : GoodIn big ws := by
  intro w hw
  have h1 := List.all_eq_true.mp h w hw
  rw [hp] at hw
  obtain ⟨i, -, hi⟩ := List.mem_filterMap.mp hw
  have hm : w ∈ big := by first | exact List.mem_of_getElem? hi | exact List.getElem?_mem hi
  exact ⟨hm, good_of_word h1⟩
theorem goodIn_app {big a b : List Cond} (ha : GoodIn big a) (hb : GoodIn big b) : GoodIn big (a ++ b) := fun w h => (List.mem_append.mp h).elim (ha w) (hb w)
theorem goodIn_ca {big a b : List Cond} {c : Cond} (ha : GoodIn big (c :: a)) (hb : GoodIn big b) : GoodIn big (c :: (a ++ b)) := fun w h => (List.mem_cons.mp h).elim (fun e => ha w (List.mem_cons.mpr (Or.inl e))) (fun h => (List.mem_append.mp h).elim (fun h => ha w (List.mem_cons.mpr (Or.inr h))) (hb w))
theorem goodIn_sub {big ws : List Cond} (hm : ∀ w ∈ ws, w ∈ big) (h : ws.all goodWord = true) : GoodIn big ws := fun w hw => ⟨hm w hw, good_of_word (List.all_eq_true.mp h w hw)⟩
/-! ===== END ===== -/

/-! ===== BEGIN printed: names, fields, word lists, decode rows ===== -/
def RX0 : String := "PropStore$Cue"
def TX0 : u_T := fun k => match k with
  | 0 => ("PropStore$Cue", "act", "I", true)
  | 1 => ("PropStore$Cue", "slot", "I", true)
  | 2 => ("PropStore$Cue", "view", "I", true)
  | _ => ("PropStore$Cue", "i", "I", true)
def tyX0 : Nat → FieldType := fun k => match k with
  | 0 => .int
  | 1 => .int
  | 2 => .int
  | _ => .int
abbrev wsX00 : List Cond := u_ws RX0 TX0 4
theorem nmX0 : ∀ a, a < 4 → ∀ b, b < 4 → a ≠ b → (TX0 a).2.1 ≠ (TX0 b).2.1 := by decide +kernel
theorem tyX0_ok : ∀ k, k < 4 → parseFieldDescriptor (TX0 k).2.2.1 = some (tyX0 k) := by decide +kernel
abbrev cX0_init : ByteArray := prog_2_method_1_code
def yX0_init : MethodName := ⟨RX0, "<init>", "(IIII)V"⟩
def RX1 : String := "PropStore$Numbers"
def TX1 : u_T := fun k => match k with
  | 0 => ("PropStore$Prop", "number", "I", true)
  | 1 => ("PropStore$Prop", "kind", "I", true)
  | _ => ("PropStore$Numbers", "numbers", "[J", true)
def tyX1 : Nat → FieldType := fun k => match k with
  | 0 => .int
  | 1 => .int
  | _ => .array .long
abbrev wsX10 : List Cond := u_ws RX1 TX1 3
theorem nmX1 : ∀ a, a < 3 → ∀ b, b < 3 → a ≠ b → (TX1 a).2.1 ≠ (TX1 b).2.1 := by decide +kernel
theorem tyX1_ok : ∀ k, k < 3 → parseFieldDescriptor (TX1 k).2.2.1 = some (tyX1 k) := by decide +kernel
abbrev cX1_init : ByteArray := prog_3_method_1_code
def yX1_init : MethodName := ⟨RX1, "<init>", "(III)V"⟩
abbrev cX1_put : ByteArray := prog_3_method_2_code
def yX1_put : MethodName := ⟨RX1, "put", "(II)Z"⟩
abbrev cX1_cut : ByteArray := prog_3_method_3_code
def yX1_cut : MethodName := ⟨RX1, "cut", "(I)J"⟩
abbrev cX1_worthBy : ByteArray := prog_3_method_4_code
def yX1_worthBy : MethodName := ⟨RX1, "worthBy", "(I)J"⟩
abbrev cX1_putOn : ByteArray := prog_3_method_5_code
def yX1_putOn : MethodName := ⟨RX1, "putOn", "(I)V"⟩
def RX2 : String := "PropStore$Piece"
def TX2 : u_T := fun k => match k with
  | 0 => ("PropStore$Prop", "number", "I", true)
  | 1 => ("PropStore$Prop", "kind", "I", true)
  | 2 => ("PropStore$Piece", "size", "I", true)
  | _ => ("PropStore$Piece", "timesWorn", "I", false)
def tyX2 : Nat → FieldType := fun k => match k with
  | 0 => .int
  | 1 => .int
  | 2 => .int
  | _ => .int
abbrev wsX20 : List Cond := u_ws RX2 TX2 4
theorem nmX2 : ∀ a, a < 4 → ∀ b, b < 4 → a ≠ b → (TX2 a).2.1 ≠ (TX2 b).2.1 := by decide +kernel
theorem tyX2_ok : ∀ k, k < 4 → parseFieldDescriptor (TX2 k).2.2.1 = some (tyX2 k) := by decide +kernel
abbrev cX2_init : ByteArray := prog_4_method_1_code
def yX2_init : MethodName := ⟨RX2, "<init>", "(III)V"⟩
abbrev cX2_worthBy : ByteArray := prog_4_method_2_code
def yX2_worthBy : MethodName := ⟨RX2, "worthBy", "(I)J"⟩
abbrev cX2_putOn : ByteArray := prog_4_method_3_code
def yX2_putOn : MethodName := ⟨RX2, "putOn", "(I)V"⟩
def RX3 : String := "PropStore$Prop"
def TX3 : u_T := fun k => match k with
  | _ => ("", "", "", false)
def tyX3 : Nat → FieldType := fun k => match k with
  | _ => .int
abbrev wsX30 : List Cond := u_ws RX3 TX3 0
theorem nmX3 : ∀ a, a < 0 → ∀ b, b < 0 → a ≠ b → (TX3 a).2.1 ≠ (TX3 b).2.1 := by decide +kernel
theorem tyX3_ok : ∀ k, k < 0 → parseFieldDescriptor (TX3 k).2.2.1 = some (tyX3 k) := by decide +kernel
abbrev cX3_init : ByteArray := prog_5_method_1_code
def yX3_init : MethodName := ⟨RX3, "<init>", "(II)V"⟩
def RX4 : String := "PropStore$Row"
def TX4 : u_T := fun k => match k with
  | 0 => ("PropStore$Prop", "number", "I", true)
  | 1 => ("PropStore$Prop", "kind", "I", true)
  | _ => ("PropStore$Row", "places", "[LPropStore$Prop;", true)
def tyX4 : Nat → FieldType := fun k => match k with
  | 0 => .int
  | 1 => .int
  | _ => .array (.object "PropStore$Prop")
abbrev wsX40 : List Cond := u_ws RX4 TX4 3
theorem nmX4 : ∀ a, a < 3 → ∀ b, b < 3 → a ≠ b → (TX4 a).2.1 ≠ (TX4 b).2.1 := by decide +kernel
theorem tyX4_ok : ∀ k, k < 3 → parseFieldDescriptor (TX4 k).2.2.1 = some (tyX4 k) := by decide +kernel
abbrev cX4_init : ByteArray := prog_6_method_1_code
def yX4_init : MethodName := ⟨RX4, "<init>", "(III)V"⟩
abbrev cX4_hasPlace : ByteArray := prog_6_method_2_code
def yX4_hasPlace : MethodName := ⟨RX4, "hasPlace", "(I)Z"⟩
abbrev cX4_worthBy : ByteArray := prog_6_method_3_code
def yX4_worthBy : MethodName := ⟨RX4, "worthBy", "(I)J"⟩
abbrev cX4_putOn : ByteArray := prog_6_method_4_code
def yX4_putOn : MethodName := ⟨RX4, "putOn", "(I)V"⟩
def RX5 : String := "PropStore"
def TX5 : u_T := fun k => match k with
  | 0 => ("PropStore", "props", "[LPropStore$Prop;", true)
  | 1 => ("PropStore", "propCount", "I", false)
  | 2 => ("PropStore", "slots", "[LPropStore$Prop;", true)
  | 3 => ("PropStore", "inHand", "LPropStore$Prop;", false)
  | 4 => ("PropStore", "cues", "[LPropStore$Cue;", true)
  | 5 => ("PropStore", "cueCount", "I", false)
  | 6 => ("PropStore", "score", "J", false)
  | 7 => ("PropStore", "missReason", "I", false)
  | 8 => ("PropStore", "missedCue", "I", false)
  | _ => ("PropStore", "missCount", "I", false)
def tyX5 : Nat → FieldType := fun k => match k with
  | 0 => .array (.object "PropStore$Prop")
  | 1 => .int
  | 2 => .array (.object "PropStore$Prop")
  | 3 => .object "PropStore$Prop"
  | 4 => .array (.object "PropStore$Cue")
  | 5 => .int
  | 6 => .long
  | 7 => .int
  | 8 => .int
  | _ => .int
abbrev wsX50 : List Cond := u_ws RX5 TX5 10
theorem nmX5 : ∀ a, a < 10 → ∀ b, b < 10 → a ≠ b → (TX5 a).2.1 ≠ (TX5 b).2.1 := by decide +kernel
theorem tyX5_ok : ∀ k, k < 10 → parseFieldDescriptor (TX5 k).2.2.1 = some (tyX5 k) := by decide +kernel
abbrev cX5_init : ByteArray := prog_1_method_1_code
def yX5_init : MethodName := ⟨RX5, "<init>", "()V"⟩
abbrev cX5_prop : ByteArray := prog_1_method_2_code
def yX5_prop : MethodName := ⟨RX5, "prop", "(II)I"⟩
abbrev cX5_set : ByteArray := prog_1_method_3_code
def yX5_set : MethodName := ⟨RX5, "set", "(III)I"⟩
abbrev cX5_slot : ByteArray := prog_1_method_4_code
def yX5_slot : MethodName := ⟨RX5, "slot", "(II)I"⟩
abbrev cX5_held : ByteArray := prog_1_method_5_code
def yX5_held : MethodName := ⟨RX5, "held", "(I)I"⟩
abbrev cX5_hand : ByteArray := prog_1_method_6_code
def yX5_hand : MethodName := ⟨RX5, "hand", "()I"⟩
abbrev cX5_cue : ByteArray := prog_1_method_7_code
def yX5_cue : MethodName := ⟨RX5, "cue", "(IIII)I"⟩
abbrev cX5_strike : ByteArray := prog_1_method_8_code
def yX5_strike : MethodName := ⟨RX5, "strike", "()I"⟩
abbrev cX5_play : ByteArray := prog_1_method_9_code
def yX5_play : MethodName := ⟨RX5, "play", "(II)I"⟩
abbrev cX5_miscue : ByteArray := prog_1_method_10_code
def yX5_miscue : MethodName := ⟨RX5, "miscue", "(I)I"⟩
abbrev cX5_points : ByteArray := prog_1_method_11_code
def yX5_points : MethodName := ⟨RX5, "points", "()J"⟩
abbrev cX5_is : ByteArray := prog_1_method_12_code
def yX5_is : MethodName := ⟨RX5, "is", "(II)I"⟩
abbrev cX5_worth : ByteArray := prog_1_method_13_code
def yX5_worth : MethodName := ⟨RX5, "worth", "(II)J"⟩
abbrev cX5_wear : ByteArray := prog_1_method_14_code
def yX5_wear : MethodName := ⟨RX5, "wear", "(I)I"⟩
abbrev cX5_at : ByteArray := prog_1_method_15_code
def yX5_at : MethodName := ⟨RX5, "at", "(II)I"⟩
abbrev cX5_count : ByteArray := prog_1_method_16_code
def yX5_count : MethodName := ⟨RX5, "count", "(I)I"⟩
abbrev cX5_perform : ByteArray := prog_1_method_17_code
def yX5_perform : MethodName := ⟨RX5, "perform", "(LPropStore$Cue;)I"⟩
abbrev cX5_showProp : ByteArray := prog_1_method_18_code
def yX5_showProp : MethodName := ⟨RX5, "showProp", "(LPropStore$Prop;I)I"⟩
abbrev cX5_wearProp : ByteArray := prog_1_method_19_code
def yX5_wearProp : MethodName := ⟨RX5, "wearProp", "(LPropStore$Prop;I)I"⟩
abbrev cX5_takePart : ByteArray := prog_1_method_20_code
def yX5_takePart : MethodName := ⟨RX5, "takePart", "(LPropStore$Prop;I)I"⟩
abbrev cX5_layPart : ByteArray := prog_1_method_21_code
def yX5_layPart : MethodName := ⟨RX5, "layPart", "(LPropStore$Prop;II)I"⟩
abbrev cX5_find : ByteArray := prog_1_method_22_code
def yX5_find : MethodName := ⟨RX5, "find", "(I)LPropStore$Prop;"⟩
abbrev cX5_mostOf : ByteArray := prog_1_method_23_code
def yX5_mostOf : MethodName := ⟨RX5, "mostOf", "(I)I"⟩
abbrev cX5_newProp : ByteArray := prog_1_method_24_code
def yX5_newProp : MethodName := ⟨RX5, "newProp", "(III)LPropStore$Prop;"⟩
abbrev cX5_numberOf : ByteArray := prog_1_method_25_code
def yX5_numberOf : MethodName := ⟨RX5, "numberOf", "(LPropStore$Prop;)I"⟩
abbrev cX5_goesAs : ByteArray := prog_1_method_26_code
def yX5_goesAs : MethodName := ⟨RX5, "goesAs", "(LPropStore$Prop;I)Z"⟩
abbrev cX5_isAmong : ByteArray := prog_1_method_27_code
def yX5_isAmong : MethodName := ⟨RX5, "isAmong", "(II)Z"⟩
abbrev cX5_isSlot : ByteArray := prog_1_method_28_code
def yX5_isSlot : MethodName := ⟨RX5, "isSlot", "(I)Z"⟩
abbrev cX5_isView : ByteArray := prog_1_method_29_code
def yX5_isView : MethodName := ⟨RX5, "isView", "(I)Z"⟩
abbrev cX5_isPiece : ByteArray := prog_1_method_30_code
def yX5_isPiece : MethodName := ⟨RX5, "isPiece", "(I)Z"⟩
abbrev cX5_isRow : ByteArray := prog_1_method_31_code
def yX5_isRow : MethodName := ⟨RX5, "isRow", "(I)Z"⟩
abbrev cX5_partView : ByteArray := prog_1_method_32_code
def yX5_partView : MethodName := ⟨RX5, "partView", "(I)I"⟩
def RX6 : String := "PropStoreModel"
def TX6 : u_T := fun k => match k with
  | 0 => ("PropStoreModel", "props", "I", false)
  | 1 => ("PropStoreModel", "kinds", "[I", true)
  | 2 => ("PropStoreModel", "sizes", "[I", true)
  | 3 => ("PropStoreModel", "wears", "[I", true)
  | 4 => ("PropStoreModel", "numbers", "[J", true)
  | 5 => ("PropStoreModel", "things", "[I", true)
  | 6 => ("PropStoreModel", "slots", "[I", true)
  | 7 => ("PropStoreModel", "hand", "I", false)
  | 8 => ("PropStoreModel", "cues", "I", false)
  | 9 => ("PropStoreModel", "acts", "[I", true)
  | 10 => ("PropStoreModel", "places", "[I", true)
  | 11 => ("PropStoreModel", "views", "[I", true)
  | 12 => ("PropStoreModel", "more", "[I", true)
  | 13 => ("PropStoreModel", "points", "J", false)
  | 14 => ("PropStoreModel", "why", "I", false)
  | 15 => ("PropStoreModel", "at", "I", false)
  | _ => ("PropStoreModel", "often", "I", false)
def tyX6 : Nat → FieldType := fun k => match k with
  | 0 => .int
  | 1 => .array .int
  | 2 => .array .int
  | 3 => .array .int
  | 4 => .array .long
  | 5 => .array .int
  | 6 => .array .int
  | 7 => .int
  | 8 => .int
  | 9 => .array .int
  | 10 => .array .int
  | 11 => .array .int
  | 12 => .array .int
  | 13 => .long
  | 14 => .int
  | 15 => .int
  | _ => .int
abbrev wsX60 : List Cond := u_ws RX6 TX6 17
theorem nmX6 : ∀ a, a < 17 → ∀ b, b < 17 → a ≠ b → (TX6 a).2.1 ≠ (TX6 b).2.1 := by decide +kernel
theorem tyX6_ok : ∀ k, k < 17 → parseFieldDescriptor (TX6 k).2.2.1 = some (tyX6 k) := by decide +kernel
abbrev cX6_init : ByteArray := prog_8_method_1_code
def yX6_init : MethodName := ⟨RX6, "<init>", "()V"⟩
abbrev cX6_isIn : ByteArray := prog_8_method_2_code
def yX6_isIn : MethodName := ⟨RX6, "isIn", "(III)Z"⟩
abbrev cX6_isProp : ByteArray := prog_8_method_3_code
def yX6_isProp : MethodName := ⟨RX6, "isProp", "(I)Z"⟩
abbrev cX6_isView : ByteArray := prog_8_method_4_code
def yX6_isView : MethodName := ⟨RX6, "isView", "(I)Z"⟩
abbrev cX6_isSlot : ByteArray := prog_8_method_5_code
def yX6_isSlot : MethodName := ⟨RX6, "isSlot", "(I)Z"⟩
abbrev cX6_isSingle : ByteArray := prog_8_method_6_code
def yX6_isSingle : MethodName := ⟨RX6, "isSingle", "(I)Z"⟩
abbrev cX6_isRow : ByteArray := prog_8_method_7_code
def yX6_isRow : MethodName := ⟨RX6, "isRow", "(I)Z"⟩
abbrev cX6_goesAs : ByteArray := prog_8_method_8_code
def yX6_goesAs : MethodName := ⟨RX6, "goesAs", "(II)Z"⟩
abbrev cX6_goes : ByteArray := prog_8_method_9_code
def yX6_goes : MethodName := ⟨RX6, "goes", "(II)Z"⟩
abbrev cX6_prop : ByteArray := prog_8_method_10_code
def yX6_prop : MethodName := ⟨RX6, "prop", "(II)I"⟩
abbrev cX6_many : ByteArray := prog_8_method_11_code
def yX6_many : MethodName := ⟨RX6, "many", "(I)I"⟩
abbrev cX6_set : ByteArray := prog_8_method_12_code
def yX6_set : MethodName := ⟨RX6, "set", "(III)I"⟩
abbrev cX6_slot : ByteArray := prog_8_method_13_code
def yX6_slot : MethodName := ⟨RX6, "slot", "(II)I"⟩
abbrev cX6_held : ByteArray := prog_8_method_14_code
def yX6_held : MethodName := ⟨RX6, "held", "(I)I"⟩
abbrev cX6_hand : ByteArray := prog_8_method_15_code
def yX6_hand : MethodName := ⟨RX6, "hand", "()I"⟩
abbrev cX6_has : ByteArray := prog_8_method_16_code
def yX6_has : MethodName := ⟨RX6, "has", "(II)Z"⟩
abbrev cX6_cue : ByteArray := prog_8_method_17_code
def yX6_cue : MethodName := ⟨RX6, "cue", "(IIII)I"⟩
abbrev cX6_strike : ByteArray := prog_8_method_18_code
def yX6_strike : MethodName := ⟨RX6, "strike", "()I"⟩
abbrev cX6_inner : ByteArray := prog_8_method_19_code
def yX6_inner : MethodName := ⟨RX6, "inner", "(I)I"⟩
abbrev cX6_worthOfOne : ByteArray := prog_8_method_20_code
def yX6_worthOfOne : MethodName := ⟨RX6, "worthOfOne", "(II)J"⟩
abbrev cX6_worthOfNumbers : ByteArray := prog_8_method_21_code
def yX6_worthOfNumbers : MethodName := ⟨RX6, "worthOfNumbers", "(I)J"⟩
abbrev cX6_worthOfRow : ByteArray := prog_8_method_22_code
def yX6_worthOfRow : MethodName := ⟨RX6, "worthOfRow", "(II)J"⟩
abbrev cX6_worthOf : ByteArray := prog_8_method_23_code
def yX6_worthOf : MethodName := ⟨RX6, "worthOf", "(II)J"⟩
abbrev cX6_wearRow : ByteArray := prog_8_method_24_code
def yX6_wearRow : MethodName := ⟨RX6, "wearRow", "(I)V"⟩
abbrev cX6_wearAll : ByteArray := prog_8_method_25_code
def yX6_wearAll : MethodName := ⟨RX6, "wearAll", "(I)V"⟩
abbrev cX6_take : ByteArray := prog_8_method_26_code
def yX6_take : MethodName := ⟨RX6, "take", "(II)I"⟩
abbrev cX6_lay : ByteArray := prog_8_method_27_code
def yX6_lay : MethodName := ⟨RX6, "lay", "(III)I"⟩
abbrev cX6_done : ByteArray := prog_8_method_28_code
def yX6_done : MethodName := ⟨RX6, "done", "(I)I"⟩
abbrev cX6_play : ByteArray := prog_8_method_29_code
def yX6_play : MethodName := ⟨RX6, "play", "(II)I"⟩
abbrev cX6_miscue : ByteArray := prog_8_method_30_code
def yX6_miscue : MethodName := ⟨RX6, "miscue", "(I)I"⟩
abbrev cX6_points : ByteArray := prog_8_method_31_code
def yX6_points : MethodName := ⟨RX6, "points", "()J"⟩
abbrev cX6_is : ByteArray := prog_8_method_32_code
def yX6_is : MethodName := ⟨RX6, "is", "(II)I"⟩
abbrev cX6_worth : ByteArray := prog_8_method_33_code
def yX6_worth : MethodName := ⟨RX6, "worth", "(II)J"⟩
abbrev cX6_wear : ByteArray := prog_8_method_34_code
def yX6_wear : MethodName := ⟨RX6, "wear", "(I)I"⟩
abbrev cX6_at : ByteArray := prog_8_method_35_code
def yX6_at : MethodName := ⟨RX6, "at", "(II)I"⟩
abbrev cX6_count : ByteArray := prog_8_method_36_code
def yX6_count : MethodName := ⟨RX6, "count", "(I)I"⟩
def RL : String := "PropStoreLaw"
abbrev cL_law : ByteArray := code
def yL_law : MethodName := ⟨RL, "law", "([I)Z"⟩
def wsL_law_r1 : List Cond := [Cond.classLink RL 7 RX5, Cond.instantiable RX5 10, Cond.initialized RX5, Cond.classLink RL 10 RX6, Cond.instantiable RX6 17, Cond.initialized RX6, Cond.methodLink RL 9 yX5_init, Cond.instanceMethod yX5_init, Cond.code yX5_init cX5_init 1 none, Cond.methodLink RX5 3 objectInit, Cond.instanceMethod objectInit, Cond.code objectInit ⟨#[0xb1]⟩ 1 none, Cond.classLink RX5 9 RX3, Cond.fieldLink RX5 11 "PropStore" "props" "[LPropStore$Prop;", Cond.fieldLink RX5 15 "PropStore" "slots" "[LPropStore$Prop;", Cond.classLink RX5 18 RX0, Cond.fieldLink RX5 20 "PropStore" "cues" "[LPropStore$Cue;", Cond.fieldLink RX5 24 "PropStore" "missedCue" "I", Cond.methodLink RL 12 yX6_init, Cond.instanceMethod yX6_init, Cond.code yX6_init cX6_init 2 none, Cond.methodLink RX6 1 objectInit, Cond.arrayClass .int, Cond.fieldLink RX6 7 "PropStoreModel" "kinds" "[I"]
def wsL_law_r2 : List Cond := [Cond.fieldLink RX6 13 "PropStoreModel" "sizes" "[I", Cond.fieldLink RX6 16 "PropStoreModel" "wears" "[I", Cond.arrayClass .long, Cond.fieldLink RX6 19 "PropStoreModel" "numbers" "[J", Cond.fieldLink RX6 23 "PropStoreModel" "things" "[I", Cond.fieldLink RX6 26 "PropStoreModel" "slots" "[I", Cond.fieldLink RX6 29 "PropStoreModel" "hand" "I", Cond.fieldLink RX6 33 "PropStoreModel" "acts" "[I", Cond.fieldLink RX6 36 "PropStoreModel" "places" "[I", Cond.fieldLink RX6 39 "PropStoreModel" "views" "[I", Cond.fieldLink RX6 42 "PropStoreModel" "more" "[I", Cond.fieldLink RX6 45 "PropStoreModel" "at" "I", Cond.methodLink RL 13 yX5_prop, Cond.instanceMethod yX5_prop, Cond.selects RX5 yX5_prop yX5_prop, Cond.code yX5_prop cX5_prop 3 (some .int), Cond.fieldLink RX5 32 "PropStore" "propCount" "I", Cond.methodLink RX5 28 yX5_mostOf, Cond.static yX5_mostOf, Cond.code yX5_mostOf cX5_mostOf 1 (some .int), Cond.methodLink RX5 149 yX5_isPiece, Cond.static yX5_isPiece, Cond.code yX5_isPiece cX5_isPiece 1 (some .boolean), Cond.methodLink RX5 35 yX5_newProp]
def wsL_law_r3 : List Cond := [Cond.static yX5_newProp, Cond.code yX5_newProp cX5_newProp 3 (some (.object "PropStore$Prop")), Cond.classLink RX5 99 RX2, Cond.instantiable RX2 4, Cond.initialized RX2, Cond.classLink RX5 107 RX4, Cond.instantiable RX4 3, Cond.initialized RX4, Cond.classLink RX5 43 RX1, Cond.instantiable RX1 3, Cond.initialized RX1, Cond.methodLink RX5 152 yX2_init, Cond.instanceMethod yX2_init, Cond.code yX2_init cX2_init 4 none, Cond.fieldLink RX2 9 "PropStore$Piece" "size" "I", Cond.methodLink RX2 3 yX3_init, Cond.instanceMethod yX3_init, Cond.initialized RX3, Cond.code yX3_init cX3_init 3 none, Cond.methodLink RX3 1 objectInit, Cond.fieldLink RX3 7 "PropStore$Prop" "number" "I", Cond.fieldLink RX3 13 "PropStore$Prop" "kind" "I", Cond.methodLink RX5 155 yX5_isRow, Cond.static yX5_isRow]
def wsL_law_r4 : List Cond := [Cond.code yX5_isRow cX5_isRow 1 (some .boolean), Cond.methodLink RX5 158 yX4_init, Cond.instanceMethod yX4_init, Cond.code yX4_init cX4_init 4 none, Cond.classLink RX4 2 RX3, Cond.fieldLink RX4 7 "PropStore$Row" "places" "[LPropStore$Prop;", Cond.methodLink RX4 1 yX3_init, Cond.methodLink RX5 159 yX1_init, Cond.instanceMethod yX1_init, Cond.code yX1_init cX1_init 4 none, Cond.fieldLink RX1 9 "PropStore$Numbers" "numbers" "[J", Cond.methodLink RX1 3 yX3_init, Cond.methodLink RL 17 yX6_prop, Cond.instanceMethod yX6_prop, Cond.selects RX6 yX6_prop yX6_prop, Cond.code yX6_prop cX6_prop 4 (some .int), Cond.fieldLink RX6 48 "PropStoreModel" "props" "I", Cond.methodLink RX6 51 yX6_isIn, Cond.static yX6_isIn, Cond.code yX6_isIn cX6_isIn 3 (some .boolean), Cond.methodLink RX6 59 yX6_isSingle, Cond.static yX6_isSingle, Cond.code yX6_isSingle cX6_isSingle 1 (some .boolean), Cond.methodLink RL 18 yX5_set]
def wsL_law_r5 : List Cond := [Cond.instanceMethod yX5_set, Cond.selects RX5 yX5_set yX5_set, Cond.code yX5_set cX5_set 6 (some .int), Cond.classLink RX5 43 "PropStore$Numbers", Cond.methodLink RX5 39 yX5_find, Cond.instanceMethod yX5_find, Cond.selects RX5 yX5_find yX5_find, Cond.code yX5_find cX5_find 2 (some (.object "PropStore$Prop")), Cond.methodLink RX5 45 yX1_put, Cond.instanceMethod yX1_put, Cond.selects RX1 yX1_put yX1_put, Cond.code yX1_put cX1_put 3 (some .boolean), Cond.methodLink RX1 15 yX1_cut, Cond.instanceMethod yX1_cut, Cond.selects RX1 yX1_cut yX1_cut, Cond.code yX1_cut cX1_cut 2 (some .long), Cond.fieldLink RX1 19 "PropStore$Numbers" "kind" "I", Cond.sameField "PropStore$Numbers" "PropStore$Prop" "kind" "I", Cond.methodLink RL 22 yX6_set, Cond.instanceMethod yX6_set, Cond.selects RX6 yX6_set yX6_set, Cond.code yX6_set cX6_set 4 (some .int), Cond.constant RX6 70 (65535), Cond.methodLink RX6 63 yX6_isProp]
def wsL_law_r6 : List Cond := [Cond.instanceMethod yX6_isProp, Cond.selects RX6 yX6_isProp yX6_isProp, Cond.code yX6_isProp cX6_isProp 2 (some .boolean), Cond.methodLink RX6 66 yX6_many, Cond.instanceMethod yX6_many, Cond.selects RX6 yX6_many yX6_many, Cond.code yX6_many cX6_many 2 (some .int), Cond.methodLink RL 23 yX5_slot, Cond.instanceMethod yX5_slot, Cond.selects RX5 yX5_slot yX5_slot, Cond.code yX5_slot cX5_slot 5 (some .int), Cond.methodLink RX5 49 yX5_isSlot, Cond.static yX5_isSlot, Cond.code yX5_isSlot cX5_isSlot 1 (some .boolean), Cond.methodLink RX5 53 yX5_numberOf, Cond.static yX5_numberOf, Cond.code yX5_numberOf cX5_numberOf 1 (some .int), Cond.fieldLink RX5 160 "PropStore$Prop" "number" "I", Cond.methodLink RL 26 yX6_slot, Cond.instanceMethod yX6_slot, Cond.selects RX6 yX6_slot yX6_slot, Cond.code yX6_slot cX6_slot 4 (some .int), Cond.methodLink RX6 71 yX6_isSlot, Cond.static yX6_isSlot]
def wsL_law_r7 : List Cond := [Cond.code yX6_isSlot cX6_isSlot 1 (some .boolean), Cond.methodLink RL 27 yX5_held, Cond.instanceMethod yX5_held, Cond.selects RX5 yX5_held yX5_held, Cond.code yX5_held cX5_held 2 (some .int), Cond.methodLink RL 31 yX6_held, Cond.instanceMethod yX6_held, Cond.selects RX6 yX6_held yX6_held, Cond.code yX6_held cX6_held 2 (some .int), Cond.methodLink RL 32 yX5_hand, Cond.instanceMethod yX5_hand, Cond.selects RX5 yX5_hand yX5_hand, Cond.code yX5_hand cX5_hand 1 (some .int), Cond.fieldLink RX5 57 "PropStore" "inHand" "LPropStore$Prop;", Cond.methodLink RL 36 yX6_hand, Cond.instanceMethod yX6_hand, Cond.selects RX6 yX6_hand yX6_hand, Cond.code yX6_hand cX6_hand 1 (some .int), Cond.methodLink RL 37 yX5_cue, Cond.instanceMethod yX5_cue, Cond.selects RX5 yX5_cue yX5_cue, Cond.code yX5_cue cX5_cue 5 (some .int), Cond.fieldLink RX5 64 "PropStore" "ACT_VIEWS" "[I", Cond.fieldLink RX5 71 "PropStore" "cueCount" "I"]
def wsL_law_r8 : List Cond := [Cond.instantiable RX0 4, Cond.initialized RX0, Cond.methodLink RX5 61 yX5_isView, Cond.static yX5_isView, Cond.code yX5_isView cX5_isView 1 (some .boolean), Cond.methodLink RX5 68 yX5_isAmong, Cond.static yX5_isAmong, Cond.code yX5_isAmong cX5_isAmong 2 (some .boolean), Cond.methodLink RX5 74 yX0_init, Cond.instanceMethod yX0_init, Cond.code yX0_init cX0_init 5 none, Cond.methodLink RX0 1 objectInit, Cond.fieldLink RX0 7 "PropStore$Cue" "act" "I", Cond.fieldLink RX0 13 "PropStore$Cue" "slot" "I", Cond.fieldLink RX0 16 "PropStore$Cue" "view" "I", Cond.fieldLink RX0 19 "PropStore$Cue" "i" "I", Cond.methodLink RL 41 yX6_cue, Cond.instanceMethod yX6_cue, Cond.selects RX6 yX6_cue yX6_cue, Cond.code yX6_cue cX6_cue 5 (some .int), Cond.fieldLink RX6 83 "PropStoreModel" "cues" "I", Cond.methodLink RX6 77 yX6_isView, Cond.static yX6_isView, Cond.code yX6_isView cX6_isView 1 (some .boolean)]
def wsL_law_r9 : List Cond := [Cond.methodLink RX6 80 yX6_has, Cond.static yX6_has, Cond.code yX6_has cX6_has 2 (some .boolean), Cond.methodLink RX6 74 yX6_isRow, Cond.static yX6_isRow, Cond.code yX6_isRow cX6_isRow 1 (some .boolean), Cond.methodLink RL 42 yX5_strike, Cond.instanceMethod yX5_strike, Cond.selects RX5 yX5_strike yX5_strike, Cond.code yX5_strike cX5_strike 2 (some .int), Cond.methodLink RL 45 yX6_strike, Cond.instanceMethod yX6_strike, Cond.selects RX6 yX6_strike yX6_strike, Cond.code yX6_strike cX6_strike 2 (some .int), Cond.methodLink RL 46 yX5_play, Cond.instanceMethod yX5_play, Cond.selects RX5 yX5_play yX5_play, Cond.code yX5_play cX5_play 5 (some .int), Cond.fieldLink RX5 77 "PropStore" "missReason" "I", Cond.fieldLink RX5 84 "PropStore" "missCount" "I", Cond.methodLink RX5 80 yX5_perform, Cond.instanceMethod yX5_perform, Cond.selects RX5 yX5_perform yX5_perform, Cond.code yX5_perform cX5_perform 3 (some .int)]
def wsL_law_r10 : List Cond := [Cond.fieldLink RX5 115 "PropStore$Cue" "slot" "I", Cond.fieldLink RX5 118 "PropStore$Cue" "view" "I", Cond.fieldLink RX5 121 "PropStore$Cue" "act" "I", Cond.fieldLink RX5 131 "PropStore$Cue" "i" "I", Cond.methodLink RX5 91 yX5_goesAs, Cond.static yX5_goesAs, Cond.code yX5_goesAs cX5_goesAs 2 (some .boolean), Cond.fieldLink RX5 163 "PropStore" "GOES_AS" "[I", Cond.fieldLink RX5 166 "PropStore$Prop" "kind" "I", Cond.methodLink RX5 124 yX5_showProp, Cond.instanceMethod yX5_showProp, Cond.selects RX5 yX5_showProp yX5_showProp, Cond.code yX5_showProp cX5_showProp 3 (some .int), Cond.fieldLink RX5 87 "PropStore" "score" "J", Cond.methodLink RX5 95 ⟨"PropStore$Prop", "worthBy", "(I)J"⟩, Cond.sameMethod "PropStore$Prop" "PropStore$Prop" "worthBy" "(I)J", Cond.selects RX1 ⟨"PropStore$Prop", "worthBy", "(I)J"⟩ yX1_worthBy, Cond.instanceMethod yX1_worthBy, Cond.code yX1_worthBy cX1_worthBy 5 (some .long), Cond.selects RX2 ⟨"PropStore$Prop", "worthBy", "(I)J"⟩ yX2_worthBy, Cond.instanceMethod yX2_worthBy, Cond.code yX2_worthBy cX2_worthBy 2 (some .long), Cond.fieldLink RX2 15 "PropStore$Piece" "timesWorn" "I", Cond.constantLong RX2 18 (2)]
def wsL_law_r11 : List Cond := [Cond.constantLong RX2 20 (3), Cond.fieldLink RX2 22 "PropStore$Piece" "kind" "I", Cond.sameField "PropStore$Piece" "PropStore$Prop" "kind" "I", Cond.constantLong RX2 25 (5), Cond.selects RX4 ⟨"PropStore$Prop", "worthBy", "(I)J"⟩ yX4_worthBy, Cond.instanceMethod yX4_worthBy, Cond.code yX4_worthBy cX4_worthBy 6 (some .long), Cond.static yX5_partView, Cond.code yX5_partView cX5_partView 1 (some .int), Cond.fieldLink RX5 167 "PropStore" "PART_VIEWS" "[I", Cond.methodLink RX4 23 ⟨"PropStore$Prop", "worthBy", "(I)J"⟩, Cond.methodLink RX5 128 yX5_wearProp, Cond.static yX5_wearProp, Cond.code yX5_wearProp cX5_wearProp 2 (some .int), Cond.methodLink RX5 141 ⟨"PropStore$Prop", "putOn", "(I)V"⟩, Cond.sameMethod "PropStore$Prop" "PropStore$Prop" "putOn" "(I)V", Cond.selects RX1 ⟨"PropStore$Prop", "putOn", "(I)V"⟩ yX1_putOn, Cond.instanceMethod yX1_putOn, Cond.code yX1_putOn cX1_putOn 2 none, Cond.selects RX2 ⟨"PropStore$Prop", "putOn", "(I)V"⟩ yX2_putOn, Cond.instanceMethod yX2_putOn, Cond.code yX2_putOn cX2_putOn 2 none, Cond.selects RX4 ⟨"PropStore$Prop", "putOn", "(I)V"⟩ yX4_putOn, Cond.instanceMethod yX4_putOn]
def wsL_law_r12 : List Cond := [Cond.code yX4_putOn cX4_putOn 4 none, Cond.methodLink RX4 27 ⟨"PropStore$Prop", "putOn", "(I)V"⟩, Cond.methodLink RX5 134 yX5_takePart, Cond.instanceMethod yX5_takePart, Cond.selects RX5 yX5_takePart yX5_takePart, Cond.code yX5_takePart cX5_takePart 4 (some .int), Cond.classLink RX5 107 "PropStore$Row", Cond.fieldLink RX5 112 "PropStore$Row" "places" "[LPropStore$Prop;", Cond.methodLink RX5 109 yX4_hasPlace, Cond.instanceMethod yX4_hasPlace, Cond.selects RX4 yX4_hasPlace yX4_hasPlace, Cond.code yX4_hasPlace cX4_hasPlace 2 (some .boolean), Cond.methodLink RX5 137 yX5_layPart, Cond.instanceMethod yX5_layPart, Cond.selects RX5 yX5_layPart yX5_layPart, Cond.code yX5_layPart cX5_layPart 5 (some .int), Cond.fieldLink RX5 148 "PropStore$Row" "kind" "I", Cond.sameField "PropStore$Row" "PropStore$Prop" "kind" "I", Cond.methodLink RX5 145 yX5_partView, Cond.methodLink RL 49 yX6_play, Cond.instanceMethod yX6_play, Cond.selects RX6 yX6_play yX6_play, Cond.code yX6_play cX6_play 5 (some .int), Cond.fieldLink RX6 131 "PropStoreModel" "why" "I"]
def wsL_law_r13 : List Cond := [Cond.fieldLink RX6 137 "PropStoreModel" "often" "I", Cond.methodLink RX6 134 yX6_done, Cond.instanceMethod yX6_done, Cond.selects RX6 yX6_done yX6_done, Cond.code yX6_done cX6_done 5 (some .int), Cond.fieldLink RX6 113 "PropStoreModel" "points" "J", Cond.methodLink RX6 110 yX6_goes, Cond.instanceMethod yX6_goes, Cond.selects RX6 yX6_goes yX6_goes, Cond.code yX6_goes cX6_goes 3 (some .boolean), Cond.methodLink RX6 55 yX6_goesAs, Cond.static yX6_goesAs, Cond.code yX6_goesAs cX6_goesAs 2 (some .boolean), Cond.methodLink RX6 117 yX6_worthOf, Cond.instanceMethod yX6_worthOf, Cond.selects RX6 yX6_worthOf yX6_worthOf, Cond.code yX6_worthOf cX6_worthOf 7 (some .long), Cond.methodLink RX6 99 yX6_worthOfNumbers, Cond.instanceMethod yX6_worthOfNumbers, Cond.selects RX6 yX6_worthOfNumbers yX6_worthOfNumbers, Cond.code yX6_worthOfNumbers cX6_worthOfNumbers 5 (some .long), Cond.methodLink RX6 95 yX6_worthOfOne, Cond.instanceMethod yX6_worthOfOne, Cond.selects RX6 yX6_worthOfOne yX6_worthOfOne]
def wsL_law_r14 : List Cond := [Cond.code yX6_worthOfOne cX6_worthOfOne 5 (some .long), Cond.constantLong RX6 86 (2), Cond.constantLong RX6 88 (3), Cond.constantLong RX6 90 (5), Cond.methodLink RX6 103 yX6_worthOfRow, Cond.instanceMethod yX6_worthOfRow, Cond.selects RX6 yX6_worthOfRow yX6_worthOfRow, Cond.code yX6_worthOfRow cX6_worthOfRow 7 (some .long), Cond.methodLink RX6 92 yX6_inner, Cond.static yX6_inner, Cond.code yX6_inner cX6_inner 1 (some .int), Cond.methodLink RX6 120 yX6_wearAll, Cond.instanceMethod yX6_wearAll, Cond.selects RX6 yX6_wearAll yX6_wearAll, Cond.code yX6_wearAll cX6_wearAll 4 none, Cond.methodLink RX6 106 yX6_wearRow, Cond.instanceMethod yX6_wearRow, Cond.selects RX6 yX6_wearRow yX6_wearRow, Cond.code yX6_wearRow cX6_wearRow 4 none, Cond.methodLink RX6 123 yX6_take, Cond.instanceMethod yX6_take, Cond.selects RX6 yX6_take yX6_take, Cond.code yX6_take cX6_take 3 (some .int), Cond.methodLink RX6 127 yX6_lay]
def wsL_law_r15 : List Cond := [Cond.instanceMethod yX6_lay, Cond.selects RX6 yX6_lay yX6_lay, Cond.code yX6_lay cX6_lay 4 (some .int), Cond.methodLink RL 50 yX5_miscue, Cond.instanceMethod yX5_miscue, Cond.selects RX5 yX5_miscue yX5_miscue, Cond.code yX5_miscue cX5_miscue 2 (some .int), Cond.methodLink RL 53 yX6_miscue, Cond.instanceMethod yX6_miscue, Cond.selects RX6 yX6_miscue yX6_miscue, Cond.code yX6_miscue cX6_miscue 2 (some .int), Cond.methodLink RL 54 yX5_points, Cond.instanceMethod yX5_points, Cond.selects RX5 yX5_points yX5_points, Cond.code yX5_points cX5_points 1 (some .long), Cond.methodLink RL 58 yX6_points, Cond.instanceMethod yX6_points, Cond.selects RX6 yX6_points yX6_points, Cond.code yX6_points cX6_points 1 (some .long), Cond.methodLink RL 59 yX5_is, Cond.instanceMethod yX5_is, Cond.selects RX5 yX5_is yX5_is, Cond.code yX5_is cX5_is 4 (some .int), Cond.methodLink RL 62 yX6_is]
def wsL_law_r16 : List Cond := [Cond.instanceMethod yX6_is, Cond.selects RX6 yX6_is yX6_is, Cond.code yX6_is cX6_is 3 (some .int), Cond.methodLink RL 63 yX5_worth, Cond.instanceMethod yX5_worth, Cond.selects RX5 yX5_worth yX5_worth, Cond.code yX5_worth cX5_worth 4 (some .long), Cond.methodLink RL 67 yX6_worth, Cond.instanceMethod yX6_worth, Cond.selects RX6 yX6_worth yX6_worth, Cond.code yX6_worth cX6_worth 3 (some .long), Cond.methodLink RL 68 yX5_wear, Cond.instanceMethod yX5_wear, Cond.selects RX5 yX5_wear yX5_wear, Cond.code yX5_wear cX5_wear 4 (some .int), Cond.classLink RX5 99 "PropStore$Piece", Cond.fieldLink RX5 101 "PropStore$Piece" "kind" "I", Cond.fieldLink RX5 104 "PropStore$Piece" "timesWorn" "I", Cond.methodLink RL 71 yX6_wear, Cond.instanceMethod yX6_wear, Cond.selects RX6 yX6_wear yX6_wear, Cond.code yX6_wear cX6_wear 2 (some .int), Cond.methodLink RL 72 yX5_at, Cond.instanceMethod yX5_at]
def wsL_law_r17 : List Cond := [Cond.selects RX5 yX5_at yX5_at, Cond.code yX5_at cX5_at 5 (some .int), Cond.methodLink RL 75 yX6_at, Cond.instanceMethod yX6_at, Cond.selects RX6 yX6_at yX6_at, Cond.code yX6_at cX6_at 3 (some .int), Cond.methodLink RL 76 yX5_count, Cond.instanceMethod yX5_count, Cond.selects RX5 yX5_count yX5_count, Cond.code yX5_count cX5_count 2 (some .int), Cond.methodLink RL 79 yX6_count, Cond.instanceMethod yX6_count, Cond.selects RX6 yX6_count yX6_count, Cond.code yX6_count cX6_count 2 (some .int)]
def wsL_law : List Cond := (wsL_law_r1 ++ (wsL_law_r2 ++ (wsL_law_r3 ++ (wsL_law_r4 ++ (wsL_law_r5 ++ (wsL_law_r6 ++ (wsL_law_r7 ++ (wsL_law_r8 ++ (wsL_law_r9 ++ (wsL_law_r10 ++ (wsL_law_r11 ++ (wsL_law_r12 ++ (wsL_law_r13 ++ (wsL_law_r14 ++ (wsL_law_r15 ++ (wsL_law_r16 ++ wsL_law_r17)))))))))))))))) ++ wsX50 ++ wsX60 ++ wsX20 ++ wsX40 ++ wsX10 ++ wsX00 ++ ([] : List Cond)
set_option maxRecDepth 20000 in
theorem wsL_law_in : ∀ w ∈ wsL_law, w ∈ lw_tbl := fun w h => (goodIn_p wsL_law [30, 33, 316, 72, 75, 78, 81, 86, 89, 116, 121, 135, 374, 377, 380, 147, 151, 155, 159, 384, 388, 392, 163, 166, 169, 397, 400, 173, 404, 177, 408, 181, 184, 189, 193, 412, 415, 418, 421, 215, 425, 219, 223, 226, 232, 238, 241, 247, 251, 257, 263, 266, 269, 274, 278, 282, 429, 433, 437, 440, 444, 448, 452, 459, 462, 466, 470, 474, 478, 287, 482, 291, 486, 295, 490, 299, 494, 303, 498, 307, 502, 311, 506] (by decide +kernel) (by decide +kernel) w h).1
theorem inlX0 : ∀ w ∈ wsX00, w ∈ wsL_law := fun _ h => List.mem_append_left _ (List.mem_append_right _ h)
theorem inX0 : ∀ w ∈ wsX00, w ∈ lw_tbl := fun w h => wsL_law_in w (inlX0 w h)
theorem inlX1 : ∀ w ∈ wsX10, w ∈ wsL_law := fun _ h => List.mem_append_left _ (List.mem_append_left _ (List.mem_append_right _ h))
theorem inX1 : ∀ w ∈ wsX10, w ∈ lw_tbl := fun w h => wsL_law_in w (inlX1 w h)
theorem inlX2 : ∀ w ∈ wsX20, w ∈ wsL_law := fun _ h => List.mem_append_left _ (List.mem_append_left _ (List.mem_append_left _ (List.mem_append_left _ (List.mem_append_right _ h))))
theorem inX2 : ∀ w ∈ wsX20, w ∈ lw_tbl := fun w h => wsL_law_in w (inlX2 w h)
theorem inX3 : ∀ w ∈ wsX30, w ∈ lw_tbl := by decide +kernel
theorem inlX4 : ∀ w ∈ wsX40, w ∈ wsL_law := fun _ h => List.mem_append_left _ (List.mem_append_left _ (List.mem_append_left _ (List.mem_append_right _ h)))
theorem inX4 : ∀ w ∈ wsX40, w ∈ lw_tbl := fun w h => wsL_law_in w (inlX4 w h)
theorem inlX5 : ∀ w ∈ wsX50, w ∈ wsL_law := fun _ h => List.mem_append_left _ (List.mem_append_left _ (List.mem_append_left _ (List.mem_append_left _ (List.mem_append_left _ (List.mem_append_left _ (List.mem_append_right _ h))))))
theorem inX5 : ∀ w ∈ wsX50, w ∈ lw_tbl := fun w h => wsL_law_in w (inlX5 w h)
theorem inlX6 : ∀ w ∈ wsX60, w ∈ wsL_law := fun _ h => List.mem_append_left _ (List.mem_append_left _ (List.mem_append_left _ (List.mem_append_left _ (List.mem_append_left _ (List.mem_append_right _ h)))))
theorem inX6 : ∀ w ∈ wsX60, w ∈ lw_tbl := fun w h => wsL_law_in w (inlX6 w h)
abbrev vwCl : List vw_C := [(RX0, TX0, 4), (RX1, TX1, 3), (RX2, TX2, 4), (RX4, TX4, 3), (RX5, TX5, 10), (RX6, TX6, 17)]
