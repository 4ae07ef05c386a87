theorem zq_cat (r : Option Nat) : (va_rf r).category = 1 := by cases r <;> rfl
theorem zq_nar {C : String} (r : Option Nat) : narrow (.object C) (va_rf r) = va_rf r := by cases r <;> rfl
theorem zq_fit {C : String} (r : Option Nat) : fits (.object C) (va_rf r) = true := by cases r <;> rfl
theorem nl_X4_13 : Cond.methodLinkNest RX4 13 yX5_isRow "PropStore" ∈ zm_nws ∧ Cond.static yX5_isRow ∈ wsL_law := ⟨by decide +kernel, ml_X5_155.2⟩
theorem nl_X4_19 : Cond.methodLinkNest RX4 19 yX5_partView "PropStore" ∈ zm_nws ∧ Cond.static yX5_partView ∈ wsL_law := ⟨by decide +kernel, ml_X5_145.2⟩
theorem isSlot_t {x : Int32} (h : ¬ x < 0) (h2 : ¬ 10 ≤ x) : (ix 10 x).isSome = true := by obtain ⟨j, -, -, e⟩ := ix_in (n := 10) (by decide) h h2; rw [e]; rfl
theorem isSlot_f1 {x : Int32} (h : x < 0) : (ix 10 x).isSome = false := by rw [ix_lt h]; rfl
theorem isSlot_f2 {x : Int32} (h : 10 ≤ x) : (ix 10 x).isSome = false := by rw [ix_ge h]; rfl
theorem le_pred {x y z : Int32} (hz : y.toInt + 1 = z.toInt) : ¬ y < x ↔ ¬ z ≤ x := by rw [Int32.lt_iff_toInt_lt, Int32.le_iff_toInt_le]; omega
theorem lt_pred {x y z : Int32} (hz : y.toInt + 1 = z.toInt) : y < x ↔ z ≤ x := by rw [Int32.lt_iff_toInt_lt, Int32.le_iff_toInt_le]; omega
theorem isView_t {x : Int32} (h : ¬ x < 0) (h2 : ¬ 16 < x) : (ix 17 x).isSome = true := by obtain ⟨j, -, -, e⟩ := ix_in (n := 17) (by decide) h ((le_pred (z := 17) (by decide)).mp h2); rw [e]; rfl
theorem isView_f1 {x : Int32} (h : x < 0) : (ix 17 x).isSome = false := by rw [ix_lt h]; rfl
theorem isView_f2 {x : Int32} (h : 16 < x) : (ix 17 x).isSome = false := by rw [ix_ge ((lt_pred (z := 17) (by decide)).mp h)]; rfl
def zbt (a b x : Int32) : Bool := decide (¬ x < a) && decide (¬ b < x)
theorem isPiece_t {x : Int32} (h : ¬ x < 4) (h2 : ¬ 7 < x) : zbt 4 7 x = true := by simp only [zbt, h, h2]; rfl
theorem isPiece_f1 {x : Int32} (h : x < 4) : zbt 4 7 x = false := by simp [zbt, h]
theorem isPiece_f2 {x : Int32} (h : 7 < x) : zbt 4 7 x = false := by simp [zbt, h]
theorem isRow_t {x : Int32} (h : ¬ x < 8) (h2 : ¬ 15 < x) : zbt 8 15 x = true := by simp only [zbt, h, h2]; rfl
theorem isRow_f1 {x : Int32} (h : x < 8) : zbt 8 15 x = false := by simp [zbt, h]
theorem isRow_f2 {x : Int32} (h : 15 < x) : zbt 8 15 x = false := by simp [zbt, h]
set_option maxRecDepth 100000 in
set_option maxHeartbeats 4000000 in
theorem c_X5_isSlot (l : Launch) (G : zm_G) (A : Nat → Prop) (M : zm_M) (x : Int32) : Met l yX5_isSlot (zm_W yX5_isSlot cX5_isSlot 1 (some .boolean)) (zm_rm 0 0 0) (zm_Pc G [.int x] A M) (zm_Q G (fun r M' => r = some (.int (bI ((ix 10 x).isSome))) ∧ M' = M) A) 0 0 A := by
  refine zm_start (by decide) (Nat.le_of_ble_eq_true rfl) ?_
  intro p e s m below meth c hx hb hml hr hts hown hlk hnm hE hA ls hl hM hS
  have hl : lv_has ls 1 [(0, .int x)] := hl
  refine lv_iload_n hx hb dX5_isSlot_0 rfl (lv_at hl 0 rfl) ?_
  refine lv_if_lt (tgt := 14) hx hb dX5_isSlot_1 (by decide) (fun c1 => ?_) (fun c1 => ?_)
  · refine lv_iconst (v := 0) hx hb dX5_isSlot_14 (by decide) ?_
    refine zm_zret hx hb hr hlk hM hS (by first | exact Or.inl rfl | exact Or.inr rfl | exact bI_01 _) ?_ ⟨Nat.le_refl _, Nat.le_refl _⟩ dX5_isSlot_15
    refine ⟨?_, rfl⟩
    first | (rw [isSlot_t (by assumption) (by assumption)]; rfl) | (rw [isSlot_f1 (by assumption)]; rfl) | (rw [isSlot_f2 (by assumption)]; rfl)
  · refine lv_iload_n hx hb dX5_isSlot_4 rfl (lv_at hl 0 rfl) ?_
    refine lv_bipush (v := 10) hx hb dX5_isSlot_5 (by decide) ?_
    refine lv_icmp_ge (tgt := 14) hx hb dX5_isSlot_7 (by decide) (fun c7 => ?_) (fun c7 => ?_)
    · refine lv_iconst (v := 0) hx hb dX5_isSlot_14 (by decide) ?_
      refine zm_zret hx hb hr hlk hM hS (by first | exact Or.inl rfl | exact Or.inr rfl | exact bI_01 _) ?_ ⟨Nat.le_refl _, Nat.le_refl _⟩ dX5_isSlot_15
      refine ⟨?_, rfl⟩
      first | (rw [isSlot_t (by assumption) (by assumption)]; rfl) | (rw [isSlot_f1 (by assumption)]; rfl) | (rw [isSlot_f2 (by assumption)]; rfl)
    · refine lv_iconst (v := 1) hx hb dX5_isSlot_10 (by decide) ?_
      refine lv_goto (tgt := 15) hx hb dX5_isSlot_11 (by decide) ?_
      refine zm_zret hx hb hr hlk hM hS (by first | exact Or.inl rfl | exact Or.inr rfl | exact bI_01 _) ?_ ⟨Nat.le_refl _, Nat.le_refl _⟩ dX5_isSlot_15
      refine ⟨?_, rfl⟩
      first | (rw [isSlot_t (by assumption) (by assumption)]; rfl) | (rw [isSlot_f1 (by assumption)]; rfl) | (rw [isSlot_f2 (by assumption)]; rfl)
set_option maxRecDepth 100000 in
set_option maxHeartbeats 4000000 in
theorem c_X5_isView (l : Launch) (G : zm_G) (A : Nat → Prop) (M : zm_M) (x : Int32) : Met l yX5_isView (zm_W yX5_isView cX5_isView 1 (some .boolean)) (zm_rm 0 0 0) (zm_Pc G [.int x] A M) (zm_Q G (fun r M' => r = some (.int (bI ((ix 17 x).isSome))) ∧ M' = M) A) 0 0 A := by
  refine zm_start (by decide) (Nat.le_of_ble_eq_true rfl) ?_
  intro p e s m below meth c hx hb hml hr hts hown hlk hnm hE hA ls hl hM hS
  have hl : lv_has ls 1 [(0, .int x)] := hl
  refine lv_iload_n hx hb dX5_isView_0 rfl (lv_at hl 0 rfl) ?_
  refine lv_if_lt (tgt := 14) hx hb dX5_isView_1 (by decide) (fun c1 => ?_) (fun c1 => ?_)
  · refine lv_iconst (v := 0) hx hb dX5_isView_14 (by decide) ?_
    refine zm_zret hx hb hr hlk hM hS (by first | exact Or.inl rfl | exact Or.inr rfl | exact bI_01 _) ?_ ⟨Nat.le_refl _, Nat.le_refl _⟩ dX5_isView_15
    refine ⟨?_, rfl⟩
    first | (rw [isView_t (by assumption) (by assumption)]; rfl) | (rw [isView_f1 (by assumption)]; rfl) | (rw [isView_f2 (by assumption)]; rfl)
  · refine lv_iload_n hx hb dX5_isView_4 rfl (lv_at hl 0 rfl) ?_
    refine lv_bipush (v := 16) hx hb dX5_isView_5 (by decide) ?_
    refine lv_icmp_gt (tgt := 14) hx hb dX5_isView_7 (by decide) (fun c7 => ?_) (fun c7 => ?_)
    · refine lv_iconst (v := 0) hx hb dX5_isView_14 (by decide) ?_
      refine zm_zret hx hb hr hlk hM hS (by first | exact Or.inl rfl | exact Or.inr rfl | exact bI_01 _) ?_ ⟨Nat.le_refl _, Nat.le_refl _⟩ dX5_isView_15
      refine ⟨?_, rfl⟩
      first | (rw [isView_t (by assumption) (by assumption)]; rfl) | (rw [isView_f1 (by assumption)]; rfl) | (rw [isView_f2 (by assumption)]; rfl)
    · refine lv_iconst (v := 1) hx hb dX5_isView_10 (by decide) ?_
      refine lv_goto (tgt := 15) hx hb dX5_isView_11 (by decide) ?_
      refine zm_zret hx hb hr hlk hM hS (by first | exact Or.inl rfl | exact Or.inr rfl | exact bI_01 _) ?_ ⟨Nat.le_refl _, Nat.le_refl _⟩ dX5_isView_15
      refine ⟨?_, rfl⟩
      first | (rw [isView_t (by assumption) (by assumption)]; rfl) | (rw [isView_f1 (by assumption)]; rfl) | (rw [isView_f2 (by assumption)]; rfl)
set_option maxRecDepth 100000 in
set_option maxHeartbeats 4000000 in
theorem c_X5_isPiece (l : Launch) (G : zm_G) (A : Nat → Prop) (M : zm_M) (x : Int32) : Met l yX5_isPiece (zm_W yX5_isPiece cX5_isPiece 1 (some .boolean)) (zm_rm 0 0 0) (zm_Pc G [.int x] A M) (zm_Q G (fun r M' => r = some (.int (bI (zbt 4 7 x))) ∧ M' = M) A) 0 0 A := by
  refine zm_start (by decide) (Nat.le_of_ble_eq_true rfl) ?_
  intro p e s m below meth c hx hb hml hr hts hown hlk hnm hE hA ls hl hM hS
  have hl : lv_has ls 1 [(0, .int x)] := hl
  refine lv_iload_n hx hb dX5_isPiece_0 rfl (lv_at hl 0 rfl) ?_
  refine lv_iconst (v := 4) hx hb dX5_isPiece_1 (by decide) ?_
  refine lv_icmp_lt (tgt := 15) hx hb dX5_isPiece_2 (by decide) (fun c2 => ?_) (fun c2 => ?_)
  · refine lv_iconst (v := 0) hx hb dX5_isPiece_15 (by decide) ?_
    refine zm_zret hx hb hr hlk hM hS (by first | exact Or.inl rfl | exact Or.inr rfl | exact bI_01 _) ?_ ⟨Nat.le_refl _, Nat.le_refl _⟩ dX5_isPiece_16
    refine ⟨?_, rfl⟩
    first | (rw [isPiece_t (by assumption) (by assumption)]; rfl) | (rw [isPiece_f1 (by assumption)]; rfl) | (rw [isPiece_f2 (by assumption)]; rfl)
  · refine lv_iload_n hx hb dX5_isPiece_5 rfl (lv_at hl 0 rfl) ?_
    refine lv_bipush (v := 7) hx hb dX5_isPiece_6 (by decide) ?_
    refine lv_icmp_gt (tgt := 15) hx hb dX5_isPiece_8 (by decide) (fun c8 => ?_) (fun c8 => ?_)
    · refine lv_iconst (v := 0) hx hb dX5_isPiece_15 (by decide) ?_
      refine zm_zret hx hb hr hlk hM hS (by first | exact Or.inl rfl | exact Or.inr rfl | exact bI_01 _) ?_ ⟨Nat.le_refl _, Nat.le_refl _⟩ dX5_isPiece_16
      refine ⟨?_, rfl⟩
      first | (rw [isPiece_t (by assumption) (by assumption)]; rfl) | (rw [isPiece_f1 (by assumption)]; rfl) | (rw [isPiece_f2 (by assumption)]; rfl)
    · refine lv_iconst (v := 1) hx hb dX5_isPiece_11 (by decide) ?_
      refine lv_goto (tgt := 16) hx hb dX5_isPiece_12 (by decide) ?_
      refine zm_zret hx hb hr hlk hM hS (by first | exact Or.inl rfl | exact Or.inr rfl | exact bI_01 _) ?_ ⟨Nat.le_refl _, Nat.le_refl _⟩ dX5_isPiece_16
      refine ⟨?_, rfl⟩
      first | (rw [isPiece_t (by assumption) (by assumption)]; rfl) | (rw [isPiece_f1 (by assumption)]; rfl) | (rw [isPiece_f2 (by assumption)]; rfl)
set_option maxRecDepth 100000 in
set_option maxHeartbeats 4000000 in
theorem c_X5_isRow (l : Launch) (G : zm_G) (A : Nat → Prop) (M : zm_M) (x : Int32) : Met l yX5_isRow (zm_W yX5_isRow cX5_isRow 1 (some .boolean)) (zm_rm 0 0 0) (zm_Pc G [.int x] A M) (zm_Q G (fun r M' => r = some (.int (bI (zbt 8 15 x))) ∧ M' = M) A) 0 0 A := by
  refine zm_start (by decide) (Nat.le_of_ble_eq_true rfl) ?_
  intro p e s m below meth c hx hb hml hr hts hown hlk hnm hE hA ls hl hM hS
  have hl : lv_has ls 1 [(0, .int x)] := hl
  refine lv_iload_n hx hb dX5_isRow_0 rfl (lv_at hl 0 rfl) ?_
  refine lv_bipush (v := 8) hx hb dX5_isRow_1 (by decide) ?_
  refine lv_icmp_lt (tgt := 16) hx hb dX5_isRow_3 (by decide) (fun c3 => ?_) (fun c3 => ?_)
  · refine lv_iconst (v := 0) hx hb dX5_isRow_16 (by decide) ?_
    refine zm_zret hx hb hr hlk hM hS (by first | exact Or.inl rfl | exact Or.inr rfl | exact bI_01 _) ?_ ⟨Nat.le_refl _, Nat.le_refl _⟩ dX5_isRow_17
    refine ⟨?_, rfl⟩
    first | (rw [isRow_t (by assumption) (by assumption)]; rfl) | (rw [isRow_f1 (by assumption)]; rfl) | (rw [isRow_f2 (by assumption)]; rfl)
  · refine lv_iload_n hx hb dX5_isRow_6 rfl (lv_at hl 0 rfl) ?_
    refine lv_bipush (v := 15) hx hb dX5_isRow_7 (by decide) ?_
    refine lv_icmp_gt (tgt := 16) hx hb dX5_isRow_9 (by decide) (fun c9 => ?_) (fun c9 => ?_)
    · refine lv_iconst (v := 0) hx hb dX5_isRow_16 (by decide) ?_
      refine zm_zret hx hb hr hlk hM hS (by first | exact Or.inl rfl | exact Or.inr rfl | exact bI_01 _) ?_ ⟨Nat.le_refl _, Nat.le_refl _⟩ dX5_isRow_17
      refine ⟨?_, rfl⟩
      first | (rw [isRow_t (by assumption) (by assumption)]; rfl) | (rw [isRow_f1 (by assumption)]; rfl) | (rw [isRow_f2 (by assumption)]; rfl)
    · refine lv_iconst (v := 1) hx hb dX5_isRow_12 (by decide) ?_
      refine lv_goto (tgt := 17) hx hb dX5_isRow_13 (by decide) ?_
      refine zm_zret hx hb hr hlk hM hS (by first | exact Or.inl rfl | exact Or.inr rfl | exact bI_01 _) ?_ ⟨Nat.le_refl _, Nat.le_refl _⟩ dX5_isRow_17
      refine ⟨?_, rfl⟩
      first | (rw [isRow_t (by assumption) (by assumption)]; rfl) | (rw [isRow_f1 (by assumption)]; rfl) | (rw [isRow_f2 (by assumption)]; rfl)
