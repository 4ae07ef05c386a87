theorem zbt_t {a b x : Int32} (h : ¬ x < a) (h2 : ¬ b < x) : zbt a b x = true := by unfold zbt; rw [decide_eq_true h, decide_eq_true h2]; rfl
theorem zbt_f1 {a b x : Int32} (h : x < a) : zbt a b x = false := by unfold zbt; rw [show decide (¬ x < a) = false from decide_eq_false (fun z => z h)]; rfl
theorem zbt_f2 {a b x : Int32} (h : b < x) : zbt a b x = false := by unfold zbt; rw [show decide (¬ b < x) = false from decide_eq_false (fun z => z h)]; exact Bool.and_false _
set_option maxRecDepth 100000 in
set_option maxHeartbeats 4000000 in
theorem c_X6_isIn (l : Launch) (G : zm_G) (A : Nat → Prop) (M : zm_M) (x a b : Int32) : Met l yX6_isIn (zm_W yX6_isIn cX6_isIn 3 (some .boolean)) (zm_rm 0 0 0) (zm_Pc G [.int x, .int a, .int b] A M) (zm_Q G (fun r M' => r = some (.int (bI (zbt a b x))) ∧ M' = M) A) 0 0 A := by
  refine zm_start (by decide) (Nat.le_of_ble_eq_true rfl) ?_
  intro p e s m below meth c hx hb hml hr hts hown hlk hnm hE hA ls hl hM hS
  have hl : lv_has ls 3 [(0, .int x), (1, .int a), (2, .int b)] := hl
  refine lv_iload_n hx hb dX6_isIn_0 rfl (lv_at hl 0 rfl) ?_
  refine lv_iload_n hx hb dX6_isIn_1 rfl (lv_at hl 1 rfl) ?_
  refine lv_icmp_lt (tgt := 14) hx hb dX6_isIn_2 (by decide) (fun c2 => ?_) (fun c2 => ?_)
  · refine lv_iconst (v := 0) hx hb dX6_isIn_14 (by decide) ?_
    refine zm_zret hx hb hr hlk hM hS (by first | exact Or.inl rfl | exact Or.inr rfl | exact bI_01 _) ?_ ⟨Nat.le_refl _, Nat.le_refl _⟩ dX6_isIn_15
    refine ⟨?_, rfl⟩
    first | (rw [zbt_t c2 c7]; rfl) | (rw [zbt_f1 c2]; rfl) | (rw [zbt_f2 c7]; rfl)
  · refine lv_iload_n hx hb dX6_isIn_5 rfl (lv_at hl 0 rfl) ?_
    refine lv_iload_n hx hb dX6_isIn_6 rfl (lv_at hl 2 rfl) ?_
    refine lv_icmp_gt (tgt := 14) hx hb dX6_isIn_7 (by decide) (fun c7 => ?_) (fun c7 => ?_)
    · refine lv_iconst (v := 0) hx hb dX6_isIn_14 (by decide) ?_
      refine zm_zret hx hb hr hlk hM hS (by first | exact Or.inl rfl | exact Or.inr rfl | exact bI_01 _) ?_ ⟨Nat.le_refl _, Nat.le_refl _⟩ dX6_isIn_15
      refine ⟨?_, rfl⟩
      first | (rw [zbt_t c2 c7]; rfl) | (rw [zbt_f1 c2]; rfl) | (rw [zbt_f2 c7]; rfl)
    · refine lv_iconst (v := 1) hx hb dX6_isIn_10 (by decide) ?_
      refine lv_goto (tgt := 15) hx hb dX6_isIn_11 (by decide) ?_
      refine zm_zret hx hb hr hlk hM hS (by first | exact Or.inl rfl | exact Or.inr rfl | exact bI_01 _) ?_ ⟨Nat.le_refl _, Nat.le_refl _⟩ dX6_isIn_15
      refine ⟨?_, rfl⟩
      first | (rw [zbt_t c2 c7]; rfl) | (rw [zbt_f1 c2]; rfl) | (rw [zbt_f2 c7]; rfl)
set_option maxRecDepth 100000 in
set_option maxHeartbeats 4000000 in
theorem c_X6_isView (l : Launch) (G : zm_G) (A : Nat → Prop) (M : zm_M) (x : Int32) : Met l yX6_isView (zm_W yX6_isView cX6_isView 1 (some .boolean)) (zm_rm 1 0 0) (zm_Pc G [.int x] A M) (zm_Q G (fun r M' => r = some (.int (bI ((ix 17 x).isSome))) ∧ M' = M) A) 0 0 A := by
  refine zm_start (by decide) (Nat.le_of_ble_eq_true rfl) ?_
  intro p e s m below meth c hx hb hml hr hts hown hlk hnm hE hA ls hl hM hS
  have hl : lv_has ls 1 [(0, .int x)] := hl
  refine lv_iload_n hx hb dX6_isView_0 rfl (lv_at hl 0 rfl) ?_
  refine lv_iconst (v := 0) hx hb dX6_isView_1 (by decide) ?_
  refine lv_bipush (v := 16) hx hb dX6_isView_2 (by decide) ?_
  refine zm_callS (As := [.int x, .int 0, .int 16]) (rest := []) hx hb hml hts hown hE hA hM hS (c_X6_isIn l G A _ x 0 16) cd_X6_isIn ml_X6_51 rfl rfl hl.1 (Nat.le_of_ble_eq_true rfl) ⟨Nat.le_of_ble_eq_true rfl, Nat.le_of_ble_eq_true rfl⟩ ⟨Nat.le_of_ble_eq_true rfl, Nat.le_of_ble_eq_true rfl⟩ dX6_isView_4 ?_
  rintro r M1 H locs ⟨rfl, e1⟩ hM hS
  rw [e1] at hM
  clear e1 M1
  refine W.eq (g2 := F0 m 7 ls [.int (bI (zbt 0 16 x))]) rfl ?_
  refine zm_zret hx hb hr hlk hM hS (by first | exact Or.inl rfl | exact Or.inr rfl | exact bI_01 _) ?_ ⟨Nat.le_refl _, Nat.le_refl _⟩ dX6_isView_7
  exact ⟨by rw [zbt_v], rfl⟩
set_option maxRecDepth 100000 in
set_option maxHeartbeats 4000000 in
theorem c_X6_isSlot (l : Launch) (G : zm_G) (A : Nat → Prop) (M : zm_M) (x : Int32) : Met l yX6_isSlot (zm_W yX6_isSlot cX6_isSlot 1 (some .boolean)) (zm_rm 1 0 0) (zm_Pc G [.int x] A M) (zm_Q G (fun r M' => r = some (.int (bI ((ix 10 x).isSome))) ∧ M' = M) A) 0 0 A := by
  refine zm_start (by decide) (Nat.le_of_ble_eq_true rfl) ?_
  intro p e s m below meth c hx hb hml hr hts hown hlk hnm hE hA ls hl hM hS
  have hl : lv_has ls 1 [(0, .int x)] := hl
  refine lv_iload_n hx hb dX6_isSlot_0 rfl (lv_at hl 0 rfl) ?_
  refine lv_iconst (v := 0) hx hb dX6_isSlot_1 (by decide) ?_
  refine lv_bipush (v := 9) hx hb dX6_isSlot_2 (by decide) ?_
  refine zm_callS (As := [.int x, .int 0, .int 9]) (rest := []) hx hb hml hts hown hE hA hM hS (c_X6_isIn l G A _ x 0 9) cd_X6_isIn ml_X6_51 rfl rfl hl.1 (Nat.le_of_ble_eq_true rfl) ⟨Nat.le_of_ble_eq_true rfl, Nat.le_of_ble_eq_true rfl⟩ ⟨Nat.le_of_ble_eq_true rfl, Nat.le_of_ble_eq_true rfl⟩ dX6_isSlot_4 ?_
  rintro r M1 H locs ⟨rfl, e1⟩ hM hS
  rw [e1] at hM
  clear e1 M1
  refine W.eq (g2 := F0 m 7 ls [.int (bI (zbt 0 9 x))]) rfl ?_
  refine zm_zret hx hb hr hlk hM hS (by first | exact Or.inl rfl | exact Or.inr rfl | exact bI_01 _) ?_ ⟨Nat.le_refl _, Nat.le_refl _⟩ dX6_isSlot_7
  exact ⟨by rw [zbt_s], rfl⟩
set_option maxRecDepth 100000 in
set_option maxHeartbeats 4000000 in
theorem c_X6_isSingle (l : Launch) (G : zm_G) (A : Nat → Prop) (M : zm_M) (x : Int32) : Met l yX6_isSingle (zm_W yX6_isSingle cX6_isSingle 1 (some .boolean)) (zm_rm 1 0 0) (zm_Pc G [.int x] A M) (zm_Q G (fun r M' => r = some (.int (bI (zbt 4 7 x))) ∧ M' = M) A) 0 0 A := by
  refine zm_start (by decide) (Nat.le_of_ble_eq_true rfl) ?_
  intro p e s m below meth c hx hb hml hr hts hown hlk hnm hE hA ls hl hM hS
  have hl : lv_has ls 1 [(0, .int x)] := hl
  refine lv_iload_n hx hb dX6_isSingle_0 rfl (lv_at hl 0 rfl) ?_
  refine lv_iconst (v := 4) hx hb dX6_isSingle_1 (by decide) ?_
  refine lv_bipush (v := 7) hx hb dX6_isSingle_2 (by decide) ?_
  refine zm_callS (As := [.int x, .int 4, .int 7]) (rest := []) hx hb hml hts hown hE hA hM hS (c_X6_isIn l G A _ x 4 7) cd_X6_isIn ml_X6_51 rfl rfl hl.1 (Nat.le_of_ble_eq_true rfl) ⟨Nat.le_of_ble_eq_true rfl, Nat.le_of_ble_eq_true rfl⟩ ⟨Nat.le_of_ble_eq_true rfl, Nat.le_of_ble_eq_true rfl⟩ dX6_isSingle_4 ?_
  rintro r M1 H locs ⟨rfl, e1⟩ hM hS
  rw [e1] at hM
  clear e1 M1
  refine W.eq (g2 := F0 m 7 ls [.int (bI (zbt 4 7 x))]) rfl ?_
  refine zm_zret hx hb hr hlk hM hS (by first | exact Or.inl rfl | exact Or.inr rfl | exact bI_01 _) ?_ ⟨Nat.le_refl _, Nat.le_refl _⟩ dX6_isSingle_7
  exact ⟨rfl, rfl⟩
set_option maxRecDepth 100000 in
set_option maxHeartbeats 4000000 in
theorem c_X6_isRow (l : Launch) (G : zm_G) (A : Nat → Prop) (M : zm_M) (x : Int32) : Met l yX6_isRow (zm_W yX6_isRow cX6_isRow 1 (some .boolean)) (zm_rm 1 0 0) (zm_Pc G [.int x] A M) (zm_Q G (fun r M' => r = some (.int (bI (zbt 8 15 x))) ∧ M' = M) A) 0 0 A := by
  refine zm_start (by decide) (Nat.le_of_ble_eq_true rfl) ?_
  intro p e s m below meth c hx hb hml hr hts hown hlk hnm hE hA ls hl hM hS
  have hl : lv_has ls 1 [(0, .int x)] := hl
  refine lv_iload_n hx hb dX6_isRow_0 rfl (lv_at hl 0 rfl) ?_
  refine lv_bipush (v := 8) hx hb dX6_isRow_1 (by decide) ?_
  refine lv_bipush (v := 15) hx hb dX6_isRow_3 (by decide) ?_
  refine zm_callS (As := [.int x, .int 8, .int 15]) (rest := []) hx hb hml hts hown hE hA hM hS (c_X6_isIn l G A _ x 8 15) cd_X6_isIn ml_X6_51 rfl rfl hl.1 (Nat.le_of_ble_eq_true rfl) ⟨Nat.le_of_ble_eq_true rfl, Nat.le_of_ble_eq_true rfl⟩ ⟨Nat.le_of_ble_eq_true rfl, Nat.le_of_ble_eq_true rfl⟩ dX6_isRow_5 ?_
  rintro r M1 H locs ⟨rfl, e1⟩ hM hS
  rw [e1] at hM
  clear e1 M1
  refine W.eq (g2 := F0 m 8 ls [.int (bI (zbt 8 15 x))]) rfl ?_
  refine zm_zret hx hb hr hlk hM hS (by first | exact Or.inl rfl | exact Or.inr rfl | exact bI_01 _) ?_ ⟨Nat.le_refl _, Nat.le_refl _⟩ dX6_isRow_8
  exact ⟨rfl, rfl⟩
set_option maxRecDepth 100000 in
set_option maxHeartbeats 4000000 in
theorem c_X6_isProp (l : Launch) (G : zm_G) (A : Nat → Prop) (q : Nat → Nat) (S : zS) (M : zm_M) (p0 : Int32) (hI : zInv S) (hR : RepR G q S M) : Met l yX6_isProp (zm_W yX6_isProp cX6_isProp 2 (some .boolean)) (zm_rm 1 0 0) (zm_Pc G [.ref (q 0), .int p0] A M) (zm_Q G (fun r M' => r = some (.int (bI (ix (s_np S) p0).isSome)) ∧ M' = M) A) 0 0 A := by
  refine zm_start (by decide) (Nat.le_of_ble_eq_true rfl) ?_
  intro p e s m below meth c hx hb hml hr hts hown hlk hnm hE hA ls hl hM hS
  have hl : lv_has ls 2 [(0, .ref (q 0)), (1, .int p0)] := hl
  obtain ⟨f, g, hZ, hAb⟩ := hR
  have hnp := hI.1
  have hncc := hI.2.1
  refine lv_iload_n hx hb dX6_isProp_0 rfl (lv_at hl 1 rfl) ?_
  refine lv_iconst (v := 0) hx hb dX6_isProp_1 (by decide) ?_
  refine lv_aload_n hx hb dX6_isProp_2 rfl (lv_at hl 0 rfl) ?_
  refine zm_get hx hb hts hown hE hM hZ.2.1 fl_X6_48_5 rfl dX6_isProp_3 ?_
  refine lv_iconst (v := 1) hx hb dX6_isProp_6 (by decide) ?_
  refine lv_isub hx hb dX6_isProp_7 ?_
  refine zm_callS (As := [.int p0, .int 0, .int ((nI (s_np S)) - 1)]) (rest := []) hx hb hml hts hown hE hA hM hS (c_X6_isIn l G A _ p0 0 ((nI (s_np S)) - 1)) cd_X6_isIn ml_X6_51 rfl rfl hl.1 (Nat.le_of_ble_eq_true rfl) ⟨Nat.le_of_ble_eq_true rfl, Nat.le_of_ble_eq_true rfl⟩ ⟨Nat.le_of_ble_eq_true rfl, Nat.le_of_ble_eq_true rfl⟩ dX6_isProp_8 ?_
  rintro r M1 H locs ⟨rfl, e1⟩ hM hS
  rw [e1] at hM
  clear e1 M1
  refine W.eq (g2 := F0 m 11 ls [.int (bI (zbt 0 ((nI (s_np S)) - 1) p0))]) rfl ?_
  refine zm_zret hx hb hr hlk hM hS (by first | exact Or.inl rfl | exact Or.inr rfl | exact bI_01 _) ?_ ⟨Nat.le_refl _, Nat.le_refl _⟩ dX6_isProp_11
  exact ⟨by rw [zbt_np (by omega)], rfl⟩
theorem nv {v c : Nat} {x : Int32} (hv : v < 17) (hc : x = nI c) (h17 : c < 17) : nI v = x ↔ v = c := by rw [hc]; exact nI_eq (by omega) (by omega)
set_option maxRecDepth 100000 in
set_option maxHeartbeats 4000000 in
theorem c_X6_goesAs (l : Launch) (G : zm_G) (A : Nat → Prop) (M : zm_M) (k v : Nat) (hk : k < 16) (hv : v < 17) : Met l yX6_goesAs (zm_W yX6_goesAs cX6_goesAs 2 (some .boolean)) (zm_rm 0 0 0) (zm_Pc G [.int (nI k), .int (nI v)] A M) (zm_Q G (fun r M' => r = some (.int (bI (gA k v))) ∧ M' = M) A) 0 0 A := by
  refine zm_start (by decide) (Nat.le_of_ble_eq_true rfl) ?_
  intro p e s m below meth c hx hb hml hr hts hown hlk hnm hE hA ls hl hM hS
  have hl : lv_has ls 2 [(0, .int (nI k)), (1, .int (nI v))] := hl
  refine lv_iload_n hx hb dX6_goesAs_0 rfl (lv_at hl 0 rfl) ?_
  refine lv_iload_n hx hb dX6_goesAs_1 rfl (lv_at hl 1 rfl) ?_
  refine lv_icmp_ne (tgt := 7) hx hb dX6_goesAs_2 (by decide) (fun c2 => ?_) (fun c2 => ?_)
  · have hne : ¬ k = v := fun e => c2 (by rw [e])
    refine lv_iload_n hx hb dX6_goesAs_7 rfl (lv_at hl 0 rfl) ?_
    rcases (show k = 0 ∨ k = 1 ∨ k = 2 ∨ k = 3 ∨ k = 4 ∨ k = 5 ∨ k = 6 ∨ k = 7 ∨ k = 8 ∨ k = 9 ∨ k = 10 ∨ k = 11 ∨ k = 12 ∨ k = 13 ∨ k = 14 ∨ k = 15 by omega) with rfl | rfl | rfl | rfl | rfl | rfl | rfl | rfl | rfl | rfl | rfl | rfl | rfl | rfl | rfl | rfl
    · refine lv_tableOut (tgt := 164) hx hb dX6_goesAs_8 (by decide) (by decide) ?_
      refine lv_iconst (v := 0) hx hb dX6_goesAs_164 (by decide) ?_
      refine zm_zret hx hb hr hlk hM hS (by first | exact Or.inl rfl | exact Or.inr rfl | exact bI_01 _) ?_ ⟨Nat.le_refl _, Nat.le_refl _⟩ dX6_goesAs_165
      refine ⟨?_, rfl⟩
      simp only [gA, bI]
      first | (simp [hne]; done) | (simp [hne, *]; done) | (simp_all; done)
    · refine lv_tableOut (tgt := 164) hx hb dX6_goesAs_8 (by decide) (by decide) ?_
      refine lv_iconst (v := 0) hx hb dX6_goesAs_164 (by decide) ?_
      refine zm_zret hx hb hr hlk hM hS (by first | exact Or.inl rfl | exact Or.inr rfl | exact bI_01 _) ?_ ⟨Nat.le_refl _, Nat.le_refl _⟩ dX6_goesAs_165
      refine ⟨?_, rfl⟩
      simp only [gA, bI]
      first | (simp [hne]; done) | (simp [hne, *]; done) | (simp_all; done)
    · refine lv_tableOut (tgt := 164) hx hb dX6_goesAs_8 (by decide) (by decide) ?_
      refine lv_iconst (v := 0) hx hb dX6_goesAs_164 (by decide) ?_
      refine zm_zret hx hb hr hlk hM hS (by first | exact Or.inl rfl | exact Or.inr rfl | exact bI_01 _) ?_ ⟨Nat.le_refl _, Nat.le_refl _⟩ dX6_goesAs_165
      refine ⟨?_, rfl⟩
      simp only [gA, bI]
      first | (simp [hne]; done) | (simp [hne, *]; done) | (simp_all; done)
    · refine lv_tableOut (tgt := 164) hx hb dX6_goesAs_8 (by decide) (by decide) ?_
      refine lv_iconst (v := 0) hx hb dX6_goesAs_164 (by decide) ?_
      refine zm_zret hx hb hr hlk hM hS (by first | exact Or.inl rfl | exact Or.inr rfl | exact bI_01 _) ?_ ⟨Nat.le_refl _, Nat.le_refl _⟩ dX6_goesAs_165
      refine ⟨?_, rfl⟩
      simp only [gA, bI]
      first | (simp [hne]; done) | (simp [hne, *]; done) | (simp_all; done)
    · refine lv_tableOut (tgt := 164) hx hb dX6_goesAs_8 (by decide) (by decide) ?_
      refine lv_iconst (v := 0) hx hb dX6_goesAs_164 (by decide) ?_
      refine zm_zret hx hb hr hlk hM hS (by first | exact Or.inl rfl | exact Or.inr rfl | exact bI_01 _) ?_ ⟨Nat.le_refl _, Nat.le_refl _⟩ dX6_goesAs_165
      refine ⟨?_, rfl⟩
      simp only [gA, bI]
      first | (simp [hne]; done) | (simp [hne, *]; done) | (simp_all; done)
    · refine lv_tableIn (off := 56) (tgt := 64) hx hb dX6_goesAs_8 (by decide) (by decide) rfl (by decide) ?_
      refine lv_iload_n hx hb dX6_goesAs_64 rfl (lv_at hl 1 rfl) ?_
      refine lv_iconst (v := 4) hx hb dX6_goesAs_65 (by decide) ?_
      refine lv_icmp_ne (tgt := 73) hx hb dX6_goesAs_66 (by decide) (fun c66 => ?_) (fun c66 => ?_)
      · rw [nv (x := 4) (c := 4) hv rfl (by decide)] at c66
        refine lv_iconst (v := 0) hx hb dX6_goesAs_73 (by decide) ?_
        refine zm_zret hx hb hr hlk hM hS (by first | exact Or.inl rfl | exact Or.inr rfl | exact bI_01 _) ?_ ⟨Nat.le_refl _, Nat.le_refl _⟩ dX6_goesAs_74
        refine ⟨?_, rfl⟩
        simp only [gA, bI]
        first | (simp [hne]; done) | (simp [hne, *]; done) | (simp_all; done)
      · rw [nv (x := 4) (c := 4) hv rfl (by decide)] at c66
        refine lv_iconst (v := 1) hx hb dX6_goesAs_69 (by decide) ?_
        refine lv_goto (tgt := 74) hx hb dX6_goesAs_70 (by decide) ?_
        refine zm_zret hx hb hr hlk hM hS (by first | exact Or.inl rfl | exact Or.inr rfl | exact bI_01 _) ?_ ⟨Nat.le_refl _, Nat.le_refl _⟩ dX6_goesAs_74
        refine ⟨?_, rfl⟩
        simp only [gA, bI]
        first | (simp [hne]; done) | (simp [hne, *]; done) | (simp_all; done)
    · refine lv_tableIn (off := 67) (tgt := 75) hx hb dX6_goesAs_8 (by decide) (by decide) rfl (by decide) ?_
      refine lv_iload_n hx hb dX6_goesAs_75 rfl (lv_at hl 1 rfl) ?_
      refine lv_iconst (v := 4) hx hb dX6_goesAs_76 (by decide) ?_
      refine lv_icmp_eq (tgt := 86) hx hb dX6_goesAs_77 (by decide) (fun c77 => ?_) (fun c77 => ?_)
      · rw [nv (x := 4) (c := 4) hv rfl (by decide)] at c77
        refine lv_iconst (v := 1) hx hb dX6_goesAs_86 (by decide) ?_
        refine lv_goto (tgt := 91) hx hb dX6_goesAs_87 (by decide) ?_
        refine zm_zret hx hb hr hlk hM hS (by first | exact Or.inl rfl | exact Or.inr rfl | exact bI_01 _) ?_ ⟨Nat.le_refl _, Nat.le_refl _⟩ dX6_goesAs_91
        refine ⟨?_, rfl⟩
        simp only [gA, bI]
        first | (simp [hne]; done) | (simp [hne, *]; done) | (simp_all; done)
      · rw [nv (x := 4) (c := 4) hv rfl (by decide)] at c77
        refine lv_iload_n hx hb dX6_goesAs_80 rfl (lv_at hl 1 rfl) ?_
        refine lv_bipush (v := 16) hx hb dX6_goesAs_81 (by decide) ?_
        refine lv_icmp_ne (tgt := 90) hx hb dX6_goesAs_83 (by decide) (fun c83 => ?_) (fun c83 => ?_)
        · rw [nv (x := 16) (c := 16) hv rfl (by decide)] at c83
          refine lv_iconst (v := 0) hx hb dX6_goesAs_90 (by decide) ?_
          refine zm_zret hx hb hr hlk hM hS (by first | exact Or.inl rfl | exact Or.inr rfl | exact bI_01 _) ?_ ⟨Nat.le_refl _, Nat.le_refl _⟩ dX6_goesAs_91
          refine ⟨?_, rfl⟩
          simp only [gA, bI]
          first | (simp [hne]; done) | (simp [hne, *]; done) | (simp_all; done)
        · rw [nv (x := 16) (c := 16) hv rfl (by decide)] at c83
          refine lv_iconst (v := 1) hx hb dX6_goesAs_86 (by decide) ?_
          refine lv_goto (tgt := 91) hx hb dX6_goesAs_87 (by decide) ?_
          refine zm_zret hx hb hr hlk hM hS (by first | exact Or.inl rfl | exact Or.inr rfl | exact bI_01 _) ?_ ⟨Nat.le_refl _, Nat.le_refl _⟩ dX6_goesAs_91
          refine ⟨?_, rfl⟩
          simp only [gA, bI]
          first | (simp [hne]; done) | (simp [hne, *]; done) | (simp_all; done)
    · refine lv_tableIn (off := 84) (tgt := 92) hx hb dX6_goesAs_8 (by decide) (by decide) rfl (by decide) ?_
      refine lv_iload_n hx hb dX6_goesAs_92 rfl (lv_at hl 1 rfl) ?_
      refine lv_bipush (v := 16) hx hb dX6_goesAs_93 (by decide) ?_
      refine lv_icmp_ne (tgt := 102) hx hb dX6_goesAs_95 (by decide) (fun c95 => ?_) (fun c95 => ?_)
      · rw [nv (x := 16) (c := 16) hv rfl (by decide)] at c95
        refine lv_iconst (v := 0) hx hb dX6_goesAs_102 (by decide) ?_
        refine zm_zret hx hb hr hlk hM hS (by first | exact Or.inl rfl | exact Or.inr rfl | exact bI_01 _) ?_ ⟨Nat.le_refl _, Nat.le_refl _⟩ dX6_goesAs_103
        refine ⟨?_, rfl⟩
        simp only [gA, bI]
        first | (simp [hne]; done) | (simp [hne, *]; done) | (simp_all; done)
      · rw [nv (x := 16) (c := 16) hv rfl (by decide)] at c95
        refine lv_iconst (v := 1) hx hb dX6_goesAs_98 (by decide) ?_
        refine lv_goto (tgt := 103) hx hb dX6_goesAs_99 (by decide) ?_
        refine zm_zret hx hb hr hlk hM hS (by first | exact Or.inl rfl | exact Or.inr rfl | exact bI_01 _) ?_ ⟨Nat.le_refl _, Nat.le_refl _⟩ dX6_goesAs_103
        refine ⟨?_, rfl⟩
        simp only [gA, bI]
        first | (simp [hne]; done) | (simp [hne, *]; done) | (simp_all; done)
    · refine lv_tableIn (off := 156) (tgt := 164) hx hb dX6_goesAs_8 (by decide) (by decide) rfl (by decide) ?_
      refine lv_iconst (v := 0) hx hb dX6_goesAs_164 (by decide) ?_
      refine zm_zret hx hb hr hlk hM hS (by first | exact Or.inl rfl | exact Or.inr rfl | exact bI_01 _) ?_ ⟨Nat.le_refl _, Nat.le_refl _⟩ dX6_goesAs_165
      refine ⟨?_, rfl⟩
      simp only [gA, bI]
      first | (simp [hne]; done) | (simp [hne, *]; done) | (simp_all; done)
    · refine lv_tableIn (off := 96) (tgt := 104) hx hb dX6_goesAs_8 (by decide) (by decide) rfl (by decide) ?_
      refine lv_iload_n hx hb dX6_goesAs_104 rfl (lv_at hl 1 rfl) ?_
      refine lv_bipush (v := 8) hx hb dX6_goesAs_105 (by decide) ?_
      refine lv_icmp_ne (tgt := 114) hx hb dX6_goesAs_107 (by decide) (fun c107 => ?_) (fun c107 => ?_)
      · rw [nv (x := 8) (c := 8) hv rfl (by decide)] at c107
        refine lv_iconst (v := 0) hx hb dX6_goesAs_114 (by decide) ?_
        refine zm_zret hx hb hr hlk hM hS (by first | exact Or.inl rfl | exact Or.inr rfl | exact bI_01 _) ?_ ⟨Nat.le_refl _, Nat.le_refl _⟩ dX6_goesAs_115
        refine ⟨?_, rfl⟩
        simp only [gA, bI]
        first | (simp [hne]; done) | (simp [hne, *]; done) | (simp_all; done)
      · rw [nv (x := 8) (c := 8) hv rfl (by decide)] at c107
        refine lv_iconst (v := 1) hx hb dX6_goesAs_110 (by decide) ?_
        refine lv_goto (tgt := 115) hx hb dX6_goesAs_111 (by decide) ?_
        refine zm_zret hx hb hr hlk hM hS (by first | exact Or.inl rfl | exact Or.inr rfl | exact bI_01 _) ?_ ⟨Nat.le_refl _, Nat.le_refl _⟩ dX6_goesAs_115
        refine ⟨?_, rfl⟩
        simp only [gA, bI]
        first | (simp [hne]; done) | (simp [hne, *]; done) | (simp_all; done)
    · refine lv_tableIn (off := 108) (tgt := 116) hx hb dX6_goesAs_8 (by decide) (by decide) rfl (by decide) ?_
      refine lv_iload_n hx hb dX6_goesAs_116 rfl (lv_at hl 1 rfl) ?_
      refine lv_bipush (v := 8) hx hb dX6_goesAs_117 (by decide) ?_
      refine lv_icmp_eq (tgt := 128) hx hb dX6_goesAs_119 (by decide) (fun c119 => ?_) (fun c119 => ?_)
      · rw [nv (x := 8) (c := 8) hv rfl (by decide)] at c119
        refine lv_iconst (v := 1) hx hb dX6_goesAs_128 (by decide) ?_
        refine lv_goto (tgt := 133) hx hb dX6_goesAs_129 (by decide) ?_
        refine zm_zret hx hb hr hlk hM hS (by first | exact Or.inl rfl | exact Or.inr rfl | exact bI_01 _) ?_ ⟨Nat.le_refl _, Nat.le_refl _⟩ dX6_goesAs_133
        refine ⟨?_, rfl⟩
        simp only [gA, bI]
        first | (simp [hne]; done) | (simp [hne, *]; done) | (simp_all; done)
      · rw [nv (x := 8) (c := 8) hv rfl (by decide)] at c119
        refine lv_iload_n hx hb dX6_goesAs_122 rfl (lv_at hl 1 rfl) ?_
        refine lv_bipush (v := 11) hx hb dX6_goesAs_123 (by decide) ?_
        refine lv_icmp_ne (tgt := 132) hx hb dX6_goesAs_125 (by decide) (fun c125 => ?_) (fun c125 => ?_)
        · rw [nv (x := 11) (c := 11) hv rfl (by decide)] at c125
          refine lv_iconst (v := 0) hx hb dX6_goesAs_132 (by decide) ?_
          refine zm_zret hx hb hr hlk hM hS (by first | exact Or.inl rfl | exact Or.inr rfl | exact bI_01 _) ?_ ⟨Nat.le_refl _, Nat.le_refl _⟩ dX6_goesAs_133
          refine ⟨?_, rfl⟩
          simp only [gA, bI]
          first | (simp [hne]; done) | (simp [hne, *]; done) | (simp_all; done)
        · rw [nv (x := 11) (c := 11) hv rfl (by decide)] at c125
          refine lv_iconst (v := 1) hx hb dX6_goesAs_128 (by decide) ?_
          refine lv_goto (tgt := 133) hx hb dX6_goesAs_129 (by decide) ?_
          refine zm_zret hx hb hr hlk hM hS (by first | exact Or.inl rfl | exact Or.inr rfl | exact bI_01 _) ?_ ⟨Nat.le_refl _, Nat.le_refl _⟩ dX6_goesAs_133
          refine ⟨?_, rfl⟩
          simp only [gA, bI]
          first | (simp [hne]; done) | (simp [hne, *]; done) | (simp_all; done)
    · refine lv_tableIn (off := 156) (tgt := 164) hx hb dX6_goesAs_8 (by decide) (by decide) rfl (by decide) ?_
      refine lv_iconst (v := 0) hx hb dX6_goesAs_164 (by decide) ?_
      refine zm_zret hx hb hr hlk hM hS (by first | exact Or.inl rfl | exact Or.inr rfl | exact bI_01 _) ?_ ⟨Nat.le_refl _, Nat.le_refl _⟩ dX6_goesAs_165
      refine ⟨?_, rfl⟩
      simp only [gA, bI]
      first | (simp [hne]; done) | (simp [hne, *]; done) | (simp_all; done)
    · refine lv_tableIn (off := 126) (tgt := 134) hx hb dX6_goesAs_8 (by decide) (by decide) rfl (by decide) ?_
      refine lv_iload_n hx hb dX6_goesAs_134 rfl (lv_at hl 1 rfl) ?_
      refine lv_bipush (v := 11) hx hb dX6_goesAs_135 (by decide) ?_
      refine lv_icmp_ne (tgt := 144) hx hb dX6_goesAs_137 (by decide) (fun c137 => ?_) (fun c137 => ?_)
      · rw [nv (x := 11) (c := 11) hv rfl (by decide)] at c137
        refine lv_iconst (v := 0) hx hb dX6_goesAs_144 (by decide) ?_
        refine zm_zret hx hb hr hlk hM hS (by first | exact Or.inl rfl | exact Or.inr rfl | exact bI_01 _) ?_ ⟨Nat.le_refl _, Nat.le_refl _⟩ dX6_goesAs_145
        refine ⟨?_, rfl⟩
        simp only [gA, bI]
        first | (simp [hne]; done) | (simp [hne, *]; done) | (simp_all; done)
      · rw [nv (x := 11) (c := 11) hv rfl (by decide)] at c137
        refine lv_iconst (v := 1) hx hb dX6_goesAs_140 (by decide) ?_
        refine lv_goto (tgt := 145) hx hb dX6_goesAs_141 (by decide) ?_
        refine zm_zret hx hb hr hlk hM hS (by first | exact Or.inl rfl | exact Or.inr rfl | exact bI_01 _) ?_ ⟨Nat.le_refl _, Nat.le_refl _⟩ dX6_goesAs_145
        refine ⟨?_, rfl⟩
        simp only [gA, bI]
        first | (simp [hne]; done) | (simp [hne, *]; done) | (simp_all; done)
    · refine lv_tableIn (off := 156) (tgt := 164) hx hb dX6_goesAs_8 (by decide) (by decide) rfl (by decide) ?_
      refine lv_iconst (v := 0) hx hb dX6_goesAs_164 (by decide) ?_
      refine zm_zret hx hb hr hlk hM hS (by first | exact Or.inl rfl | exact Or.inr rfl | exact bI_01 _) ?_ ⟨Nat.le_refl _, Nat.le_refl _⟩ dX6_goesAs_165
      refine ⟨?_, rfl⟩
      simp only [gA, bI]
      first | (simp [hne]; done) | (simp [hne, *]; done) | (simp_all; done)
    · refine lv_tableIn (off := 138) (tgt := 146) hx hb dX6_goesAs_8 (by decide) (by decide) rfl (by decide) ?_
      refine lv_iload_n hx hb dX6_goesAs_146 rfl (lv_at hl 1 rfl) ?_
      refine lv_bipush (v := 13) hx hb dX6_goesAs_147 (by decide) ?_
      refine lv_icmp_eq (tgt := 158) hx hb dX6_goesAs_149 (by decide) (fun c149 => ?_) (fun c149 => ?_)
      · rw [nv (x := 13) (c := 13) hv rfl (by decide)] at c149
        refine lv_iconst (v := 1) hx hb dX6_goesAs_158 (by decide) ?_
        refine lv_goto (tgt := 163) hx hb dX6_goesAs_159 (by decide) ?_
        refine zm_zret hx hb hr hlk hM hS (by first | exact Or.inl rfl | exact Or.inr rfl | exact bI_01 _) ?_ ⟨Nat.le_refl _, Nat.le_refl _⟩ dX6_goesAs_163
        refine ⟨?_, rfl⟩
        simp only [gA, bI]
        first | (simp [hne]; done) | (simp [hne, *]; done) | (simp_all; done)
      · rw [nv (x := 13) (c := 13) hv rfl (by decide)] at c149
        refine lv_iload_n hx hb dX6_goesAs_152 rfl (lv_at hl 1 rfl) ?_
        refine lv_bipush (v := 15) hx hb dX6_goesAs_153 (by decide) ?_
        refine lv_icmp_ne (tgt := 162) hx hb dX6_goesAs_155 (by decide) (fun c155 => ?_) (fun c155 => ?_)
        · rw [nv (x := 15) (c := 15) hv rfl (by decide)] at c155
          refine lv_iconst (v := 0) hx hb dX6_goesAs_162 (by decide) ?_
          refine zm_zret hx hb hr hlk hM hS (by first | exact Or.inl rfl | exact Or.inr rfl | exact bI_01 _) ?_ ⟨Nat.le_refl _, Nat.le_refl _⟩ dX6_goesAs_163
          refine ⟨?_, rfl⟩
          simp only [gA, bI]
          first | (simp [hne]; done) | (simp [hne, *]; done) | (simp_all; done)
        · rw [nv (x := 15) (c := 15) hv rfl (by decide)] at c155
          refine lv_iconst (v := 1) hx hb dX6_goesAs_158 (by decide) ?_
          refine lv_goto (tgt := 163) hx hb dX6_goesAs_159 (by decide) ?_
          refine zm_zret hx hb hr hlk hM hS (by first | exact Or.inl rfl | exact Or.inr rfl | exact bI_01 _) ?_ ⟨Nat.le_refl _, Nat.le_refl _⟩ dX6_goesAs_163
          refine ⟨?_, rfl⟩
          simp only [gA, bI]
          first | (simp [hne]; done) | (simp [hne, *]; done) | (simp_all; done)
    · refine lv_tableOut (tgt := 164) hx hb dX6_goesAs_8 (by decide) (by decide) ?_
      refine lv_iconst (v := 0) hx hb dX6_goesAs_164 (by decide) ?_
      refine zm_zret hx hb hr hlk hM hS (by first | exact Or.inl rfl | exact Or.inr rfl | exact bI_01 _) ?_ ⟨Nat.le_refl _, Nat.le_refl _⟩ dX6_goesAs_165
      refine ⟨?_, rfl⟩
      simp only [gA, bI]
      first | (simp [hne]; done) | (simp [hne, *]; done) | (simp_all; done)
  · refine lv_iconst (v := 1) hx hb dX6_goesAs_5 (by decide) ?_
    refine zm_zret hx hb hr hlk hM hS (by first | exact Or.inl rfl | exact Or.inr rfl | exact bI_01 _) ?_ ⟨Nat.le_refl _, Nat.le_refl _⟩ dX6_goesAs_6
    refine ⟨?_, rfl⟩
    have e : k = v := (nI_eq (by omega) (by omega)).mp c2
    subst e
    simp [gA, bI]
set_option maxRecDepth 100000 in
set_option maxHeartbeats 4000000 in
theorem c_X6_goes (l : Launch) (G : zm_G) (A : Nat → Prop) (q : Nat → Nat) (S : zS) (M : zm_M) (o : Option Nat) (v : Nat) (hv : v < 17) (ho : ∀ j, o = some j → j < s_np S) (hI : zInv S) (hR : RepR G q S M) : Met l yX6_goes (zm_W yX6_goes cX6_goes 3 (some .boolean)) (zm_rm 1 0 0) (zm_Pc G [.ref (q 0), .int (oI o), .int (nI v)] A M) (zm_Q G (fun r M' => r = some (.int (bI (goS S o v))) ∧ M' = M) A) 0 0 A := by
  refine zm_start (by decide) (Nat.le_of_ble_eq_true rfl) ?_
  intro p e s m below meth c hx hb hml hr hts hown hlk hnm hE hA ls hl hM hS
  have hl : lv_has ls 3 [(0, .ref (q 0)), (1, .int (oI o)), (2, .int (nI v))] := hl
  obtain ⟨f, g, hZ, hAb⟩ := hR
  have hnp := hI.1
  have hncc := hI.2.1
  refine lv_iload_n hx hb dX6_goes_0 rfl (lv_at hl 1 rfl) ?_
  refine lv_iconst (v := (-1)) hx hb dX6_goes_1 (by decide) ?_
  refine lv_icmp_eq (tgt := 18) hx hb dX6_goes_2 (by decide) (fun c2 => ?_) (fun c2 => ?_)
  · refine lv_iconst (v := 1) hx hb dX6_goes_18 (by decide) ?_
    refine lv_goto (tgt := 23) hx hb dX6_goes_19 (by decide) ?_
    refine zm_zret hx hb hr hlk hM hS (by first | exact Or.inl rfl | exact Or.inr rfl | exact bI_01 _) ?_ ⟨Nat.le_refl _, Nat.le_refl _⟩ dX6_goes_23
    refine ⟨?_, rfl⟩
    first | (rw [show goS S o v = true by rw [(oI_m1 (fun j hj => by have := ho j hj; omega)).mp c2]; rfl]; rfl) | (rw [show goS S (some j) v = true from bI_n.mp c15]; rfl) | (rw [show goS S (some j) v = false from bI_0.mp c15]; rfl)
  · obtain ⟨j, rfl⟩ : ∃ j, o = some j := by
      cases o with
      | none => exact absurd rfl c2
      | some j => exact ⟨j, rfl⟩
    have hj := ho j rfl
    have hl : lv_has ls 3 [(0, .ref (q 0)), (1, .int (nI j)), (2, .int (nI v))] := hl
    refine lv_aload_n hx hb dX6_goes_5 rfl (lv_at hl 0 rfl) ?_
    refine zm_get hx hb hts hown hE hM hZ.2.1 fl_X6_7_5 rfl dX6_goes_6 ?_
    refine lv_iload_n hx hb dX6_goes_9 rfl (lv_at hl 1 rfl) ?_
    refine zm_iald hx hb hE hM (hZ.ar 1) (vp_in_nI (show j < 50 by omega) (by decide)) dX6_goes_10 ?_
    refine zt_eq (v' := .int (nI (s_kd S j))) (by rw [nI_clamp (by omega)]; exact congrArg Value.int ((hAb.1 j hj).1)) ?_
    refine lv_iload_n hx hb dX6_goes_11 rfl (lv_at hl 2 rfl) ?_
    refine zm_callS (As := [.int (nI (s_kd S j)), .int (nI v)]) (rest := []) hx hb hml hts hown hE hA hM hS (c_X6_goesAs l G A _ (s_kd S j) v ((hI.2.2.1 j hj).1) (hv)) cd_X6_goesAs ml_X6_55 rfl rfl hl.1 (Nat.le_of_ble_eq_true rfl) ⟨Nat.le_of_ble_eq_true rfl, Nat.le_of_ble_eq_true rfl⟩ ⟨Nat.le_of_ble_eq_true rfl, Nat.le_of_ble_eq_true rfl⟩ dX6_goes_12 ?_
    rintro r M1 H locs ⟨rfl, e1⟩ hM hS
    rw [e1] at hM
    clear e1 M1
    refine W.eq (g2 := F0 m 15 ls [.int (bI (gA (s_kd S j) v))]) rfl ?_
    refine lv_if_eq (tgt := 22) hx hb dX6_goes_15 (by decide) (fun c15 => ?_) (fun c15 => ?_)
    · refine lv_iconst (v := 0) hx hb dX6_goes_22 (by decide) ?_
      refine zm_zret hx hb hr hlk hM hS (by first | exact Or.inl rfl | exact Or.inr rfl | exact bI_01 _) ?_ ⟨Nat.le_refl _, Nat.le_refl _⟩ dX6_goes_23
      refine ⟨?_, rfl⟩
      first | (rw [show goS S o v = true by rw [(oI_m1 (fun j hj => by have := ho j hj; omega)).mp c2]; rfl]; rfl) | (rw [show goS S (some j) v = true from bI_n.mp c15]; rfl) | (rw [show goS S (some j) v = false from bI_0.mp c15]; rfl)
    · refine lv_iconst (v := 1) hx hb dX6_goes_18 (by decide) ?_
      refine lv_goto (tgt := 23) hx hb dX6_goes_19 (by decide) ?_
      refine zm_zret hx hb hr hlk hM hS (by first | exact Or.inl rfl | exact Or.inr rfl | exact bI_01 _) ?_ ⟨Nat.le_refl _, Nat.le_refl _⟩ dX6_goes_23
      refine ⟨?_, rfl⟩
      first | (rw [show goS S o v = true by rw [(oI_m1 (fun j hj => by have := ho j hj; omega)).mp c2]; rfl]; rfl) | (rw [show goS S (some j) v = true from bI_n.mp c15]; rfl) | (rw [show goS S (some j) v = false from bI_0.mp c15]; rfl)
set_option maxRecDepth 100000 in
set_option maxHeartbeats 4000000 in
theorem c_X6_inner (l : Launch) (G : zm_G) (A : Nat → Prop) (M : zm_M) (k : Nat) (hk : 8 ≤ k) (hk2 : k ≤ 15) : Met l yX6_inner (zm_W yX6_inner cX6_inner 1 (some .int)) (zm_rm 0 0 0) (zm_Pc G [.int (nI k)] A M) (zm_Q G (fun r M' => r = some (.int (nI (inn k))) ∧ M' = M) A) 0 0 A := by
  refine zm_start (by decide) (Nat.le_of_ble_eq_true rfl) ?_
  intro p e s m below meth c hx hb hml hr hts hown hlk hnm hE hA ls hl hM hS
  have hl : lv_has ls 1 [(0, .int (nI k))] := hl
  refine lv_iload_n hx hb dX6_inner_0 rfl (lv_at hl 0 rfl) ?_
  rcases (show k = 8 ∨ k = 9 ∨ k = 10 ∨ k = 11 ∨ k = 12 ∨ k = 13 ∨ k = 14 ∨ k = 15 by omega) with rfl | rfl | rfl | rfl | rfl | rfl | rfl | rfl
  · refine lv_tableIn (off := 43) (tgt := 44) hx hb dX6_inner_1 (by decide) (by decide) rfl (by decide) ?_
    refine lv_iconst (v := 4) hx hb dX6_inner_44 (by decide) ?_
    refine zm_iret hx hb hr hlk hM hS ?_ ⟨Nat.le_refl _, Nat.le_refl _⟩ dX6_inner_45
    exact ⟨rfl, rfl⟩
  · refine lv_tableIn (off := 45) (tgt := 46) hx hb dX6_inner_1 (by decide) (by decide) rfl (by decide) ?_
    refine lv_iconst (v := 5) hx hb dX6_inner_46 (by decide) ?_
    refine zm_iret hx hb hr hlk hM hS ?_ ⟨Nat.le_refl _, Nat.le_refl _⟩ dX6_inner_47
    exact ⟨rfl, rfl⟩
  · refine lv_tableIn (off := 47) (tgt := 48) hx hb dX6_inner_1 (by decide) (by decide) rfl (by decide) ?_
    refine lv_bipush (v := 6) hx hb dX6_inner_48 (by decide) ?_
    refine zm_iret hx hb hr hlk hM hS ?_ ⟨Nat.le_refl _, Nat.le_refl _⟩ dX6_inner_50
    exact ⟨rfl, rfl⟩
  · refine lv_tableIn (off := 50) (tgt := 51) hx hb dX6_inner_1 (by decide) (by decide) rfl (by decide) ?_
    refine lv_bipush (v := 16) hx hb dX6_inner_51 (by decide) ?_
    refine zm_iret hx hb hr hlk hM hS ?_ ⟨Nat.le_refl _, Nat.le_refl _⟩ dX6_inner_53
    exact ⟨rfl, rfl⟩
  · refine lv_tableIn (off := 53) (tgt := 54) hx hb dX6_inner_1 (by decide) (by decide) rfl (by decide) ?_
    refine lv_bipush (v := 7) hx hb dX6_inner_54 (by decide) ?_
    refine zm_iret hx hb hr hlk hM hS ?_ ⟨Nat.le_refl _, Nat.le_refl _⟩ dX6_inner_56
    exact ⟨rfl, rfl⟩
  · refine lv_tableIn (off := 56) (tgt := 57) hx hb dX6_inner_1 (by decide) (by decide) rfl (by decide) ?_
    refine lv_bipush (v := 8) hx hb dX6_inner_57 (by decide) ?_
    refine zm_iret hx hb hr hlk hM hS ?_ ⟨Nat.le_refl _, Nat.le_refl _⟩ dX6_inner_59
    exact ⟨rfl, rfl⟩
  · refine lv_tableIn (off := 59) (tgt := 60) hx hb dX6_inner_1 (by decide) (by decide) rfl (by decide) ?_
    refine lv_bipush (v := 10) hx hb dX6_inner_60 (by decide) ?_
    refine zm_iret hx hb hr hlk hM hS ?_ ⟨Nat.le_refl _, Nat.le_refl _⟩ dX6_inner_62
    exact ⟨rfl, rfl⟩
  · refine lv_tableOut (tgt := 63) hx hb dX6_inner_1 (by decide) (by decide) ?_
    refine lv_bipush (v := 11) hx hb dX6_inner_63 (by decide) ?_
    refine zm_iret hx hb hr hlk hM hS ?_ ⟨Nat.le_refl _, Nat.le_refl _⟩ dX6_inner_65
    exact ⟨rfl, rfl⟩
set_option maxRecDepth 100000 in
set_option maxHeartbeats 4000000 in
theorem c_X6_many (l : Launch) (G : zm_G) (A : Nat → Prop) (q : Nat → Nat) (S : zS) (M : zm_M) (j : Nat) (hj : j < s_np S) (hI : zInv S) (hR : RepR G q S M) : Met l yX6_many (zm_W yX6_many cX6_many 2 (some .int)) (zm_rm 0 0 0) (zm_Pc G [.ref (q 0), .int (nI j)] A M) (zm_Q G (fun r M' => r = some (.int (nI (many S j))) ∧ M' = M) A) 0 0 A := by
  refine zm_start (by decide) (Nat.le_of_ble_eq_true rfl) ?_
  intro p e s m below meth c hx hb hml hr hts hown hlk hnm hE hA ls hl hM hS
  have hl : lv_has ls 2 [(0, .ref (q 0)), (1, .int (nI j))] := hl
  obtain ⟨f, g, hZ, hAb⟩ := hR
  have hnp := hI.1
  have hncc := hI.2.1
  refine lv_aload_n hx hb dX6_many_0 rfl (lv_at hl 0 rfl) ?_
  refine zm_get hx hb hts hown hE hM hZ.2.1 fl_X6_7_5 rfl dX6_many_1 ?_
  refine lv_iload_n hx hb dX6_many_4 rfl (lv_at hl 1 rfl) ?_
  refine zm_iald hx hb hE hM (hZ.ar 1) (vp_in_nI (show j < 50 by omega) (by decide)) dX6_many_5 ?_
  refine zt_eq (v' := .int (nI (s_kd S j))) (by rw [nI_clamp (by omega)]; exact congrArg Value.int ((hAb.1 j hj).1)) ?_
  refine lv_iconst (v := 3) hx hb dX6_many_6 (by decide) ?_
  refine lv_icmp_ne (tgt := 21) hx hb dX6_many_7 (by decide) (fun c7 => ?_) (fun c7 => ?_)
  · refine lv_aload_n hx hb dX6_many_21 rfl (lv_at hl 0 rfl) ?_
    refine zm_get hx hb hts hown hE hM hZ.2.1 fl_X6_13_5 rfl dX6_many_22 ?_
    refine lv_iload_n hx hb dX6_many_25 rfl (lv_at hl 1 rfl) ?_
    refine zm_iald hx hb hE hM (hZ.ar 2) (vp_in_nI (show j < 50 by omega) (by decide)) dX6_many_26 ?_
    refine zt_eq (v' := .int (nI (s_sz S j))) (by rw [nI_clamp (by omega)]; exact congrArg Value.int ((hAb.1 j hj).2.1)) ?_
    refine zm_iret hx hb hr hlk hM hS ?_ ⟨Nat.le_refl _, Nat.le_refl _⟩ dX6_many_27
    refine ⟨?_, rfl⟩
    have h16 := (hI.2.2.1 j hj).1
    unfold many
    first | (have h3 : s_kd S j = 3 := (nI_eq (b := 3) (by omega) (by omega)).mp c7; rw [if_pos h3, show (3 : Int32) = nI 3 from rfl, pk_mul]; done) | (have h3 : ¬ s_kd S j = 3 := fun e => c7 (by rw [e]; rfl); rw [if_neg h3]; done)
  · refine lv_iconst (v := 3) hx hb dX6_many_10 (by decide) ?_
    refine lv_aload_n hx hb dX6_many_11 rfl (lv_at hl 0 rfl) ?_
    refine zm_get hx hb hts hown hE hM hZ.2.1 fl_X6_13_5 rfl dX6_many_12 ?_
    refine lv_iload_n hx hb dX6_many_15 rfl (lv_at hl 1 rfl) ?_
    refine zm_iald hx hb hE hM (hZ.ar 2) (vp_in_nI (show j < 50 by omega) (by decide)) dX6_many_16 ?_
    refine zt_eq (v' := .int (nI (s_sz S j))) (by rw [nI_clamp (by omega)]; exact congrArg Value.int ((hAb.1 j hj).2.1)) ?_
    refine lv_imul hx hb dX6_many_17 ?_
    refine lv_goto (tgt := 27) hx hb dX6_many_18 (by decide) ?_
    refine zm_iret hx hb hr hlk hM hS ?_ ⟨Nat.le_refl _, Nat.le_refl _⟩ dX6_many_27
    refine ⟨?_, rfl⟩
    have h16 := (hI.2.2.1 j hj).1
    unfold many
    first | (have h3 : s_kd S j = 3 := (nI_eq (b := 3) (by omega) (by omega)).mp c7; rw [if_pos h3, show (3 : Int32) = nI 3 from rfl, pk_mul]; done) | (have h3 : ¬ s_kd S j = 3 := fun e => c7 (by rw [e]; rfl); rw [if_neg h3]; done)
