theorem oI_some {o : Option Nat} (h : ¬ oI o = -1) : ∃ t, o = some t := by cases o with | none => exact absurd rfl h | some t => exact ⟨t, rfl⟩
set_option maxRecDepth 100000 in
set_option maxHeartbeats 4000000 in
theorem c_X6_worthOfOne (l : Launch) (G : zm_G) (A : Nat → Prop) (q : Nat → Nat) (S : zS) (M : zm_M) (j : Nat) (hj : j < s_np S) (v : Nat) (hv : v = 4 ∨ v = 5 ∨ v = 6 ∨ v = 7 ∨ v = 16) (hI : zInv S) (hR : RepR G q S M) : Met l yX6_worthOfOne (zm_W yX6_worthOfOne cX6_worthOfOne 5 (some .long)) (zm_rm 0 0 0) (zm_Pc G [.ref (q 0), .int (nI j), .int (nI v)] A M) (zm_Q G (fun r M' => r = some (.long (wOne S j v)) ∧ M' = M) A) 0 0 A := by
  refine zm_start (by decide) (Nat.le_of_ble_eq_true rfl) ?_
  intro p e s m below meth c hx hb hml hr hts hown hlk hnm hE hA ls hl hM hS
  have hl : lv_has ls 5 [(0, .ref (q 0)), (1, .int (nI j)), (2, .int (nI v))] := hl
  obtain ⟨f, g, hZ, hAb⟩ := hR
  have hnp := hI.1
  have hncc := hI.2.1
  refine lv_aload_n hx hb dX6_worthOfOne_0 rfl (lv_at hl 0 rfl) ?_
  refine zm_get hx hb hts hown hE hM hZ.2.1 fl_X6_13_5 rfl dX6_worthOfOne_1 ?_
  refine lv_iload_n hx hb dX6_worthOfOne_4 rfl (lv_at hl 1 rfl) ?_
  refine zm_iald hx hb hE hM (hZ.ar 2) (vp_in_nI (show j < 50 by omega) (by decide)) dX6_worthOfOne_5 ?_
  refine zt_eq (v' := .int (nI (s_sz S j))) (by rw [nI_clamp (by omega)]; exact congrArg Value.int ((hAb.1 j hj).2.1)) ?_
  refine lv_i2l hx hb dX6_worthOfOne_6 rfl ?_
  refine lv_lstore_n (lv' := [(3, .long ((nI (s_sz S j)).toInt64)), (0, .ref (q 0)), (1, .int (nI j)), (2, .int (nI v))]) hx hb dX6_worthOfOne_7 rfl hl (by decide) rfl (fun ls hl => ?_)
  refine lv_iload_n hx hb dX6_worthOfOne_8 rfl (lv_at hl 3 rfl) ?_
  rcases hv with rfl | rfl | rfl | rfl | rfl
  · refine lv_tableIn (off := 31) (tgt := 40) hx hb dX6_worthOfOne_9 (by decide) (by decide) rfl (by decide) ?_
    refine lv_lload_n hx hb dX6_worthOfOne_40 rfl (lv_at hl 0 rfl) ?_
    refine lv_aload_n hx hb dX6_worthOfOne_41 rfl (lv_at hl 1 rfl) ?_
    refine zm_get hx hb hts hown hE hM hZ.2.1 fl_X6_16_5 rfl dX6_worthOfOne_42 ?_
    refine lv_iload_n hx hb dX6_worthOfOne_45 rfl (lv_at hl 2 rfl) ?_
    refine zm_iald hx hb hE hM (hZ.ar 3) (vp_in_nI (show j < 50 by omega) (by decide)) dX6_worthOfOne_46 ?_
    refine zt_eq (v' := .int (s_wr S j)) (by rw [nI_clamp (by omega)]; exact congrArg Value.int ((hAb.1 j hj).2.2)) ?_
    refine lv_i2l hx hb dX6_worthOfOne_47 rfl ?_
    refine lv_ladd hx hb dX6_worthOfOne_48 ?_
    refine zm_lret hx hb hr hlk hM hS ?_ ⟨Nat.le_refl _, Nat.le_refl _⟩ dX6_worthOfOne_49
    exact ⟨rfl, rfl⟩
  · refine lv_tableIn (off := 41) (tgt := 50) hx hb dX6_worthOfOne_9 (by decide) (by decide) rfl (by decide) ?_
    refine lv_ldc2 (v := 2) hx hb hown (hts _ cst_X6_86) dX6_worthOfOne_50 ?_
    refine lv_aload_n hx hb dX6_worthOfOne_53 rfl (lv_at hl 1 rfl) ?_
    refine zm_get hx hb hts hown hE hM hZ.2.1 fl_X6_16_5 rfl dX6_worthOfOne_54 ?_
    refine lv_iload_n hx hb dX6_worthOfOne_57 rfl (lv_at hl 2 rfl) ?_
    refine zm_iald hx hb hE hM (hZ.ar 3) (vp_in_nI (show j < 50 by omega) (by decide)) dX6_worthOfOne_58 ?_
    refine zt_eq (v' := .int (s_wr S j)) (by rw [nI_clamp (by omega)]; exact congrArg Value.int ((hAb.1 j hj).2.2)) ?_
    refine lv_i2l hx hb dX6_worthOfOne_59 rfl ?_
    refine lv_lmul hx hb dX6_worthOfOne_60 ?_
    refine zm_lret hx hb hr hlk hM hS ?_ ⟨Nat.le_refl _, Nat.le_refl _⟩ dX6_worthOfOne_61
    exact ⟨rfl, rfl⟩
  · refine lv_tableIn (off := 53) (tgt := 62) hx hb dX6_worthOfOne_9 (by decide) (by decide) rfl (by decide) ?_
    refine lv_ldc2 (v := 3) hx hb hown (hts _ cst_X6_88) dX6_worthOfOne_62 ?_
    refine lv_lload_n hx hb dX6_worthOfOne_65 rfl (lv_at hl 0 rfl) ?_
    refine lv_lmul hx hb dX6_worthOfOne_66 ?_
    refine zm_lret hx hb hr hlk hM hS ?_ ⟨Nat.le_refl _, Nat.le_refl _⟩ dX6_worthOfOne_67
    exact ⟨rfl, rfl⟩
  · refine lv_tableIn (off := 59) (tgt := 68) hx hb dX6_worthOfOne_9 (by decide) (by decide) rfl (by decide) ?_
    refine lv_lload_n hx hb dX6_worthOfOne_68 rfl (lv_at hl 0 rfl) ?_
    refine zm_lret hx hb hr hlk hM hS ?_ ⟨Nat.le_refl _, Nat.le_refl _⟩ dX6_worthOfOne_69
    exact ⟨rfl, rfl⟩
  · refine lv_tableOut (tgt := 70) hx hb dX6_worthOfOne_9 (by decide) (by decide) ?_
    refine lv_aload_n hx hb dX6_worthOfOne_70 rfl (lv_at hl 1 rfl) ?_
    refine zm_get hx hb hts hown hE hM hZ.2.1 fl_X6_7_5 rfl dX6_worthOfOne_71 ?_
    refine lv_iload_n hx hb dX6_worthOfOne_74 rfl (lv_at hl 2 rfl) ?_
    refine zm_iald hx hb hE hM (hZ.ar 1) (vp_in_nI (show j < 50 by omega) (by decide)) dX6_worthOfOne_75 ?_
    refine zt_eq (v' := .int (nI (s_kd S j))) (by rw [nI_clamp (by omega)]; exact congrArg Value.int ((hAb.1 j hj).1)) ?_
    refine lv_bipush (v := 6) hx hb dX6_worthOfOne_76 (by decide) ?_
    refine lv_icmp_ne (tgt := 89) hx hb dX6_worthOfOne_78 (by decide) (fun c78 => ?_) (fun c78 => ?_)
    · refine lv_ldc2 (v := 2) hx hb hown (hts _ cst_X6_86) dX6_worthOfOne_89 ?_
      refine lv_lload_n hx hb dX6_worthOfOne_92 rfl (lv_at hl 0 rfl) ?_
      refine lv_lmul hx hb dX6_worthOfOne_93 ?_
      refine zm_lret hx hb hr hlk hM hS ?_ ⟨Nat.le_refl _, Nat.le_refl _⟩ dX6_worthOfOne_94
      refine ⟨?_, rfl⟩
      have h16 := (hI.2.2.1 j hj).1
      first | (have h6 : s_kd S j = 6 := (nI_eq (b := 6) (by omega) (by omega)).mp c78; simp only [wOne, if_pos h6]) | (have h6 : ¬ s_kd S j = 6 := fun q => c78 (by rw [q]; rfl); simp only [wOne, if_neg h6])
    · refine lv_lload_n hx hb dX6_worthOfOne_81 rfl (lv_at hl 0 rfl) ?_
      refine lv_ldc2 (v := 5) hx hb hown (hts _ cst_X6_90) dX6_worthOfOne_82 ?_
      refine lv_ladd hx hb dX6_worthOfOne_85 ?_
      refine lv_goto (tgt := 94) hx hb dX6_worthOfOne_86 (by decide) ?_
      refine zm_lret hx hb hr hlk hM hS ?_ ⟨Nat.le_refl _, Nat.le_refl _⟩ dX6_worthOfOne_94
      refine ⟨?_, rfl⟩
      have h16 := (hI.2.2.1 j hj).1
      first | (have h6 : s_kd S j = 6 := (nI_eq (b := 6) (by omega) (by omega)).mp c78; simp only [wOne, if_pos h6]) | (have h6 : ¬ s_kd S j = 6 := fun q => c78 (by rw [q]; rfl); simp only [wOne, if_neg h6])
set_option maxRecDepth 100000 in
set_option maxHeartbeats 4000000 in
theorem c_X6_worthOfNumbers (l : Launch) (G : zm_G) (A : Nat → Prop) (q : Nat → Nat) (S : zS) (M : zm_M) (j : Nat) (hj : j < s_np S) (hk4 : s_kd S j < 4) (hI : zInv S) (hR : RepR G q S M) : Met l yX6_worthOfNumbers (zm_W yX6_worthOfNumbers cX6_worthOfNumbers 5 (some .long)) (zm_rm 1 0 0) (zm_Pc G [.ref (q 0), .int (nI j)] A M) (zm_Q G (fun r M' => r = some (.long (zsum (s_nu S j) (many S j))) ∧ M' = M) A) 0 0 A := by
  refine zm_start (by decide) (Nat.le_of_ble_eq_true rfl) ?_
  intro p e s m below meth c hx hb hml hr hts hown hlk hnm hE hA ls hl hM hS
  have hl : lv_has ls 5 [(0, .ref (q 0)), (1, .int (nI j))] := hl
  obtain ⟨f, g, hZ, hAb⟩ := hR
  have hnp := hI.1
  have hncc := hI.2.1
  have hm := many15 hI hj hk4
  refine lv_lconst (v := 0) hx hb dX6_worthOfNumbers_0 (by decide) ?_
  refine lv_lstore_n (lv' := [(2, .long 0), (0, .ref (q 0)), (1, .int (nI j))]) hx hb dX6_worthOfNumbers_1 rfl hl (by decide) rfl (fun ls hl => ?_)
  refine lv_iconst (v := 0) hx hb dX6_worthOfNumbers_2 (by decide) ?_
  refine lv_istore (lv' := [(4, .int 0), (2, .long 0), (0, .ref (q 0)), (1, .int (nI j))]) hx hb dX6_worthOfNumbers_3 hl (by decide) rfl (fun ls hl => ?_)
  have loop : ∀ (n k : Nat), k ≤ many S j → many S j + 1 ≤ k + n → ∀ (ls : Array Slot) (H : Heap) (locs : List Loc), zm_P G A M H → va_S A s.heap H locs → lv_has ls 5 [(4, .int (nI k)), (2, .long (zsum (s_nu S j) k)), (0, .ref (q 0)), (1, .int (nI j))] → W p l e (zm_rm 1 0 0) s m [.ref (q 0), .int (nI j)].toArray below meth c H locs 0 0 (MQ below (zm_Q G (fun r M' => r = some (.long (zsum (s_nu S j) (many S j))) ∧ M' = M) A) [.ref (q 0), .int (nI j)].toArray s 0 0 A) (F0 m 5 ls []) := by
    intro n
    induction n with
    | zero => intro k h1 h2; exact absurd h2 (by omega)
    | succ n ih =>
      intro k hk1 hk2 ls H locs hM hS hl
      refine lv_iload hx hb dX6_worthOfNumbers_5 (lv_at hl 0 rfl) ?_
      refine lv_aload_n hx hb dX6_worthOfNumbers_7 rfl (lv_at hl 2 rfl) ?_
      refine lv_iload_n hx hb dX6_worthOfNumbers_8 rfl (lv_at hl 3 rfl) ?_
      refine zm_callV (As := [.int (nI j)]) (rest := [.int (nI k)]) hx hb hml hts hown hE hA hM hS hZ.2.1 rfl (c_X6_many l G A q S _ j hj hI ⟨f, g, hZ, hAb⟩) cd_X6_many ml_X6_66 rfl rfl hl.1 (Nat.le_of_ble_eq_true rfl) ⟨Nat.le_of_ble_eq_true rfl, Nat.le_of_ble_eq_true rfl⟩ ⟨Nat.le_of_ble_eq_true rfl, Nat.le_of_ble_eq_true rfl⟩ dX6_worthOfNumbers_9 ?_
      rintro r M1 H locs ⟨rfl, e1⟩ hM hS
      rw [e1] at hM
      clear e1 M1
      refine W.eq (g2 := F0 m 12 ls [.int (nI (many S j)), .int (nI k)]) rfl ?_
      refine lv_icmp_ge (tgt := 36) hx hb dX6_worthOfNumbers_12 (by decide) (fun c12 => ?_) (fun c12 => ?_)
      · have hkk : k = many S j := by have := (nI_leI (by omega) (by omega)).mp c12; omega
        refine lv_lload_n hx hb dX6_worthOfNumbers_36 rfl (lv_at hl 1 rfl) ?_
        refine zm_lret hx hb hr hlk hM hS ?_ ⟨Nat.le_refl _, Nat.le_refl _⟩ dX6_worthOfNumbers_37
        exact ⟨by rw [hkk], rfl⟩
      · have hkk : k < many S j := by rw [nI_leI (by omega) (by omega)] at c12; omega
        refine lv_lload_n hx hb dX6_worthOfNumbers_15 rfl (lv_at hl 1 rfl) ?_
        refine lv_aload_n hx hb dX6_worthOfNumbers_16 rfl (lv_at hl 2 rfl) ?_
        refine zm_get hx hb hts hown hE hM hZ.2.1 fl_X6_19_5 rfl dX6_worthOfNumbers_17 ?_
        refine lv_bipush (v := 15) hx hb dX6_worthOfNumbers_20 (by decide) ?_
        refine lv_iload_n hx hb dX6_worthOfNumbers_22 rfl (lv_at hl 3 rfl) ?_
        refine lv_imul hx hb dX6_worthOfNumbers_23 ?_
        refine lv_iload hx hb dX6_worthOfNumbers_24 (lv_at hl 0 rfl) ?_
        refine lv_iadd hx hb dX6_worthOfNumbers_26 ?_
        refine zt_eq (v' := .int (nI (15 * j + k))) (congrArg Value.int (idx15 j k)) ?_
        refine zm_lald hx hb hE hM hZ.2.2.2 (vp_in_nI (show 15 * j + k < 750 by omega) (by decide)) dX6_worthOfNumbers_27 ?_
        refine zt_eq (v' := .long (s_nu S j k)) (by rw [nI_clamp (by omega), hAb.2.1 j k hj (by omega)]) ?_
        refine lv_ladd hx hb dX6_worthOfNumbers_28 ?_
        refine lv_lstore_n (lv' := [(2, .long ((zsum (s_nu S j) k) + (s_nu S j k))), (4, .int (nI k)), (0, .ref (q 0)), (1, .int (nI j))]) hx hb dX6_worthOfNumbers_29 rfl hl (by decide) rfl (fun ls hl => ?_)
        refine lv_iinc (v := nI (k + 1)) (lv' := [(4, .int (nI (k + 1))), (2, .long ((zsum (s_nu S j) k) + (s_nu S j k))), (0, .ref (q 0)), (1, .int (nI j))]) hx hb dX6_worthOfNumbers_30 hl (k := 1) rfl (nI_1 k) (by decide) rfl (fun ls hl => ?_)
        refine lv_goto (tgt := 5) hx hb dX6_worthOfNumbers_33 (by decide) ?_
        exact ih (k + 1) (by omega) (by omega) ls _ _ hM hS (lv_sub hl [0, 1, 2, 3] rfl)
  exact loop (many S j + 1) 0 (Nat.zero_le _) (by omega) ls _ _ hM hS (lv_sub hl [0, 1, 2, 3] rfl)
set_option maxRecDepth 100000 in
set_option maxHeartbeats 4000000 in
theorem c_X6_worthOfRow (l : Launch) (G : zm_G) (A : Nat → Prop) (q : Nat → Nat) (S : zS) (M : zm_M) (j : Nat) (hj : j < s_np S) (v : Nat) (hk8 : 8 ≤ s_kd S j) (hk12 : s_kd S j ≤ 12) (hv8 : 8 ≤ v) (hv12 : v ≤ 12) (hI : zInv S) (hR : RepR G q S M) : Met l yX6_worthOfRow (zm_W yX6_worthOfRow cX6_worthOfRow 7 (some .long)) (zm_rm 1 0 0) (zm_Pc G [.ref (q 0), .int (nI j), .int (nI v)] A M) (zm_Q G (fun r M' => r = some (.long (wRow S j v)) ∧ M' = M) A) 0 0 A := by
  refine zm_start (by decide) (Nat.le_of_ble_eq_true rfl) ?_
  intro p e s m below meth c hx hb hml hr hts hown hlk hnm hE hA ls hl hM hS
  have hl : lv_has ls 7 [(0, .ref (q 0)), (1, .int (nI j)), (2, .int (nI v))] := hl
  obtain ⟨f, g, hZ, hAb⟩ := hR
  have hnp := hI.1
  have hncc := hI.2.1
  obtain ⟨gg, hg⟩ : ∃ gg : Nat → Int64, gg = fun i => wAt (fun t => wOne S t (inn v)) (s_th S j i) := ⟨_, rfl⟩
  have hm := hI.sz5 hj (rw_pc (rw_of (show 8 ≤ s_kd S j by omega) (by omega)))
  refine lv_lconst (v := 0) hx hb dX6_worthOfRow_0 (by decide) ?_
  refine lv_lstore_n (lv' := [(3, .long 0), (0, .ref (q 0)), (1, .int (nI j)), (2, .int (nI v))]) hx hb dX6_worthOfRow_1 rfl hl (by decide) rfl (fun ls hl => ?_)
  refine lv_iconst (v := 0) hx hb dX6_worthOfRow_2 (by decide) ?_
  refine lv_istore (lv' := [(5, .int 0), (3, .long 0), (0, .ref (q 0)), (1, .int (nI j)), (2, .int (nI v))]) hx hb dX6_worthOfRow_3 hl (by decide) rfl (fun ls hl => ?_)
  have loop : ∀ (n k : Nat), k ≤ s_sz S j → s_sz S j + 1 ≤ k + n → ∀ (ls : Array Slot) (H : Heap) (locs : List Loc), zm_P G A M H → va_S A s.heap H locs → lv_has ls 7 [(5, .int (nI k)), (3, .long (zsum gg k)), (0, .ref (q 0)), (1, .int (nI j)), (2, .int (nI v))] → W p l e (zm_rm 1 0 0) s m [.ref (q 0), .int (nI j), .int (nI v)].toArray below meth c H locs 0 0 (MQ below (zm_Q G (fun r M' => r = some (.long (wRow S j v)) ∧ M' = M) A) [.ref (q 0), .int (nI j), .int (nI v)].toArray s 0 0 A) (F0 m 5 ls []) := by
    intro n
    induction n with
    | zero => intro k h1 h2; exact absurd h2 (by omega)
    | succ n ih =>
      intro k hk1 hk2 ls H locs hM hS hl
      refine lv_iload hx hb dX6_worthOfRow_5 (lv_at hl 0 rfl) ?_
      refine lv_aload_n hx hb dX6_worthOfRow_7 rfl (lv_at hl 2 rfl) ?_
      refine zm_get hx hb hts hown hE hM hZ.2.1 fl_X6_13_5 rfl dX6_worthOfRow_8 ?_
      refine lv_iload_n hx hb dX6_worthOfRow_11 rfl (lv_at hl 3 rfl) ?_
      refine zm_iald hx hb hE hM (hZ.ar 2) (vp_in_nI (show j < 50 by omega) (by decide)) dX6_worthOfRow_12 ?_
      refine zt_eq (v' := .int (nI (s_sz S j))) (by rw [nI_clamp (by omega)]; exact congrArg Value.int ((hAb.1 j hj).2.1)) ?_
      refine lv_icmp_ge (tgt := 58) hx hb dX6_worthOfRow_13 (by decide) (fun c13 => ?_) (fun c13 => ?_)
      · have hkk : k = s_sz S j := by have := (nI_leI (by omega) (by omega)).mp c13; omega
        refine lv_lload_n hx hb dX6_worthOfRow_58 rfl (lv_at hl 1 rfl) ?_
        refine zm_lret hx hb hr hlk hM hS ?_ ⟨Nat.le_refl _, Nat.le_refl _⟩ dX6_worthOfRow_59
        refine ⟨?_, rfl⟩
        rw [hkk, hg]; rfl
      · have hkk : k < s_sz S j := by rw [nI_leI (by omega) (by omega)] at c13; omega
        refine lv_aload_n hx hb dX6_worthOfRow_16 rfl (lv_at hl 2 rfl) ?_
        refine zm_get hx hb hts hown hE hM hZ.2.1 fl_X6_23_5 rfl dX6_worthOfRow_17 ?_
        refine lv_iconst (v := 5) hx hb dX6_worthOfRow_20 (by decide) ?_
        refine lv_iload_n hx hb dX6_worthOfRow_21 rfl (lv_at hl 3 rfl) ?_
        refine lv_imul hx hb dX6_worthOfRow_22 ?_
        refine lv_iload hx hb dX6_worthOfRow_23 (lv_at hl 0 rfl) ?_
        refine lv_iadd hx hb dX6_worthOfRow_25 ?_
        refine zt_eq (v' := .int (nI (5 * j + k))) (congrArg Value.int (idx5 j k)) ?_
        refine zm_iald hx hb hE hM (hZ.ar 5) (vp_in_nI (show 5 * j + k < 250 by omega) (by decide)) dX6_worthOfRow_26 ?_
        refine zt_eq (v' := .int (oI (s_th S j k))) (by rw [nI_clamp (by omega)]; exact congrArg Value.int (hAb.2.2.1 j k hj (by omega))) ?_
        refine lv_istore (lv' := [(6, .int (oI (s_th S j k))), (5, .int (nI k)), (3, .long (zsum gg k)), (0, .ref (q 0)), (1, .int (nI j)), (2, .int (nI v))]) hx hb dX6_worthOfRow_27 hl (by decide) rfl (fun ls hl => ?_)
        refine lv_lload_n hx hb dX6_worthOfRow_29 rfl (lv_at hl 2 rfl) ?_
        refine lv_iload hx hb dX6_worthOfRow_30 (lv_at hl 0 rfl) ?_
        refine lv_iconst (v := (-1)) hx hb dX6_worthOfRow_32 (by decide) ?_
        refine lv_icmp_ne (tgt := 40) hx hb dX6_worthOfRow_33 (by decide) (fun c33 => ?_) (fun c33 => ?_)
        · obtain ⟨t, hth⟩ := oI_some c33
          rw [hth] at hl
          have hl : lv_has ls 7 [(6, .int (nI t)), (5, .int (nI k)), (3, .long (zsum gg k)), (0, .ref (q 0)), (1, .int (nI j)), (2, .int (nI v))] := hl
          obtain ⟨htn, hga⟩ := hI.2.2.2.1 j hj (by omega) k t hkk hth
          have ht16 := (hI.2.2.1 t htn).1
          have hkt := gA_pc _ ht16 _ hk8 hk12 hga
          have hgk : zsum gg (k + 1) = zsum gg k + wOne S t (inn v) := by show zsum gg k + gg k = _; rw [show gg k = wOne S t (inn v) by rw [hg]; show wAt _ (s_th S j k) = _; rw [hth]; rfl]
          refine lv_aload_n hx hb dX6_worthOfRow_40 rfl (lv_at hl 3 rfl) ?_
          refine lv_iload hx hb dX6_worthOfRow_41 (lv_at hl 0 rfl) ?_
          refine lv_iload_n hx hb dX6_worthOfRow_43 rfl (lv_at hl 5 rfl) ?_
          refine zm_callS (As := [.int (nI v)]) (rest := [.int (nI t), .ref (q 0), .long (zsum gg k)]) hx hb hml hts hown hE hA hM hS (c_X6_inner l G A _ v (by omega) (by omega)) cd_X6_inner ml_X6_92 rfl rfl hl.1 (Nat.le_of_ble_eq_true rfl) ⟨Nat.le_of_ble_eq_true rfl, Nat.le_of_ble_eq_true rfl⟩ ⟨Nat.le_of_ble_eq_true rfl, Nat.le_of_ble_eq_true rfl⟩ dX6_worthOfRow_44 ?_
          rintro r M1 H locs ⟨rfl, e1⟩ hM hS
          rw [e1] at hM
          clear e1 M1
          refine W.eq (g2 := F0 m 47 ls [.int (nI (inn v)), .int (nI t), .ref (q 0), .long (zsum gg k)]) rfl ?_
          refine zm_callV (As := [.int (nI t), .int (nI (inn v))]) (rest := [.long (zsum gg k)]) hx hb hml hts hown hE hA hM hS hZ.2.1 rfl (c_X6_worthOfOne l G A q S _ t htn (inn v) (inn_pc v hv8 hv12) hI ⟨f, g, hZ, hAb⟩) cd_X6_worthOfOne ml_X6_95 rfl rfl hl.1 (Nat.le_of_ble_eq_true rfl) ⟨Nat.le_of_ble_eq_true rfl, Nat.le_of_ble_eq_true rfl⟩ ⟨Nat.le_of_ble_eq_true rfl, Nat.le_of_ble_eq_true rfl⟩ dX6_worthOfRow_47 ?_
          rintro r M1 H locs ⟨rfl, e1⟩ hM hS
          rw [e1] at hM
          clear e1 M1
          refine W.eq (g2 := F0 m 50 ls [.long (wOne S t (inn v)), .long (zsum gg k)]) rfl ?_
          refine lv_ladd hx hb dX6_worthOfRow_50 ?_
          refine lv_lstore_n (lv' := [(3, .long ((zsum gg k) + (wOne S t (inn v)))), (6, .int (nI t)), (5, .int (nI k)), (0, .ref (q 0)), (1, .int (nI j)), (2, .int (nI v))]) hx hb dX6_worthOfRow_51 rfl hl (by decide) rfl (fun ls hl => ?_)
          refine lv_iinc (v := nI (k + 1)) (lv' := [(5, .int (nI (k + 1))), (3, .long ((zsum gg k) + (wOne S t (inn v)))), (6, .int (nI t)), (0, .ref (q 0)), (1, .int (nI j)), (2, .int (nI v))]) hx hb dX6_worthOfRow_52 hl (k := 2) rfl (nI_1 k) (by decide) rfl (fun ls hl => ?_)
          refine lv_goto (tgt := 5) hx hb dX6_worthOfRow_55 (by decide) ?_
          exact ih (k + 1) (by omega) (by omega) ls _ _ hM hS (by rw [hgk]; exact (lv_sub hl [0, 1, 3, 4, 5] rfl))
        · have hth : s_th S j k = none := (oI_m1 (fun t ht => by have := (hI.2.2.2.1 j hj (by omega) k t hkk ht).1; omega)).mp c33
          have hgk : zsum gg (k + 1) = zsum gg k + 0 := by show zsum gg k + gg k = _; rw [show gg k = 0 by rw [hg]; show wAt _ (s_th S j k) = _; rw [hth]; rfl]
          refine lv_lconst (v := 0) hx hb dX6_worthOfRow_36 (by decide) ?_
          refine lv_goto (tgt := 50) hx hb dX6_worthOfRow_37 (by decide) ?_
          refine lv_ladd hx hb dX6_worthOfRow_50 ?_
          refine lv_lstore_n (lv' := [(3, .long ((zsum gg k) + 0)), (6, .int (oI (s_th S j k))), (5, .int (nI k)), (0, .ref (q 0)), (1, .int (nI j)), (2, .int (nI v))]) hx hb dX6_worthOfRow_51 rfl hl (by decide) rfl (fun ls hl => ?_)
          refine lv_iinc (v := nI (k + 1)) (lv' := [(5, .int (nI (k + 1))), (3, .long ((zsum gg k) + 0)), (6, .int (oI (s_th S j k))), (0, .ref (q 0)), (1, .int (nI j)), (2, .int (nI v))]) hx hb dX6_worthOfRow_52 hl (k := 2) rfl (nI_1 k) (by decide) rfl (fun ls hl => ?_)
          refine lv_goto (tgt := 5) hx hb dX6_worthOfRow_55 (by decide) ?_
          exact ih (k + 1) (by omega) (by omega) ls _ _ hM hS (by rw [hgk]; exact (lv_sub hl [0, 1, 3, 4, 5] rfl))
  exact loop (s_sz S j + 1) 0 (Nat.zero_le _) (by omega) ls _ _ hM hS (lv_sub hl [0, 1, 2, 3, 4] rfl)
theorem kd_of {k v : Nat} (hk : k < 16) (hv : v < 17) (h : gA k v = true) : (v < 4 → k < 4) ∧ (8 ≤ v → v ≤ 12 → 8 ≤ k ∧ k ≤ 12) ∧ (13 ≤ v → v ≤ 15 → 13 ≤ k) := by
  obtain ⟨g1, g2, g3, g4⟩ := gA_lv0 k hk v hv h
  have g5 : isPc k = true ∨ ¬ isPc k = true := Classical.em _
  have g6 : isPc k = true ↔ 4 ≤ k ∧ k ≤ 7 := by simp [isPc]
  refine ⟨fun z => ?_, fun z1 z2 => ?_, fun z1 z2 => ?_⟩
  · rcases g5 with g5 | g5
    · have := g2 g5; omega
    · rw [g6] at g5; by_cases a : k ≤ 12
      · by_cases b : k < 4
        · exact b
        · have := g3 (by omega) a; omega
      · have := g4 (by omega); omega
  · rcases g5 with g5 | g5
    · have := g2 g5; omega
    · rw [g6] at g5; by_cases a : k ≤ 12
      · by_cases b : k < 4
        · have := g1 b; omega
        · exact ⟨by omega, a⟩
      · have := g4 (by omega); omega
  · rcases g5 with g5 | g5
    · have := g2 g5; omega
    · rw [g6] at g5; by_cases a : k ≤ 12
      · by_cases b : k < 4
        · have := g1 b; omega
        · have := g3 (by omega) a; omega
      · omega
set_option maxRecDepth 100000 in
set_option maxHeartbeats 4000000 in
theorem c_X6_worthOf (l : Launch) (G : zm_G) (A : Nat → Prop) (q : Nat → Nat) (S : zS) (M : zm_M) (j : Nat) (hj : j < s_np S) (v : Nat) (hv17 : v < 17) (hga0 : gA (s_kd S j) v = true) (hI : zInv S) (hR : RepR G q S M) : Met l yX6_worthOf (zm_W yX6_worthOf cX6_worthOf 7 (some .long)) (zm_rm 2 0 0) (zm_Pc G [.ref (q 0), .int (nI j), .int (nI v)] A M) (zm_Q G (fun r M' => r = some (.long (wOf S j v)) ∧ M' = M) A) 0 0 A := by
  refine zm_start (by decide) (Nat.le_of_ble_eq_true rfl) ?_
  intro p e s m below meth c hx hb hml hr hts hown hlk hnm hE hA ls hl hM hS
  have hl : lv_has ls 7 [(0, .ref (q 0)), (1, .int (nI j)), (2, .int (nI v))] := hl
  obtain ⟨f, g, hZ, hAb⟩ := hR
  have hnp := hI.1
  have hncc := hI.2.1
  obtain ⟨gg, hg⟩ : ∃ gg : Nat → Int64, gg = fun i => wAt (fun t => wRow S t (inn v)) (s_th S j i) := ⟨_, rfl⟩
  have h16 := (hI.2.2.1 j hj).1
  obtain ⟨k1, k2, k3⟩ := kd_of h16 hv17 hga0
  refine lv_iload_n hx hb dX6_worthOf_0 rfl (lv_at hl 2 rfl) ?_
  refine lv_iconst (v := 4) hx hb dX6_worthOf_1 (by decide) ?_
  refine lv_icmp_ge (tgt := 11) hx hb dX6_worthOf_2 (by decide) (fun c2 => ?_) (fun c2 => ?_)
  · rw [show (4 : Int32) = nI 4 from rfl, nI_leI (by omega) (by omega)] at c2
    refine lv_iload_n hx hb dX6_worthOf_11 rfl (lv_at hl 2 rfl) ?_
    refine lv_bipush (v := 8) hx hb dX6_worthOf_12 (by decide) ?_
    refine lv_icmp_lt (tgt := 23) hx hb dX6_worthOf_14 (by decide) (fun c14 => ?_) (fun c14 => ?_)
    · rw [show (8 : Int32) = nI 8 from rfl, nI_ltI (by omega) (by omega)] at c14
      have hv5 : v = 4 ∨ v = 5 ∨ v = 6 ∨ v = 7 ∨ v = 16 := by omega
      refine lv_aload_n hx hb dX6_worthOf_23 rfl (lv_at hl 0 rfl) ?_
      refine lv_iload_n hx hb dX6_worthOf_24 rfl (lv_at hl 1 rfl) ?_
      refine lv_iload_n hx hb dX6_worthOf_25 rfl (lv_at hl 2 rfl) ?_
      refine zm_callV (As := [.int (nI j), .int (nI v)]) (rest := []) hx hb hml hts hown hE hA hM hS hZ.2.1 rfl (c_X6_worthOfOne l G A q S _ j hj v hv5 hI ⟨f, g, hZ, hAb⟩) cd_X6_worthOfOne ml_X6_95 rfl rfl hl.1 (Nat.le_of_ble_eq_true rfl) ⟨Nat.le_of_ble_eq_true rfl, Nat.le_of_ble_eq_true rfl⟩ ⟨Nat.le_of_ble_eq_true rfl, Nat.le_of_ble_eq_true rfl⟩ dX6_worthOf_26 ?_
      rintro r M1 H locs ⟨rfl, e1⟩ hM hS
      rw [e1] at hM
      clear e1 M1
      refine W.eq (g2 := F0 m 29 ls [.long (wOne S j v)]) rfl ?_
      refine zm_lret hx hb hr hlk hM hS ?_ ⟨Nat.le_refl _, Nat.le_refl _⟩ dX6_worthOf_29
      exact ⟨by rw [wOf_pc hv5], rfl⟩
    · rw [show (8 : Int32) = nI 8 from rfl, nI_ltI (by omega) (by omega)] at c14
      refine lv_iload_n hx hb dX6_worthOf_17 rfl (lv_at hl 2 rfl) ?_
      refine lv_bipush (v := 16) hx hb dX6_worthOf_18 (by decide) ?_
      refine lv_icmp_ne (tgt := 30) hx hb dX6_worthOf_20 (by decide) (fun c20 => ?_) (fun c20 => ?_)
      · have hv16 : ¬ v = 16 := fun e => c20 (by rw [e]; rfl)
        refine lv_iload_n hx hb dX6_worthOf_30 rfl (lv_at hl 2 rfl) ?_
        refine lv_bipush (v := 13) hx hb dX6_worthOf_31 (by decide) ?_
        refine lv_icmp_ge (tgt := 43) hx hb dX6_worthOf_33 (by decide) (fun c33 => ?_) (fun c33 => ?_)
        · rw [show (13 : Int32) = nI 13 from rfl, nI_leI (by omega) (by omega)] at c33
          have hv8 : 13 ≤ v := by omega
          have hv12 : v ≤ 15 := by omega
          have hk8 := k3 hv8 hv12
          have hk12 : s_kd S j ≤ 15 := by omega
          have hm := hI.sz5 hj (rw_pc (rw_of (show 8 ≤ s_kd S j by omega) (by omega)))
          refine lv_lconst (v := 0) hx hb dX6_worthOf_43 (by decide) ?_
          refine lv_lstore_n (lv' := [(3, .long 0), (0, .ref (q 0)), (1, .int (nI j)), (2, .int (nI v))]) hx hb dX6_worthOf_44 rfl hl (by decide) rfl (fun ls hl => ?_)
          refine lv_iconst (v := 0) hx hb dX6_worthOf_45 (by decide) ?_
          refine lv_istore (lv' := [(5, .int 0), (3, .long 0), (0, .ref (q 0)), (1, .int (nI j)), (2, .int (nI v))]) hx hb dX6_worthOf_46 hl (by decide) rfl (fun ls hl => ?_)
          have loop : ∀ (n k : Nat), k ≤ s_sz S j → s_sz S j + 1 ≤ k + n → ∀ (ls : Array Slot) (H : Heap) (locs : List Loc), zm_P G A M H → va_S A s.heap H locs → lv_has ls 7 [(5, .int (nI k)), (3, .long (zsum gg k)), (0, .ref (q 0)), (1, .int (nI j)), (2, .int (nI v))] → W p l e (zm_rm 2 0 0) s m [.ref (q 0), .int (nI j), .int (nI v)].toArray below meth c H locs 0 0 (MQ below (zm_Q G (fun r M' => r = some (.long (wOf S j v)) ∧ M' = M) A) [.ref (q 0), .int (nI j), .int (nI v)].toArray s 0 0 A) (F0 m 48 ls []) := by
            intro n
            induction n with
            | zero => intro k h1 h2; exact absurd h2 (by omega)
            | succ n ih =>
              intro k hk1 hk2 ls H locs hM hS hl
              refine lv_iload hx hb dX6_worthOf_48 (lv_at hl 0 rfl) ?_
              refine lv_aload_n hx hb dX6_worthOf_50 rfl (lv_at hl 2 rfl) ?_
              refine zm_get hx hb hts hown hE hM hZ.2.1 fl_X6_13_5 rfl dX6_worthOf_51 ?_
              refine lv_iload_n hx hb dX6_worthOf_54 rfl (lv_at hl 3 rfl) ?_
              refine zm_iald hx hb hE hM (hZ.ar 2) (vp_in_nI (show j < 50 by omega) (by decide)) dX6_worthOf_55 ?_
              refine zt_eq (v' := .int (nI (s_sz S j))) (by rw [nI_clamp (by omega)]; exact congrArg Value.int ((hAb.1 j hj).2.1)) ?_
              refine lv_icmp_ge (tgt := 101) hx hb dX6_worthOf_56 (by decide) (fun c56 => ?_) (fun c56 => ?_)
              · have hkk : k = s_sz S j := by have := (nI_leI (by omega) (by omega)).mp c56; omega
                refine lv_lload_n hx hb dX6_worthOf_101 rfl (lv_at hl 1 rfl) ?_
                refine zm_lret hx hb hr hlk hM hS ?_ ⟨Nat.le_refl _, Nat.le_refl _⟩ dX6_worthOf_102
                refine ⟨?_, rfl⟩
                rw [wOf_r2 hv8 hv12, hkk, hg]
              · have hkk : k < s_sz S j := by rw [nI_leI (by omega) (by omega)] at c56; omega
                refine lv_aload_n hx hb dX6_worthOf_59 rfl (lv_at hl 2 rfl) ?_
                refine zm_get hx hb hts hown hE hM hZ.2.1 fl_X6_23_5 rfl dX6_worthOf_60 ?_
                refine lv_iconst (v := 5) hx hb dX6_worthOf_63 (by decide) ?_
                refine lv_iload_n hx hb dX6_worthOf_64 rfl (lv_at hl 3 rfl) ?_
                refine lv_imul hx hb dX6_worthOf_65 ?_
                refine lv_iload hx hb dX6_worthOf_66 (lv_at hl 0 rfl) ?_
                refine lv_iadd hx hb dX6_worthOf_68 ?_
                refine zt_eq (v' := .int (nI (5 * j + k))) (congrArg Value.int (idx5 j k)) ?_
                refine zm_iald hx hb hE hM (hZ.ar 5) (vp_in_nI (show 5 * j + k < 250 by omega) (by decide)) dX6_worthOf_69 ?_
                refine zt_eq (v' := .int (oI (s_th S j k))) (by rw [nI_clamp (by omega)]; exact congrArg Value.int (hAb.2.2.1 j k hj (by omega))) ?_
                refine lv_istore (lv' := [(6, .int (oI (s_th S j k))), (5, .int (nI k)), (3, .long (zsum gg k)), (0, .ref (q 0)), (1, .int (nI j)), (2, .int (nI v))]) hx hb dX6_worthOf_70 hl (by decide) rfl (fun ls hl => ?_)
                refine lv_lload_n hx hb dX6_worthOf_72 rfl (lv_at hl 2 rfl) ?_
                refine lv_iload hx hb dX6_worthOf_73 (lv_at hl 0 rfl) ?_
                refine lv_iconst (v := (-1)) hx hb dX6_worthOf_75 (by decide) ?_
                refine lv_icmp_ne (tgt := 83) hx hb dX6_worthOf_76 (by decide) (fun c76 => ?_) (fun c76 => ?_)
                · obtain ⟨t, hth⟩ := oI_some c76
                  rw [hth] at hl
                  have hl : lv_has ls 7 [(6, .int (nI t)), (5, .int (nI k)), (3, .long (zsum gg k)), (0, .ref (q 0)), (1, .int (nI j)), (2, .int (nI v))] := hl
                  obtain ⟨htn, hga⟩ := hI.2.2.2.1 j hj (by omega) k t hkk hth
                  have ht16 := (hI.2.2.1 t htn).1
                  obtain ⟨hkt, hkt2⟩ := gA_rw _ ht16 _ hk8 hk12 hga
                  have hgk : zsum gg (k + 1) = zsum gg k + wRow S t (inn v) := by show zsum gg k + gg k = _; rw [show gg k = wRow S t (inn v) by rw [hg]; show wAt _ (s_th S j k) = _; rw [hth]; rfl]
                  refine lv_aload_n hx hb dX6_worthOf_83 rfl (lv_at hl 3 rfl) ?_
                  refine lv_iload hx hb dX6_worthOf_84 (lv_at hl 0 rfl) ?_
                  refine lv_iload_n hx hb dX6_worthOf_86 rfl (lv_at hl 5 rfl) ?_
                  refine zm_callS (As := [.int (nI v)]) (rest := [.int (nI t), .ref (q 0), .long (zsum gg k)]) hx hb hml hts hown hE hA hM hS (c_X6_inner l G A _ v (by omega) (by omega)) cd_X6_inner ml_X6_92 rfl rfl hl.1 (Nat.le_of_ble_eq_true rfl) ⟨Nat.le_of_ble_eq_true rfl, Nat.le_of_ble_eq_true rfl⟩ ⟨Nat.le_of_ble_eq_true rfl, Nat.le_of_ble_eq_true rfl⟩ dX6_worthOf_87 ?_
                  rintro r M1 H locs ⟨rfl, e1⟩ hM hS
                  rw [e1] at hM
                  clear e1 M1
                  refine W.eq (g2 := F0 m 90 ls [.int (nI (inn v)), .int (nI t), .ref (q 0), .long (zsum gg k)]) rfl ?_
                  refine zm_callV (As := [.int (nI t), .int (nI (inn v))]) (rest := [.long (zsum gg k)]) hx hb hml hts hown hE hA hM hS hZ.2.1 rfl (c_X6_worthOfRow l G A q S _ t htn (inn v) hkt hkt2 (inn_rw v hv8 hv12).1 (inn_rw v hv8 hv12).2 hI ⟨f, g, hZ, hAb⟩) cd_X6_worthOfRow ml_X6_103 rfl rfl hl.1 (Nat.le_of_ble_eq_true rfl) ⟨Nat.le_of_ble_eq_true rfl, Nat.le_of_ble_eq_true rfl⟩ ⟨Nat.le_of_ble_eq_true rfl, Nat.le_of_ble_eq_true rfl⟩ dX6_worthOf_90 ?_
                  rintro r M1 H locs ⟨rfl, e1⟩ hM hS
                  rw [e1] at hM
                  clear e1 M1
                  refine W.eq (g2 := F0 m 93 ls [.long (wRow S t (inn v)), .long (zsum gg k)]) rfl ?_
                  refine lv_ladd hx hb dX6_worthOf_93 ?_
                  refine lv_lstore_n (lv' := [(3, .long ((zsum gg k) + (wRow S t (inn v)))), (6, .int (nI t)), (5, .int (nI k)), (0, .ref (q 0)), (1, .int (nI j)), (2, .int (nI v))]) hx hb dX6_worthOf_94 rfl hl (by decide) rfl (fun ls hl => ?_)
                  refine lv_iinc (v := nI (k + 1)) (lv' := [(5, .int (nI (k + 1))), (3, .long ((zsum gg k) + (wRow S t (inn v)))), (6, .int (nI t)), (0, .ref (q 0)), (1, .int (nI j)), (2, .int (nI v))]) hx hb dX6_worthOf_95 hl (k := 2) rfl (nI_1 k) (by decide) rfl (fun ls hl => ?_)
                  refine lv_goto (tgt := 48) hx hb dX6_worthOf_98 (by decide) ?_
                  exact ih (k + 1) (by omega) (by omega) ls _ _ hM hS (by rw [hgk]; exact (lv_sub hl [0, 1, 3, 4, 5] rfl))
                · have hth : s_th S j k = none := (oI_m1 (fun t ht => by have := (hI.2.2.2.1 j hj (by omega) k t hkk ht).1; omega)).mp c76
                  have hgk : zsum gg (k + 1) = zsum gg k + 0 := by show zsum gg k + gg k = _; rw [show gg k = 0 by rw [hg]; show wAt _ (s_th S j k) = _; rw [hth]; rfl]
                  refine lv_lconst (v := 0) hx hb dX6_worthOf_79 (by decide) ?_
                  refine lv_goto (tgt := 93) hx hb dX6_worthOf_80 (by decide) ?_
                  refine lv_ladd hx hb dX6_worthOf_93 ?_
                  refine lv_lstore_n (lv' := [(3, .long ((zsum gg k) + 0)), (6, .int (oI (s_th S j k))), (5, .int (nI k)), (0, .ref (q 0)), (1, .int (nI j)), (2, .int (nI v))]) hx hb dX6_worthOf_94 rfl hl (by decide) rfl (fun ls hl => ?_)
                  refine lv_iinc (v := nI (k + 1)) (lv' := [(5, .int (nI (k + 1))), (3, .long ((zsum gg k) + 0)), (6, .int (oI (s_th S j k))), (0, .ref (q 0)), (1, .int (nI j)), (2, .int (nI v))]) hx hb dX6_worthOf_95 hl (k := 2) rfl (nI_1 k) (by decide) rfl (fun ls hl => ?_)
                  refine lv_goto (tgt := 48) hx hb dX6_worthOf_98 (by decide) ?_
                  exact ih (k + 1) (by omega) (by omega) ls _ _ hM hS (by rw [hgk]; exact (lv_sub hl [0, 1, 3, 4, 5] rfl))
          exact loop (s_sz S j + 1) 0 (Nat.zero_le _) (by omega) ls _ _ hM hS (lv_sub hl [0, 1, 2, 3, 4] rfl)
        · rw [show (13 : Int32) = nI 13 from rfl, nI_leI (by omega) (by omega)] at c33
          have hkv := k2 (by omega) (by omega)
          refine lv_aload_n hx hb dX6_worthOf_36 rfl (lv_at hl 0 rfl) ?_
          refine lv_iload_n hx hb dX6_worthOf_37 rfl (lv_at hl 1 rfl) ?_
          refine lv_iload_n hx hb dX6_worthOf_38 rfl (lv_at hl 2 rfl) ?_
          refine zm_callV (As := [.int (nI j), .int (nI v)]) (rest := []) hx hb hml hts hown hE hA hM hS hZ.2.1 rfl (c_X6_worthOfRow l G A q S _ j hj v (by omega) (by omega) (by omega) (by omega) hI ⟨f, g, hZ, hAb⟩) cd_X6_worthOfRow ml_X6_103 rfl rfl hl.1 (Nat.le_of_ble_eq_true rfl) ⟨Nat.le_of_ble_eq_true rfl, Nat.le_of_ble_eq_true rfl⟩ ⟨Nat.le_of_ble_eq_true rfl, Nat.le_of_ble_eq_true rfl⟩ dX6_worthOf_39 ?_
          rintro r M1 H locs ⟨rfl, e1⟩ hM hS
          rw [e1] at hM
          clear e1 M1
          refine W.eq (g2 := F0 m 42 ls [.long (wRow S j v)]) rfl ?_
          refine zm_lret hx hb hr hlk hM hS ?_ ⟨Nat.le_refl _, Nat.le_refl _⟩ dX6_worthOf_42
          exact ⟨by rw [wOf_r1 (by omega) (by omega)], rfl⟩
      · have hv5 : v = 4 ∨ v = 5 ∨ v = 6 ∨ v = 7 ∨ v = 16 := by have := (nI_eq (b := 16) (by omega) (by omega)).mp c20; omega
        refine lv_aload_n hx hb dX6_worthOf_23 rfl (lv_at hl 0 rfl) ?_
        refine lv_iload_n hx hb dX6_worthOf_24 rfl (lv_at hl 1 rfl) ?_
        refine lv_iload_n hx hb dX6_worthOf_25 rfl (lv_at hl 2 rfl) ?_
        refine zm_callV (As := [.int (nI j), .int (nI v)]) (rest := []) hx hb hml hts hown hE hA hM hS hZ.2.1 rfl (c_X6_worthOfOne l G A q S _ j hj v hv5 hI ⟨f, g, hZ, hAb⟩) cd_X6_worthOfOne ml_X6_95 rfl rfl hl.1 (Nat.le_of_ble_eq_true rfl) ⟨Nat.le_of_ble_eq_true rfl, Nat.le_of_ble_eq_true rfl⟩ ⟨Nat.le_of_ble_eq_true rfl, Nat.le_of_ble_eq_true rfl⟩ dX6_worthOf_26 ?_
        rintro r M1 H locs ⟨rfl, e1⟩ hM hS
        rw [e1] at hM
        clear e1 M1
        refine W.eq (g2 := F0 m 29 ls [.long (wOne S j v)]) rfl ?_
        refine zm_lret hx hb hr hlk hM hS ?_ ⟨Nat.le_refl _, Nat.le_refl _⟩ dX6_worthOf_29
        exact ⟨by rw [wOf_pc hv5], rfl⟩
  · rw [show (4 : Int32) = nI 4 from rfl, nI_leI (by omega) (by omega)] at c2
    have hk4 := k1 (by omega)
    refine lv_aload_n hx hb dX6_worthOf_5 rfl (lv_at hl 0 rfl) ?_
    refine lv_iload_n hx hb dX6_worthOf_6 rfl (lv_at hl 1 rfl) ?_
    refine zm_callV (As := [.int (nI j)]) (rest := []) hx hb hml hts hown hE hA hM hS hZ.2.1 rfl (c_X6_worthOfNumbers l G A q S _ j hj hk4 hI ⟨f, g, hZ, hAb⟩) cd_X6_worthOfNumbers ml_X6_99 rfl rfl hl.1 (Nat.le_of_ble_eq_true rfl) ⟨Nat.le_of_ble_eq_true rfl, Nat.le_of_ble_eq_true rfl⟩ ⟨Nat.le_of_ble_eq_true rfl, Nat.le_of_ble_eq_true rfl⟩ dX6_worthOf_7 ?_
    rintro r M1 H locs ⟨rfl, e1⟩ hM hS
    rw [e1] at hM
    clear e1 M1
    refine W.eq (g2 := F0 m 10 ls [.long (zsum (s_nu S j) (many S j))]) rfl ?_
    refine zm_lret hx hb hr hlk hM hS ?_ ⟨Nat.le_refl _, Nat.le_refl _⟩ dX6_worthOf_10
    exact ⟨by rw [wOf_nu (by omega)], rfl⟩
set_option maxRecDepth 100000 in
set_option maxHeartbeats 4000000 in
theorem c_X6_is (l : Launch) (G : zm_G) (A : Nat → Prop) (q : Nat → Nat) (S : zS) (M : zm_M) (p0 x : Int32) (hI : zInv S) (hR : RepR G q S M) : Met l yX6_is (zm_W yX6_is cX6_is 3 (some .int)) (zm_rm 2 0 0) (zm_Pc G [.ref (q 0), .int p0, .int x] A M) (zm_Q G (fun r M' => r = some (.int (sp_is S p0 x)) ∧ M' = M) A) 0 0 A := by
  refine zm_start (by decide) (Nat.le_of_ble_eq_true rfl) ?_
  intro p e s m below meth c hx hb hml hr hts hown hlk hnm hE hA ls hl hM hS
  have hl : lv_has ls 3 [(0, .ref (q 0)), (1, .int p0), (2, .int x)] := hl
  obtain ⟨f, g, hZ, hAb⟩ := hR
  have hnp := hI.1
  have hncc := hI.2.1
  refine lv_aload_n hx hb dX6_is_0 rfl (lv_at hl 0 rfl) ?_
  refine lv_iload_n hx hb dX6_is_1 rfl (lv_at hl 1 rfl) ?_
  refine zm_callV (As := [.int p0]) (rest := []) hx hb hml hts hown hE hA hM hS hZ.2.1 rfl (c_X6_isProp l G A q S _ p0 hI ⟨f, g, hZ, hAb⟩) cd_X6_isProp ml_X6_63 rfl rfl hl.1 (Nat.le_of_ble_eq_true rfl) ⟨Nat.le_of_ble_eq_true rfl, Nat.le_of_ble_eq_true rfl⟩ ⟨Nat.le_of_ble_eq_true rfl, Nat.le_of_ble_eq_true rfl⟩ dX6_is_2 ?_
  rintro r M1 H locs ⟨rfl, e1⟩ hM hS
  rw [e1] at hM
  clear e1 M1
  refine W.eq (g2 := F0 m 5 ls [.int (bI (ix (s_np S) p0).isSome)]) rfl ?_
  refine lv_if_eq (tgt := 15) hx hb dX6_is_5 (by decide) (fun c5 => ?_) (fun c5 => ?_)
  · rw [bI_0] at c5
    have hix := isS_f c5
    refine lv_bipush (v := (-2)) hx hb dX6_is_15 (by decide) ?_
    refine lv_goto (tgt := 38) hx hb dX6_is_17 (by decide) ?_
    refine zm_iret hx hb hr hlk hM hS ?_ ⟨Nat.le_refl _, Nat.le_refl _⟩ dX6_is_38
    refine ⟨?_, rfl⟩
    unfold sp_is
    first | (rw [hix, hiv]; show some (Value.int _) = some (Value.int (bI (gA (s_kd S j) v))); rw [c30]; rfl) | (rw [hix, hiv]; done) | (rw [hix]; done)
  · rw [bI_n] at c5
    obtain ⟨j, hix⟩ := isS_t c5
    obtain ⟨hj, rfl⟩ := ix_some (by omega) hix
    refine lv_iload_n hx hb dX6_is_8 rfl (lv_at hl 2 rfl) ?_
    refine zm_callS (As := [.int x]) (rest := []) hx hb hml hts hown hE hA hM hS (c_X6_isView l G A _ x) cd_X6_isView ml_X6_77 rfl rfl hl.1 (Nat.le_of_ble_eq_true rfl) ⟨Nat.le_of_ble_eq_true rfl, Nat.le_of_ble_eq_true rfl⟩ ⟨Nat.le_of_ble_eq_true rfl, Nat.le_of_ble_eq_true rfl⟩ dX6_is_9 ?_
    rintro r M1 H locs ⟨rfl, e1⟩ hM hS
    rw [e1] at hM
    clear e1 M1
    refine W.eq (g2 := F0 m 12 ls [.int (bI ((ix 17 x).isSome))]) rfl ?_
    refine lv_if_ne (tgt := 20) hx hb dX6_is_12 (by decide) (fun c12 => ?_) (fun c12 => ?_)
    · rw [bI_n] at c12
      obtain ⟨v, hiv⟩ := isS_t c12
      obtain ⟨hv, rfl⟩ := ix_some (by omega) hiv
      refine lv_aload_n hx hb dX6_is_20 rfl (lv_at hl 0 rfl) ?_
      refine zm_get hx hb hts hown hE hM hZ.2.1 fl_X6_7_5 rfl dX6_is_21 ?_
      refine lv_iload_n hx hb dX6_is_24 rfl (lv_at hl 1 rfl) ?_
      refine zm_iald hx hb hE hM (hZ.ar 1) (vp_in_nI (show j < 50 by omega) (by decide)) dX6_is_25 ?_
      refine zt_eq (v' := .int (nI (s_kd S j))) (by rw [nI_clamp (by omega)]; exact congrArg Value.int ((hAb.1 j hj).1)) ?_
      refine lv_iload_n hx hb dX6_is_26 rfl (lv_at hl 2 rfl) ?_
      refine zm_callS (As := [.int (nI (s_kd S j)), .int (nI v)]) (rest := []) hx hb hml hts hown hE hA hM hS (c_X6_goesAs l G A _ (s_kd S j) v ((hI.2.2.1 j hj).1) (hv)) cd_X6_goesAs ml_X6_55 rfl rfl hl.1 (Nat.le_of_ble_eq_true rfl) ⟨Nat.le_of_ble_eq_true rfl, Nat.le_of_ble_eq_true rfl⟩ ⟨Nat.le_of_ble_eq_true rfl, Nat.le_of_ble_eq_true rfl⟩ dX6_is_27 ?_
      rintro r M1 H locs ⟨rfl, e1⟩ hM hS
      rw [e1] at hM
      clear e1 M1
      refine W.eq (g2 := F0 m 30 ls [.int (bI (gA (s_kd S j) v))]) rfl ?_
      refine lv_if_eq (tgt := 37) hx hb dX6_is_30 (by decide) (fun c30 => ?_) (fun c30 => ?_)
      · rw [bI_0] at c30
        refine lv_iconst (v := 0) hx hb dX6_is_37 (by decide) ?_
        refine zm_iret hx hb hr hlk hM hS ?_ ⟨Nat.le_refl _, Nat.le_refl _⟩ dX6_is_38
        refine ⟨?_, rfl⟩
        unfold sp_is
        first | (rw [hix, hiv]; show some (Value.int _) = some (Value.int (bI (gA (s_kd S j) v))); rw [c30]; rfl) | (rw [hix, hiv]; done) | (rw [hix]; done)
      · rw [bI_n] at c30
        refine lv_iconst (v := 1) hx hb dX6_is_33 (by decide) ?_
        refine lv_goto (tgt := 38) hx hb dX6_is_34 (by decide) ?_
        refine zm_iret hx hb hr hlk hM hS ?_ ⟨Nat.le_refl _, Nat.le_refl _⟩ dX6_is_38
        refine ⟨?_, rfl⟩
        unfold sp_is
        first | (rw [hix, hiv]; show some (Value.int _) = some (Value.int (bI (gA (s_kd S j) v))); rw [c30]; rfl) | (rw [hix, hiv]; done) | (rw [hix]; done)
    · rw [bI_0] at c12
      have hiv := isS_f c12
      refine lv_bipush (v := (-2)) hx hb dX6_is_15 (by decide) ?_
      refine lv_goto (tgt := 38) hx hb dX6_is_17 (by decide) ?_
      refine zm_iret hx hb hr hlk hM hS ?_ ⟨Nat.le_refl _, Nat.le_refl _⟩ dX6_is_38
      refine ⟨?_, rfl⟩
      unfold sp_is
      first | (rw [hix, hiv]; show some (Value.int _) = some (Value.int (bI (gA (s_kd S j) v))); rw [c30]; rfl) | (rw [hix, hiv]; done) | (rw [hix]; done)
set_option maxRecDepth 100000 in
set_option maxHeartbeats 4000000 in
theorem c_X6_worth (l : Launch) (G : zm_G) (A : Nat → Prop) (q : Nat → Nat) (S : zS) (M : zm_M) (p0 x : Int32) (hI : zInv S) (hR : RepR G q S M) : Met l yX6_worth (zm_W yX6_worth cX6_worth 3 (some .long)) (zm_rm 3 0 0) (zm_Pc G [.ref (q 0), .int p0, .int x] A M) (zm_Q G (fun r M' => r = some (.long (sp_worth S p0 x)) ∧ M' = M) A) 0 0 A := by
  refine zm_start (by decide) (Nat.le_of_ble_eq_true rfl) ?_
  intro p e s m below meth c hx hb hml hr hts hown hlk hnm hE hA ls hl hM hS
  have hl : lv_has ls 3 [(0, .ref (q 0)), (1, .int p0), (2, .int x)] := hl
  obtain ⟨f, g, hZ, hAb⟩ := hR
  have hnp := hI.1
  have hncc := hI.2.1
  refine lv_aload_n hx hb dX6_worth_0 rfl (lv_at hl 0 rfl) ?_
  refine lv_iload_n hx hb dX6_worth_1 rfl (lv_at hl 1 rfl) ?_
  refine zm_callV (As := [.int p0]) (rest := []) hx hb hml hts hown hE hA hM hS hZ.2.1 rfl (c_X6_isProp l G A q S _ p0 hI ⟨f, g, hZ, hAb⟩) cd_X6_isProp ml_X6_63 rfl rfl hl.1 (Nat.le_of_ble_eq_true rfl) ⟨Nat.le_of_ble_eq_true rfl, Nat.le_of_ble_eq_true rfl⟩ ⟨Nat.le_of_ble_eq_true rfl, Nat.le_of_ble_eq_true rfl⟩ dX6_worth_2 ?_
  rintro r M1 H locs ⟨rfl, e1⟩ hM hS
  rw [e1] at hM
  clear e1 M1
  refine W.eq (g2 := F0 m 5 ls [.int (bI (ix (s_np S) p0).isSome)]) rfl ?_
  refine lv_if_eq (tgt := 37) hx hb dX6_worth_5 (by decide) (fun c5 => ?_) (fun c5 => ?_)
  · rw [bI_0] at c5
    have hix := isS_f c5
    refine lv_lconst (v := 0) hx hb dX6_worth_37 (by decide) ?_
    refine zm_lret hx hb hr hlk hM hS ?_ ⟨Nat.le_refl _, Nat.le_refl _⟩ dX6_worth_38
    refine ⟨?_, rfl⟩
    unfold sp_worth
    first | (rw [hix, hiv]; show some (Value.long _) = some (Value.long (if gA (s_kd S j) v = true then wOf S j v else 0)); first | (rw [if_pos c25]; done) | (rw [if_neg (by rw [c25]; decide)]; done)) | (rw [hix, hiv]; done) | (rw [hix]; done)
  · rw [bI_n] at c5
    obtain ⟨j, hix⟩ := isS_t c5
    obtain ⟨hj, rfl⟩ := ix_some (by omega) hix
    refine lv_iload_n hx hb dX6_worth_8 rfl (lv_at hl 2 rfl) ?_
    refine zm_callS (As := [.int x]) (rest := []) hx hb hml hts hown hE hA hM hS (c_X6_isView l G A _ x) cd_X6_isView ml_X6_77 rfl rfl hl.1 (Nat.le_of_ble_eq_true rfl) ⟨Nat.le_of_ble_eq_true rfl, Nat.le_of_ble_eq_true rfl⟩ ⟨Nat.le_of_ble_eq_true rfl, Nat.le_of_ble_eq_true rfl⟩ dX6_worth_9 ?_
    rintro r M1 H locs ⟨rfl, e1⟩ hM hS
    rw [e1] at hM
    clear e1 M1
    refine W.eq (g2 := F0 m 12 ls [.int (bI ((ix 17 x).isSome))]) rfl ?_
    refine lv_if_eq (tgt := 37) hx hb dX6_worth_12 (by decide) (fun c12 => ?_) (fun c12 => ?_)
    · rw [bI_0] at c12
      have hiv := isS_f c12
      refine lv_lconst (v := 0) hx hb dX6_worth_37 (by decide) ?_
      refine zm_lret hx hb hr hlk hM hS ?_ ⟨Nat.le_refl _, Nat.le_refl _⟩ dX6_worth_38
      refine ⟨?_, rfl⟩
      unfold sp_worth
      first | (rw [hix, hiv]; show some (Value.long _) = some (Value.long (if gA (s_kd S j) v = true then wOf S j v else 0)); first | (rw [if_pos c25]; done) | (rw [if_neg (by rw [c25]; decide)]; done)) | (rw [hix, hiv]; done) | (rw [hix]; done)
    · rw [bI_n] at c12
      obtain ⟨v, hiv⟩ := isS_t c12
      obtain ⟨hv, rfl⟩ := ix_some (by omega) hiv
      refine lv_aload_n hx hb dX6_worth_15 rfl (lv_at hl 0 rfl) ?_
      refine zm_get hx hb hts hown hE hM hZ.2.1 fl_X6_7_5 rfl dX6_worth_16 ?_
      refine lv_iload_n hx hb dX6_worth_19 rfl (lv_at hl 1 rfl) ?_
      refine zm_iald hx hb hE hM (hZ.ar 1) (vp_in_nI (show j < 50 by omega) (by decide)) dX6_worth_20 ?_
      refine zt_eq (v' := .int (nI (s_kd S j))) (by rw [nI_clamp (by omega)]; exact congrArg Value.int ((hAb.1 j hj).1)) ?_
      refine lv_iload_n hx hb dX6_worth_21 rfl (lv_at hl 2 rfl) ?_
      refine zm_callS (As := [.int (nI (s_kd S j)), .int (nI v)]) (rest := []) hx hb hml hts hown hE hA hM hS (c_X6_goesAs l G A _ (s_kd S j) v ((hI.2.2.1 j hj).1) (hv)) cd_X6_goesAs ml_X6_55 rfl rfl hl.1 (Nat.le_of_ble_eq_true rfl) ⟨Nat.le_of_ble_eq_true rfl, Nat.le_of_ble_eq_true rfl⟩ ⟨Nat.le_of_ble_eq_true rfl, Nat.le_of_ble_eq_true rfl⟩ dX6_worth_22 ?_
      rintro r M1 H locs ⟨rfl, e1⟩ hM hS
      rw [e1] at hM
      clear e1 M1
      refine W.eq (g2 := F0 m 25 ls [.int (bI (gA (s_kd S j) v))]) rfl ?_
      refine lv_if_eq (tgt := 37) hx hb dX6_worth_25 (by decide) (fun c25 => ?_) (fun c25 => ?_)
      · rw [bI_0] at c25
        refine lv_lconst (v := 0) hx hb dX6_worth_37 (by decide) ?_
        refine zm_lret hx hb hr hlk hM hS ?_ ⟨Nat.le_refl _, Nat.le_refl _⟩ dX6_worth_38
        refine ⟨?_, rfl⟩
        unfold sp_worth
        first | (rw [hix, hiv]; show some (Value.long _) = some (Value.long (if gA (s_kd S j) v = true then wOf S j v else 0)); first | (rw [if_pos c25]; done) | (rw [if_neg (by rw [c25]; decide)]; done)) | (rw [hix, hiv]; done) | (rw [hix]; done)
      · rw [bI_n] at c25
        refine lv_aload_n hx hb dX6_worth_28 rfl (lv_at hl 0 rfl) ?_
        refine lv_iload_n hx hb dX6_worth_29 rfl (lv_at hl 1 rfl) ?_
        refine lv_iload_n hx hb dX6_worth_30 rfl (lv_at hl 2 rfl) ?_
        refine zm_callV (As := [.int (nI j), .int (nI v)]) (rest := []) hx hb hml hts hown hE hA hM hS hZ.2.1 rfl (c_X6_worthOf l G A q S _ j hj v hv c25 hI ⟨f, g, hZ, hAb⟩) cd_X6_worthOf ml_X6_117 rfl rfl hl.1 (Nat.le_of_ble_eq_true rfl) ⟨Nat.le_of_ble_eq_true rfl, Nat.le_of_ble_eq_true rfl⟩ ⟨Nat.le_of_ble_eq_true rfl, Nat.le_of_ble_eq_true rfl⟩ dX6_worth_31 ?_
        rintro r M1 H locs ⟨rfl, e1⟩ hM hS
        rw [e1] at hM
        clear e1 M1
        refine W.eq (g2 := F0 m 34 ls [.long (wOf S j v)]) rfl ?_
        refine lv_goto (tgt := 38) hx hb dX6_worth_34 (by decide) ?_
        refine zm_lret hx hb hr hlk hM hS ?_ ⟨Nat.le_refl _, Nat.le_refl _⟩ dX6_worth_38
        refine ⟨?_, rfl⟩
        unfold sp_worth
        first | (rw [hix, hiv]; show some (Value.long _) = some (Value.long (if gA (s_kd S j) v = true then wOf S j v else 0)); first | (rw [if_pos c25]; done) | (rw [if_neg (by rw [c25]; decide)]; done)) | (rw [hix, hiv]; done) | (rw [hix]; done)
set_option maxRecDepth 100000 in
set_option maxHeartbeats 4000000 in
theorem c_X6_wear (l : Launch) (G : zm_G) (A : Nat → Prop) (q : Nat → Nat) (S : zS) (M : zm_M) (p0 : Int32) (hI : zInv S) (hR : RepR G q S M) : Met l yX6_wear (zm_W yX6_wear cX6_wear 2 (some .int)) (zm_rm 2 0 0) (zm_Pc G [.ref (q 0), .int p0] A M) (zm_Q G (fun r M' => r = some (.int (sp_wear S p0)) ∧ M' = M) A) 0 0 A := by
  refine zm_start (by decide) (Nat.le_of_ble_eq_true rfl) ?_
  intro p e s m below meth c hx hb hml hr hts hown hlk hnm hE hA ls hl hM hS
  have hl : lv_has ls 2 [(0, .ref (q 0)), (1, .int p0)] := hl
  obtain ⟨f, g, hZ, hAb⟩ := hR
  have hnp := hI.1
  have hncc := hI.2.1
  refine lv_aload_n hx hb dX6_wear_0 rfl (lv_at hl 0 rfl) ?_
  refine lv_iload_n hx hb dX6_wear_1 rfl (lv_at hl 1 rfl) ?_
  refine zm_callV (As := [.int p0]) (rest := []) hx hb hml hts hown hE hA hM hS hZ.2.1 rfl (c_X6_isProp l G A q S _ p0 hI ⟨f, g, hZ, hAb⟩) cd_X6_isProp ml_X6_63 rfl rfl hl.1 (Nat.le_of_ble_eq_true rfl) ⟨Nat.le_of_ble_eq_true rfl, Nat.le_of_ble_eq_true rfl⟩ ⟨Nat.le_of_ble_eq_true rfl, Nat.le_of_ble_eq_true rfl⟩ dX6_wear_2 ?_
  rintro r M1 H locs ⟨rfl, e1⟩ hM hS
  rw [e1] at hM
  clear e1 M1
  refine W.eq (g2 := F0 m 5 ls [.int (bI (ix (s_np S) p0).isSome)]) rfl ?_
  refine lv_if_ne (tgt := 13) hx hb dX6_wear_5 (by decide) (fun c5 => ?_) (fun c5 => ?_)
  · rw [bI_n] at c5
    obtain ⟨j, hix⟩ := isS_t c5
    obtain ⟨hj, rfl⟩ := ix_some (by omega) hix
    refine lv_aload_n hx hb dX6_wear_13 rfl (lv_at hl 0 rfl) ?_
    refine zm_get hx hb hts hown hE hM hZ.2.1 fl_X6_7_5 rfl dX6_wear_14 ?_
    refine lv_iload_n hx hb dX6_wear_17 rfl (lv_at hl 1 rfl) ?_
    refine zm_iald hx hb hE hM (hZ.ar 1) (vp_in_nI (show j < 50 by omega) (by decide)) dX6_wear_18 ?_
    refine zt_eq (v' := .int (nI (s_kd S j))) (by rw [nI_clamp (by omega)]; exact congrArg Value.int ((hAb.1 j hj).1)) ?_
    refine lv_iconst (v := 4) hx hb dX6_wear_19 (by decide) ?_
    refine lv_bipush (v := 6) hx hb dX6_wear_20 (by decide) ?_
    refine zm_callS (As := [.int (nI (s_kd S j)), .int 4, .int 6]) (rest := []) hx hb hml hts hown hE hA hM hS (c_X6_isIn l G A _ (nI (s_kd S j)) 4 6) cd_X6_isIn ml_X6_51 rfl rfl hl.1 (Nat.le_of_ble_eq_true rfl) ⟨Nat.le_of_ble_eq_true rfl, Nat.le_of_ble_eq_true rfl⟩ ⟨Nat.le_of_ble_eq_true rfl, Nat.le_of_ble_eq_true rfl⟩ dX6_wear_22 ?_
    rintro r M1 H locs ⟨rfl, e1⟩ hM hS
    rw [e1] at hM
    clear e1 M1
    refine W.eq (g2 := F0 m 25 ls [.int (bI (zbt 4 6 (nI (s_kd S j))))]) rfl ?_
    refine lv_if_eq (tgt := 37) hx hb dX6_wear_25 (by decide) (fun c25 => ?_) (fun c25 => ?_)
    · have h16 := (hI.2.2.1 j hj).1
      rw [show zbt 4 6 (nI (s_kd S j)) = (decide (4 ≤ s_kd S j) && decide (s_kd S j ≤ 6)) from zbt_n (a := 4) (b := 6) (by decide) (by decide) (by omega), bI_0] at c25
      have hk : ¬ (4 ≤ s_kd S j ∧ s_kd S j ≤ 6) := by simpa using c25
      refine lv_bipush (v := (-5)) hx hb dX6_wear_37 (by decide) ?_
      refine zm_iret hx hb hr hlk hM hS ?_ ⟨Nat.le_refl _, Nat.le_refl _⟩ dX6_wear_39
      refine ⟨?_, rfl⟩
      unfold sp_wear
      first | (rw [hix]; show some (Value.int _) = some (Value.int (if 4 ≤ s_kd S j ∧ s_kd S j ≤ 6 then s_wr S j else -5)); first | (rw [if_pos hk]; done) | (rw [if_neg hk]; done)) | (rw [hix]; done)
    · have h16 := (hI.2.2.1 j hj).1
      rw [show zbt 4 6 (nI (s_kd S j)) = (decide (4 ≤ s_kd S j) && decide (s_kd S j ≤ 6)) from zbt_n (a := 4) (b := 6) (by decide) (by decide) (by omega), bI_n] at c25
      have hk : 4 ≤ s_kd S j ∧ s_kd S j ≤ 6 := by simpa using c25
      refine lv_aload_n hx hb dX6_wear_28 rfl (lv_at hl 0 rfl) ?_
      refine zm_get hx hb hts hown hE hM hZ.2.1 fl_X6_16_5 rfl dX6_wear_29 ?_
      refine lv_iload_n hx hb dX6_wear_32 rfl (lv_at hl 1 rfl) ?_
      refine zm_iald hx hb hE hM (hZ.ar 3) (vp_in_nI (show j < 50 by omega) (by decide)) dX6_wear_33 ?_
      refine zt_eq (v' := .int (s_wr S j)) (by rw [nI_clamp (by omega)]; exact congrArg Value.int ((hAb.1 j hj).2.2)) ?_
      refine lv_goto (tgt := 39) hx hb dX6_wear_34 (by decide) ?_
      refine zm_iret hx hb hr hlk hM hS ?_ ⟨Nat.le_refl _, Nat.le_refl _⟩ dX6_wear_39
      refine ⟨?_, rfl⟩
      unfold sp_wear
      first | (rw [hix]; show some (Value.int _) = some (Value.int (if 4 ≤ s_kd S j ∧ s_kd S j ≤ 6 then s_wr S j else -5)); first | (rw [if_pos hk]; done) | (rw [if_neg hk]; done)) | (rw [hix]; done)
  · rw [bI_0] at c5
    have hix := isS_f c5
    refine lv_bipush (v := (-2)) hx hb dX6_wear_8 (by decide) ?_
    refine lv_goto (tgt := 39) hx hb dX6_wear_10 (by decide) ?_
    refine zm_iret hx hb hr hlk hM hS ?_ ⟨Nat.le_refl _, Nat.le_refl _⟩ dX6_wear_39
    refine ⟨?_, rfl⟩
    unfold sp_wear
    first | (rw [hix]; show some (Value.int _) = some (Value.int (if 4 ≤ s_kd S j ∧ s_kd S j ≤ 6 then s_wr S j else -5)); first | (rw [if_pos hk]; done) | (rw [if_neg hk]; done)) | (rw [hix]; done)
set_option maxRecDepth 100000 in
set_option maxHeartbeats 4000000 in
theorem c_X6_at (l : Launch) (G : zm_G) (A : Nat → Prop) (q : Nat → Nat) (S : zS) (M : zm_M) (p0 i : Int32) (hI : zInv S) (hR : RepR G q S M) : Met l yX6_at (zm_W yX6_at cX6_at 3 (some .int)) (zm_rm 2 0 0) (zm_Pc G [.ref (q 0), .int p0, .int i] A M) (zm_Q G (fun r M' => r = some (.int (sp_at S p0 i)) ∧ M' = M) A) 0 0 A := by
  refine zm_start (by decide) (Nat.le_of_ble_eq_true rfl) ?_
  intro p e s m below meth c hx hb hml hr hts hown hlk hnm hE hA ls hl hM hS
  have hl : lv_has ls 3 [(0, .ref (q 0)), (1, .int p0), (2, .int i)] := hl
  obtain ⟨f, g, hZ, hAb⟩ := hR
  have hnp := hI.1
  have hncc := hI.2.1
  refine lv_aload_n hx hb dX6_at_0 rfl (lv_at hl 0 rfl) ?_
  refine lv_iload_n hx hb dX6_at_1 rfl (lv_at hl 1 rfl) ?_
  refine zm_callV (As := [.int p0]) (rest := []) hx hb hml hts hown hE hA hM hS hZ.2.1 rfl (c_X6_isProp l G A q S _ p0 hI ⟨f, g, hZ, hAb⟩) cd_X6_isProp ml_X6_63 rfl rfl hl.1 (Nat.le_of_ble_eq_true rfl) ⟨Nat.le_of_ble_eq_true rfl, Nat.le_of_ble_eq_true rfl⟩ ⟨Nat.le_of_ble_eq_true rfl, Nat.le_of_ble_eq_true rfl⟩ dX6_at_2 ?_
  rintro r M1 H locs ⟨rfl, e1⟩ hM hS
  rw [e1] at hM
  clear e1 M1
  refine W.eq (g2 := F0 m 5 ls [.int (bI (ix (s_np S) p0).isSome)]) rfl ?_
  refine lv_if_ne (tgt := 11) hx hb dX6_at_5 (by decide) (fun c5 => ?_) (fun c5 => ?_)
  · rw [bI_n] at c5
    obtain ⟨j, hix⟩ := isS_t c5
    obtain ⟨hj, rfl⟩ := ix_some (by omega) hix
    refine lv_aload_n hx hb dX6_at_11 rfl (lv_at hl 0 rfl) ?_
    refine zm_get hx hb hts hown hE hM hZ.2.1 fl_X6_7_5 rfl dX6_at_12 ?_
    refine lv_iload_n hx hb dX6_at_15 rfl (lv_at hl 1 rfl) ?_
    refine zm_iald hx hb hE hM (hZ.ar 1) (vp_in_nI (show j < 50 by omega) (by decide)) dX6_at_16 ?_
    refine zt_eq (v' := .int (nI (s_kd S j))) (by rw [nI_clamp (by omega)]; exact congrArg Value.int ((hAb.1 j hj).1)) ?_
    refine zm_callS (As := [.int (nI (s_kd S j))]) (rest := []) hx hb hml hts hown hE hA hM hS (c_X6_isRow l G A _ (nI (s_kd S j))) cd_X6_isRow ml_X6_74 rfl rfl hl.1 (Nat.le_of_ble_eq_true rfl) ⟨Nat.le_of_ble_eq_true rfl, Nat.le_of_ble_eq_true rfl⟩ ⟨Nat.le_of_ble_eq_true rfl, Nat.le_of_ble_eq_true rfl⟩ dX6_at_17 ?_
    rintro r M1 H locs ⟨rfl, e1⟩ hM hS
    rw [e1] at hM
    clear e1 M1
    refine W.eq (g2 := F0 m 20 ls [.int (bI (zbt 8 15 (nI (s_kd S j))))]) rfl ?_
    refine lv_if_ne (tgt := 26) hx hb dX6_at_20 (by decide) (fun c20 => ?_) (fun c20 => ?_)
    · have h16 := (hI.2.2.1 j hj).1
      rw [zbt_rw _ (by omega), bI_n] at c20
      have h5 := hI.sz5 hj (rw_pc c20)
      refine lv_iload_n hx hb dX6_at_26 rfl (lv_at hl 2 rfl) ?_
      refine lv_iconst (v := 0) hx hb dX6_at_27 (by decide) ?_
      refine lv_aload_n hx hb dX6_at_28 rfl (lv_at hl 0 rfl) ?_
      refine zm_get hx hb hts hown hE hM hZ.2.1 fl_X6_13_5 rfl dX6_at_29 ?_
      refine lv_iload_n hx hb dX6_at_32 rfl (lv_at hl 1 rfl) ?_
      refine zm_iald hx hb hE hM (hZ.ar 2) (vp_in_nI (show j < 50 by omega) (by decide)) dX6_at_33 ?_
      refine zt_eq (v' := .int (nI (s_sz S j))) (by rw [nI_clamp (by omega)]; exact congrArg Value.int ((hAb.1 j hj).2.1)) ?_
      refine lv_iconst (v := 1) hx hb dX6_at_34 (by decide) ?_
      refine lv_isub hx hb dX6_at_35 ?_
      refine zm_callS (As := [.int i, .int 0, .int ((nI (s_sz S j)) - 1)]) (rest := []) hx hb hml hts hown hE hA hM hS (c_X6_isIn l G A _ i 0 ((nI (s_sz S j)) - 1)) cd_X6_isIn ml_X6_51 rfl rfl hl.1 (Nat.le_of_ble_eq_true rfl) ⟨Nat.le_of_ble_eq_true rfl, Nat.le_of_ble_eq_true rfl⟩ ⟨Nat.le_of_ble_eq_true rfl, Nat.le_of_ble_eq_true rfl⟩ dX6_at_36 ?_
      rintro r M1 H locs ⟨rfl, e1⟩ hM hS
      rw [e1] at hM
      clear e1 M1
      refine W.eq (g2 := F0 m 39 ls [.int (bI (zbt 0 ((nI (s_sz S j)) - 1) i))]) rfl ?_
      refine lv_if_eq (tgt := 55) hx hb dX6_at_39 (by decide) (fun c39 => ?_) (fun c39 => ?_)
      · rw [zbt_np (by omega), bI_0] at c39
        have hii := isS_f c39
        refine lv_bipush (v := (-6)) hx hb dX6_at_55 (by decide) ?_
        refine zm_iret hx hb hr hlk hM hS ?_ ⟨Nat.le_refl _, Nat.le_refl _⟩ dX6_at_57
        refine ⟨?_, rfl⟩
        unfold sp_at
        rw [hix]
        simp only [if_pos c20]
        rw [hii]
      · rw [zbt_np (by omega), bI_n] at c39
        obtain ⟨ii, hii⟩ := isS_t c39
        obtain ⟨hi, rfl⟩ := ix_some (by omega) hii
        refine lv_aload_n hx hb dX6_at_42 rfl (lv_at hl 0 rfl) ?_
        refine zm_get hx hb hts hown hE hM hZ.2.1 fl_X6_23_5 rfl dX6_at_43 ?_
        refine lv_iconst (v := 5) hx hb dX6_at_46 (by decide) ?_
        refine lv_iload_n hx hb dX6_at_47 rfl (lv_at hl 1 rfl) ?_
        refine lv_imul hx hb dX6_at_48 ?_
        refine lv_iload_n hx hb dX6_at_49 rfl (lv_at hl 2 rfl) ?_
        refine lv_iadd hx hb dX6_at_50 ?_
        refine zt_eq (v' := .int (nI (5 * j + ii))) (congrArg Value.int (idx5 j ii)) ?_
        refine zm_iald hx hb hE hM (hZ.ar 5) (vp_in_nI (show 5 * j + ii < 250 by omega) (by decide)) dX6_at_51 ?_
        refine zt_eq (v' := .int (oI (s_th S j ii))) (by rw [nI_clamp (by omega)]; exact congrArg Value.int (hAb.2.2.1 j ii hj (by omega))) ?_
        refine lv_goto (tgt := 57) hx hb dX6_at_52 (by decide) ?_
        refine zm_iret hx hb hr hlk hM hS ?_ ⟨Nat.le_refl _, Nat.le_refl _⟩ dX6_at_57
        refine ⟨?_, rfl⟩
        unfold sp_at
        rw [hix]
        simp only [if_pos c20]
        rw [hii]
    · have h16 := (hI.2.2.1 j hj).1
      rw [zbt_rw _ (by omega), bI_0] at c20
      refine lv_bipush (v := (-5)) hx hb dX6_at_23 (by decide) ?_
      refine zm_iret hx hb hr hlk hM hS ?_ ⟨Nat.le_refl _, Nat.le_refl _⟩ dX6_at_25
      refine ⟨?_, rfl⟩
      unfold sp_at
      rw [hix]
      simp only [c20, Bool.false_eq_true, if_false]
  · rw [bI_0] at c5
    have hix := isS_f c5
    refine lv_bipush (v := (-2)) hx hb dX6_at_8 (by decide) ?_
    refine zm_iret hx hb hr hlk hM hS ?_ ⟨Nat.le_refl _, Nat.le_refl _⟩ dX6_at_10
    refine ⟨?_, rfl⟩
    unfold sp_at
    rw [hix]
