set_option maxRecDepth 100000 in
set_option maxHeartbeats 4000000 in
theorem c_X2_worthBy (l : Launch) (G : zm_G) (A : Nat → Prop) (B : zB) (S : zS) (M : zm_M) (j v : Nat) (hI : zInv S) (hR : RepC G B S M) (hj : j < s_np S) (hk : isPc (s_kd S j) = true) (hv : v = 4 ∨ v = 5 ∨ v = 6 ∨ v = 7 ∨ v = 16) : Met l yX2_worthBy (zm_W yX2_worthBy cX2_worthBy 2 (some .long)) (zm_rm 0 0 0) (zm_Pc G [.ref (B.2.1 j), .int (nI v)] A M) (zm_Q G (fun r M' => r = some (.long (wOne S j v)) ∧ M' = M) A) 0 0 A := by
  refine zm_start (by decide) (Nat.le_of_ble_eq_true rfl) ?_
  intro p e s m below meth c hx hb hml hr hts hown hlk hnm hE hA ls hl hM hS
  have hl : lv_has ls 2 [(0, .ref (B.2.1 j)), (1, .int (nI v))] := hl
  have hc := hR.2.2.2.2.2.1 j hj
  rw [pcell_pc hk] at hc
  refine lv_iload_n hx hb dX2_worthBy_0 rfl (lv_at hl 1 rfl) ?_
  rcases hv with rfl | rfl | rfl | rfl | rfl
  · refine lv_tableIn (off := 67) (tgt := 68) hx hb dX2_worthBy_1 (by decide) (by decide) rfl (by decide) ?_
    refine lv_aload_n hx hb dX2_worthBy_68 rfl (lv_at hl 0 rfl) ?_
    refine zm_get hx hb hts hown hE hM hc fl_X2_9_2 rfl dX2_worthBy_69 ?_
    refine lv_i2l hx hb dX2_worthBy_72 rfl ?_
    refine lv_aload_n hx hb dX2_worthBy_73 rfl (lv_at hl 0 rfl) ?_
    refine zm_get hx hb hts hown hE hM hc fl_X2_15_2 rfl dX2_worthBy_74 ?_
    refine lv_i2l hx hb dX2_worthBy_77 rfl ?_
    refine lv_ladd hx hb dX2_worthBy_78 ?_
    refine zm_lret hx hb hr hlk hM hS ?_ ⟨Nat.le_refl _, Nat.le_refl _⟩ dX2_worthBy_79
    exact ⟨rfl, rfl⟩
  · refine lv_tableIn (off := 79) (tgt := 80) hx hb dX2_worthBy_1 (by decide) (by decide) rfl (by decide) ?_
    refine lv_ldc2 (v := 2) hx hb hown (hts _ cst_X2_18) dX2_worthBy_80 ?_
    refine lv_aload_n hx hb dX2_worthBy_83 rfl (lv_at hl 0 rfl) ?_
    refine zm_get hx hb hts hown hE hM hc fl_X2_15_2 rfl dX2_worthBy_84 ?_
    refine lv_i2l hx hb dX2_worthBy_87 rfl ?_
    refine lv_lmul hx hb dX2_worthBy_88 ?_
    refine zm_lret hx hb hr hlk hM hS ?_ ⟨Nat.le_refl _, Nat.le_refl _⟩ dX2_worthBy_89
    exact ⟨rfl, rfl⟩
  · refine lv_tableIn (off := 89) (tgt := 90) hx hb dX2_worthBy_1 (by decide) (by decide) rfl (by decide) ?_
    refine lv_ldc2 (v := 3) hx hb hown (hts _ cst_X2_20) dX2_worthBy_90 ?_
    refine lv_aload_n hx hb dX2_worthBy_93 rfl (lv_at hl 0 rfl) ?_
    refine zm_get hx hb hts hown hE hM hc fl_X2_9_2 rfl dX2_worthBy_94 ?_
    refine lv_i2l hx hb dX2_worthBy_97 rfl ?_
    refine lv_lmul hx hb dX2_worthBy_98 ?_
    refine zm_lret hx hb hr hlk hM hS ?_ ⟨Nat.le_refl _, Nat.le_refl _⟩ dX2_worthBy_99
    exact ⟨rfl, rfl⟩
  · refine lv_tableIn (off := 99) (tgt := 100) hx hb dX2_worthBy_1 (by decide) (by decide) rfl (by decide) ?_
    refine lv_aload_n hx hb dX2_worthBy_100 rfl (lv_at hl 0 rfl) ?_
    refine zm_get hx hb hts hown hE hM hc fl_X2_9_2 rfl dX2_worthBy_101 ?_
    refine lv_i2l hx hb dX2_worthBy_104 rfl ?_
    refine zm_lret hx hb hr hlk hM hS ?_ ⟨Nat.le_refl _, Nat.le_refl _⟩ dX2_worthBy_105
    exact ⟨rfl, rfl⟩
  · refine lv_tableIn (off := 105) (tgt := 106) hx hb dX2_worthBy_1 (by decide) (by decide) rfl (by decide) ?_
    refine lv_aload_n hx hb dX2_worthBy_106 rfl (lv_at hl 0 rfl) ?_
    refine zm_get hx hb hts hown hE hM hc fl_X2_22_2 rfl dX2_worthBy_107 ?_
    refine lv_bipush (v := 6) hx hb dX2_worthBy_110 (by decide) ?_
    refine lv_icmp_ne (tgt := 127) hx hb dX2_worthBy_112 (by decide) (fun c112 => ?_) (fun c112 => ?_)
    · refine lv_ldc2 (v := 2) hx hb hown (hts _ cst_X2_18) dX2_worthBy_127 ?_
      refine lv_aload_n hx hb dX2_worthBy_130 rfl (lv_at hl 0 rfl) ?_
      refine zm_get hx hb hts hown hE hM hc fl_X2_9_2 rfl dX2_worthBy_131 ?_
      refine lv_i2l hx hb dX2_worthBy_134 rfl ?_
      refine lv_lmul hx hb dX2_worthBy_135 ?_
      refine zm_lret hx hb hr hlk hM hS ?_ ⟨Nat.le_refl _, Nat.le_refl _⟩ dX2_worthBy_136
      refine ⟨?_, rfl⟩
      have h16 := (hI.2.2.1 j hj).1
      first | (have h6 : s_kd S j = 6 := (nI_eq (b := 6) (by omega) (by omega)).mp c112; simp only [wOne, if_pos h6]) | (have h6 : ¬ s_kd S j = 6 := fun q => c112 (by rw [q]; rfl); simp only [wOne, if_neg h6])
    · refine lv_aload_n hx hb dX2_worthBy_115 rfl (lv_at hl 0 rfl) ?_
      refine zm_get hx hb hts hown hE hM hc fl_X2_9_2 rfl dX2_worthBy_116 ?_
      refine lv_i2l hx hb dX2_worthBy_119 rfl ?_
      refine lv_ldc2 (v := 5) hx hb hown (hts _ cst_X2_25) dX2_worthBy_120 ?_
      refine lv_ladd hx hb dX2_worthBy_123 ?_
      refine lv_goto (tgt := 136) hx hb dX2_worthBy_124 (by decide) ?_
      refine zm_lret hx hb hr hlk hM hS ?_ ⟨Nat.le_refl _, Nat.le_refl _⟩ dX2_worthBy_136
      refine ⟨?_, rfl⟩
      have h16 := (hI.2.2.1 j hj).1
      first | (have h6 : s_kd S j = 6 := (nI_eq (b := 6) (by omega) (by omega)).mp c112; simp only [wOne, if_pos h6]) | (have h6 : ¬ s_kd S j = 6 := fun q => c112 (by rw [q]; rfl); simp only [wOne, if_neg h6])
theorem zsum_congr {f g : Nat → Int64} : ∀ (n : Nat), (∀ i, i < n → f i = g i) → zsum f n = zsum g n
  | 0, _ => rfl
  | n + 1, h => by unfold zsum; rw [zsum_congr n (fun i hi => h i (by omega)), h n (by omega)]
set_option maxRecDepth 100000 in
set_option maxHeartbeats 4000000 in
theorem c_X1_worthBy (l : Launch) (G : zm_G) (A : Nat → Prop) (B : zB) (S : zS) (M : zm_M) (j v : Nat) (hI : zInv S) (hR : RepC G B S M) (hj : j < s_np S) (hk : s_kd S j < 4) : Met l yX1_worthBy (zm_W yX1_worthBy cX1_worthBy 5 (some .long)) (zm_rm 0 0 0) (zm_Pc G [.ref (B.2.1 j), .int (nI v)] A M) (zm_Q G (fun r M' => r = some (.long (zsum (s_nu S j) (many S j))) ∧ M' = M) A) 0 0 A := by
  refine zm_start (by decide) (Nat.le_of_ble_eq_true rfl) ?_
  intro p e s m below meth c hx hb hml hr hts hown hlk hnm hE hA ls hl hM hS
  have hl : lv_has ls 5 [(0, .ref (B.2.1 j)), (1, .int (nI v))] := hl
  have hc := hR.2.2.2.2.2.1 j hj
  rw [pcell_nu hk] at hc
  obtain ⟨f, h7, e7⟩ := hR.2.2.2.2.2.2.2.1 j hj hk
  have hm := many15 hI hj hk
  refine lv_lconst (v := 0) hx hb dX1_worthBy_0 (by decide) ?_
  refine lv_lstore_n (lv' := [(2, .long 0), (0, .ref (B.2.1 j)), (1, .int (nI v))]) hx hb dX1_worthBy_1 rfl hl (by decide) rfl (fun ls hl => ?_)
  refine lv_iconst (v := 0) hx hb dX1_worthBy_2 (by decide) ?_
  refine lv_istore (lv' := [(4, .int 0), (2, .long 0), (0, .ref (B.2.1 j)), (1, .int (nI v))]) hx hb dX1_worthBy_3 hl (by decide) rfl (fun ls hl => ?_)
  have loop : ∀ (n k : Nat), k ≤ many S j → many S j + 1 ≤ k + n → ∀ (ls : Array Slot), lv_has ls 5 [(4, .int (nI k)), (2, .long (zsum f k)), (0, .ref (B.2.1 j)), (1, .int (nI v))] → W p l e (zm_rm 0 0 0) s m [.ref (B.2.1 j), .int (nI v)].toArray below meth c s.heap [] 0 0 (MQ below (zm_Q G (fun r M' => r = some (.long (zsum (s_nu S j) (many S j))) ∧ M' = M) A) [.ref (B.2.1 j), .int (nI v)].toArray s 0 0 A) (F0 m 5 ls []) := by
    intro n
    induction n with
    | zero => intro k h1 h2; exact absurd h2 (by omega)
    | succ n ih =>
      intro k hk1 hk2 ls hl
      refine lv_iload hx hb dX1_worthBy_5 (lv_at hl 0 rfl) ?_
      refine lv_aload_n hx hb dX1_worthBy_7 rfl (lv_at hl 2 rfl) ?_
      refine zm_get hx hb hts hown hE hM hc fl_X1_9_1 rfl dX1_worthBy_8 ?_
      refine zm_alenJ hx hb hE hM h7 dX1_worthBy_11 ?_
      refine lv_icmp_ge (tgt := 31) hx hb dX1_worthBy_12 (by decide) (fun c12 => ?_) (fun c12 => ?_)
      · have hkk : k = many S j := by have := (nI_leI (by omega) (by omega)).mp c12; omega
        refine lv_lload_n hx hb dX1_worthBy_31 rfl (lv_at hl 1 rfl) ?_
        refine zm_lret hx hb hr hlk hM hS ?_ ⟨Nat.le_refl _, Nat.le_refl _⟩ dX1_worthBy_32
        refine ⟨?_, rfl⟩
        rw [hkk, zsum_congr _ e7]
      · have hkk : k < many S j := by rw [nI_leI (by omega) (by omega)] at c12; omega
        refine lv_lload_n hx hb dX1_worthBy_15 rfl (lv_at hl 1 rfl) ?_
        refine lv_aload_n hx hb dX1_worthBy_16 rfl (lv_at hl 2 rfl) ?_
        refine zm_get hx hb hts hown hE hM hc fl_X1_9_1 rfl dX1_worthBy_17 ?_
        refine lv_iload hx hb dX1_worthBy_20 (lv_at hl 0 rfl) ?_
        refine zm_lald hx hb hE hM h7 (vp_in_nI (show k < many S j by omega) (by omega)) dX1_worthBy_22 ?_
        refine zt_eq (v' := .long (f k)) (by rw [nI_clamp (by omega)]) ?_
        refine lv_ladd hx hb dX1_worthBy_23 ?_
        refine lv_lstore_n (lv' := [(2, .long ((zsum f k) + (f k))), (4, .int (nI k)), (0, .ref (B.2.1 j)), (1, .int (nI v))]) hx hb dX1_worthBy_24 rfl hl (by decide) rfl (fun ls hl => ?_)
        refine lv_iinc (v := nI (k + 1)) (lv' := [(4, .int (nI (k + 1))), (2, .long ((zsum f k) + (f k))), (0, .ref (B.2.1 j)), (1, .int (nI v))]) hx hb dX1_worthBy_25 hl (k := 1) rfl (nI_1 k) (by decide) rfl (fun ls hl => ?_)
        refine lv_goto (tgt := 5) hx hb dX1_worthBy_28 (by decide) ?_
        exact ih (k + 1) (by omega) (by omega) ls (lv_sub hl [0, 1, 2, 3] rfl)
  exact loop (many S j + 1) 0 (Nat.zero_le _) (by omega) ls (lv_sub hl [0, 1, 2, 3] rfl)
