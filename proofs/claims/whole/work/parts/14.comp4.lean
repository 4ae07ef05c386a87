theorem gA_pc : ∀ k, k < 16 → ∀ r, 8 ≤ r → r ≤ 12 → gA k (inn r) = true → isPc k = true := by
  intro k hk r h1 h2
  have : ∀ k, k < 16 → ∀ r, r < 13 → 8 ≤ r → gA k (inn r) = true → isPc k = true := by decide
  exact this k hk r (by omega) h1
theorem gA_rw : ∀ k, k < 16 → ∀ r, 13 ≤ r → r ≤ 15 → gA k (inn r) = true → 8 ≤ k ∧ k ≤ 12 := by
  intro k hk r h1 h2
  have : ∀ k, k < 16 → ∀ r, r < 16 → 13 ≤ r → gA k (inn r) = true → 8 ≤ k ∧ k ≤ 12 := by decide
  exact this k hk r (by omega) h1
theorem inn_pc : ∀ v, 8 ≤ v → v ≤ 12 → inn v = 4 ∨ inn v = 5 ∨ inn v = 6 ∨ inn v = 7 ∨ inn v = 16 := by
  intro v h1 h2
  have : ∀ v, v < 13 → 8 ≤ v → inn v = 4 ∨ inn v = 5 ∨ inn v = 6 ∨ inn v = 7 ∨ inn v = 16 := by decide
  exact this v (by omega) h1
theorem inn_rw : ∀ v, 13 ≤ v → v ≤ 15 → 8 ≤ inn v ∧ inn v ≤ 12 := by
  intro v h1 h2
  have : ∀ v, v < 16 → 13 ≤ v → 8 ≤ inn v ∧ inn v ≤ 12 := by decide
  exact this v (by omega) h1
theorem rw_of {k : Nat} (h1 : 8 ≤ k) (h2 : k ≤ 15) : isRw k = true := by simp [isRw, h1, h2]
set_option maxRecDepth 100000 in
set_option maxHeartbeats 4000000 in
theorem c_X4_worthBy1 (l : Launch) (G : zm_G) (A : Nat → Prop) (B : zB) (S : zS) (M : zm_M) (j v : Nat) (hI : zInv S) (hR : RepC G B S M) (hj : j < s_np S) (hk8 : 8 ≤ s_kd S j) (hk12 : s_kd S j ≤ 12) (hv8 : 8 ≤ v) (hv12 : v ≤ 12) : Met l yX4_worthBy (zm_W yX4_worthBy cX4_worthBy 6 (some .long)) (zm_rm 2 0 0) (zm_Pc G [.ref (B.2.1 j), .int (nI v)] A M) (zm_Q G (fun r M' => r = some (.long (zsum (fun i => wAt (fun t => wOne S t (inn v)) (s_th S j i)) (s_sz S j))) ∧ M' = M) A) 0 0 A := by
  refine zm_start (by decide) (Nat.le_of_ble_eq_true rfl) ?_
  intro p e s m below meth c hx hb hml hr hts hown hlk hnm hE hA ls hl hM hS
  have hl : lv_has ls 6 [(0, .ref (B.2.1 j)), (1, .int (nI v))] := hl
  obtain ⟨g, hg⟩ : ∃ g : Nat → Int64, g = fun i => wAt (fun t => wOne S t (inn v)) (s_th S j i) := ⟨_, rfl⟩
  have hc := hR.2.2.2.2.2.1 j hj
  rw [pcell_rw (rw_of (by omega) (by omega))] at hc
  obtain ⟨f, h6, e6⟩ := hR.2.2.2.2.2.2.1 j hj (rw_of (by omega) (by omega))
  have hm := hI.sz5 hj (rw_pc (rw_of (show 8 ≤ s_kd S j by omega) (by omega)))
  refine lv_lconst (v := 0) hx hb dX4_worthBy_0 (by decide) ?_
  refine lv_lstore_n (lv' := [(2, .long 0), (0, .ref (B.2.1 j)), (1, .int (nI v))]) hx hb dX4_worthBy_1 rfl hl (by decide) rfl (fun ls hl => ?_)
  refine lv_iload_n hx hb dX4_worthBy_2 rfl (lv_at hl 2 rfl) ?_
  refine zm_callSN (As := [.int (nI v)]) (rest := []) hx hb hml hts hown hE hA hM hS (c_X5_isRow l G A _ (nI v)) cd_X5_isRow nl_X4_13 rfl rfl hl.1 (Nat.le_of_ble_eq_true rfl) ⟨Nat.le_of_ble_eq_true rfl, Nat.le_of_ble_eq_true rfl⟩ ⟨Nat.le_of_ble_eq_true rfl, Nat.le_of_ble_eq_true rfl⟩ dX4_worthBy_3 ?_
  rintro r M1 H locs ⟨rfl, e1⟩ hM hS
  rw [e1] at hM
  clear e1 M1
  refine W.eq (g2 := F0 m 6 ls [.int (bI (zbt 8 15 (nI v)))]) rfl ?_
  refine lv_if_eq (tgt := 58) hx hb dX4_worthBy_6 (by decide) (fun c6 => ?_) (fun c6 => ?_)
  · exact absurd (bI_0.mp c6) (by rw [zbt_rw v (by omega), rw_of (by omega) (by omega)]; decide)
  · refine lv_iconst (v := 0) hx hb dX4_worthBy_9 (by decide) ?_
    refine lv_istore (lv' := [(4, .int 0), (2, .long 0), (0, .ref (B.2.1 j)), (1, .int (nI v))]) hx hb dX4_worthBy_10 hl (by decide) rfl (fun ls hl => ?_)
    have loop : ∀ (n k : Nat), k ≤ s_sz S j → s_sz S j + 1 ≤ k + n → ∀ (ls : Array Slot) (H : Heap) (locs : List Loc), zm_P G A M H → va_S A s.heap H locs → lv_has ls 6 [(4, .int (nI k)), (2, .long (zsum g k)), (0, .ref (B.2.1 j)), (1, .int (nI v))] → W p l e (zm_rm 2 0 0) s m [.ref (B.2.1 j), .int (nI v)].toArray below meth c H locs 0 0 (MQ below (zm_Q G (fun r M' => r = some (.long (zsum (fun i => wAt (fun t => wOne S t (inn v)) (s_th S j i)) (s_sz S j))) ∧ M' = M) A) [.ref (B.2.1 j), .int (nI v)].toArray s 0 0 A) (F0 m 12 ls []) := by
      intro n
      induction n with
      | zero => intro k h1 h2; exact absurd h2 (by omega)
      | succ n ih =>
        intro k hk1 hk2 ls H locs hM hS hl
        refine lv_iload hx hb dX4_worthBy_12 (lv_at hl 0 rfl) ?_
        refine lv_aload_n hx hb dX4_worthBy_14 rfl (lv_at hl 2 rfl) ?_
        refine zm_get hx hb hts hown hE hM hc fl_X4_7_3 rfl dX4_worthBy_15 ?_
        refine zm_alenR hx hb hE hM h6 dX4_worthBy_18 ?_
        refine lv_icmp_ge (tgt := 58) hx hb dX4_worthBy_19 (by decide) (fun c19 => ?_) (fun c19 => ?_)
        · have hkk : k = s_sz S j := by have := (nI_leI (by omega) (by omega)).mp c19; omega
          refine lv_lload_n hx hb dX4_worthBy_58 rfl (lv_at hl 1 rfl) ?_
          refine zm_lret hx hb hr hlk hM hS ?_ ⟨Nat.le_refl _, Nat.le_refl _⟩ dX4_worthBy_59
          refine ⟨?_, rfl⟩
          rw [hkk, hg]
        · have hkk : k < s_sz S j := by rw [nI_leI (by omega) (by omega)] at c19; omega
          refine lv_aload_n hx hb dX4_worthBy_22 rfl (lv_at hl 2 rfl) ?_
          refine zm_get hx hb hts hown hE hM hc fl_X4_7_3 rfl dX4_worthBy_23 ?_
          refine lv_iload hx hb dX4_worthBy_26 (lv_at hl 0 rfl) ?_
          refine zm_aldR hx hb hE hM h6 (vp_in_nI hkk (by omega)) dX4_worthBy_28 ?_
          refine zt_eq (v' := va_rf (oA B (s_th S j k))) (by rw [nI_clamp (by omega), e6 k hkk]) ?_
          refine zq_astore (lv' := [(5, va_rf (oA B (s_th S j k))), (4, .int (nI k)), (2, .long (zsum g k)), (0, .ref (B.2.1 j)), (1, .int (nI v))]) hx hb dX4_worthBy_29 hl (by decide) rfl (fun ls hl => ?_)
          refine lv_lload_n hx hb dX4_worthBy_31 rfl (lv_at hl 2 rfl) ?_
          refine zq_aload hx hb dX4_worthBy_32 (lv_at hl 0 rfl) ?_
          refine zq_ifnonnull (tgt := 41) hx hb dX4_worthBy_34 (by decide) (fun a34 c34 => ?_) (fun c34 => ?_)
          · obtain ⟨t, hth, rfl⟩ := oA_some c34
            rw [hth] at hl
            have hl : lv_has ls 6 [(5, .ref (B.2.1 t)), (4, .int (nI k)), (2, .long (zsum g k)), (0, .ref (B.2.1 j)), (1, .int (nI v))] := hl
            obtain ⟨htn, hga⟩ := hI.2.2.2.1 j hj (by omega) k t hkk hth
            have ht16 := (hI.2.2.1 t htn).1
            have hkt := gA_pc _ ht16 _ hk8 hk12 hga
            have hct := hR.2.2.2.2.2.1 t htn
            rw [pcell_pc hkt] at hct
            have hgk : zsum g (k + 1) = zsum g k + wOne S t (inn v) := by show zsum g k + g k = _; rw [show g k = wOne S t (inn v) by rw [hg]; show wAt _ (s_th S j k) = _; rw [hth]; rfl]
            refine lv_aload hx hb dX4_worthBy_41 (lv_at hl 0 rfl) ?_
            refine lv_iload_n hx hb dX4_worthBy_43 rfl (lv_at hl 4 rfl) ?_
            refine zm_callSN (As := [.int (nI v)]) (rest := [.ref (B.2.1 t), .long (zsum g k)]) hx hb hml hts hown hE hA hM hS (c_X5_partView l G A _ v (by omega) (by omega)) cd_X5_partView nl_X4_19 rfl rfl hl.1 (Nat.le_of_ble_eq_true rfl) ⟨Nat.le_of_ble_eq_true rfl, Nat.le_of_ble_eq_true rfl⟩ ⟨Nat.le_of_ble_eq_true rfl, Nat.le_of_ble_eq_true rfl⟩ dX4_worthBy_44 ?_
            rintro r M1 H locs ⟨rfl, e1⟩ hM hS
            rw [e1] at hM
            clear e1 M1
            refine W.eq (g2 := F0 m 47 ls [.int (nI (inn v)), .ref (B.2.1 t), .long (zsum g k)]) rfl ?_
            refine zm_callU (x := ⟨"PropStore$Prop", "worthBy", "(I)J"⟩) (As := [.int (nI (inn v))]) (rest := [.long (zsum g k)]) hx hb hml hts hown hE hA hM hS hct rfl (c_X2_worthBy l G A B S _ t (inn v) hI hR htn hkt (inn_pc v hv8 hv12)) cd_X2_worthBy ⟨rfl, rfl, rfl⟩ mu_X4_23_2 rfl rfl hl.1 (Nat.le_of_ble_eq_true rfl) ⟨Nat.le_of_ble_eq_true rfl, Nat.le_of_ble_eq_true rfl⟩ ⟨Nat.le_of_ble_eq_true rfl, Nat.le_of_ble_eq_true rfl⟩ dX4_worthBy_47 ?_
            rintro r M1 H locs ⟨rfl, e1⟩ hM hS
            rw [e1] at hM
            clear e1 M1
            refine W.eq (g2 := F0 m 50 ls [.long (wOne S t (inn v)), .long (zsum g k)]) rfl ?_
            refine lv_ladd hx hb dX4_worthBy_50 ?_
            refine lv_lstore_n (lv' := [(2, .long ((zsum g k) + (wOne S t (inn v)))), (5, .ref (B.2.1 t)), (4, .int (nI k)), (0, .ref (B.2.1 j)), (1, .int (nI v))]) hx hb dX4_worthBy_51 rfl hl (by decide) rfl (fun ls hl => ?_)
            refine lv_iinc (v := nI (k + 1)) (lv' := [(4, .int (nI (k + 1))), (2, .long ((zsum g k) + (wOne S t (inn v)))), (5, .ref (B.2.1 t)), (0, .ref (B.2.1 j)), (1, .int (nI v))]) hx hb dX4_worthBy_52 hl (k := 2) rfl (nI_1 k) (by decide) rfl (fun ls hl => ?_)
            refine lv_goto (tgt := 12) hx hb dX4_worthBy_55 (by decide) ?_
            exact ih (k + 1) (by omega) (by omega) ls _ _ hM hS (by rw [hgk]; exact (lv_sub hl [0, 1, 3, 4] rfl))
          · have hth := oA_none c34
            have hgk : zsum g (k + 1) = zsum g k + 0 := by show zsum g k + g k = _; rw [show g k = 0 by rw [hg]; show wAt _ (s_th S j k) = _; rw [hth]; rfl]
            refine lv_lconst (v := 0) hx hb dX4_worthBy_37 (by decide) ?_
            refine lv_goto (tgt := 50) hx hb dX4_worthBy_38 (by decide) ?_
            refine lv_ladd hx hb dX4_worthBy_50 ?_
            refine lv_lstore_n (lv' := [(2, .long ((zsum g k) + 0)), (5, va_rf (oA B (s_th S j k))), (4, .int (nI k)), (0, .ref (B.2.1 j)), (1, .int (nI v))]) hx hb dX4_worthBy_51 rfl hl (by decide) rfl (fun ls hl => ?_)
            refine lv_iinc (v := nI (k + 1)) (lv' := [(4, .int (nI (k + 1))), (2, .long ((zsum g k) + 0)), (5, va_rf (oA B (s_th S j k))), (0, .ref (B.2.1 j)), (1, .int (nI v))]) hx hb dX4_worthBy_52 hl (k := 2) rfl (nI_1 k) (by decide) rfl (fun ls hl => ?_)
            refine lv_goto (tgt := 12) hx hb dX4_worthBy_55 (by decide) ?_
            exact ih (k + 1) (by omega) (by omega) ls _ _ hM hS (by rw [hgk]; exact (lv_sub hl [0, 1, 3, 4] rfl))
    exact loop (s_sz S j + 1) 0 (Nat.zero_le _) (by omega) ls _ _ hM hS (lv_sub hl [0, 1, 2, 3] rfl)
set_option maxRecDepth 100000 in
set_option maxHeartbeats 4000000 in
theorem c_X4_worthBy2 (l : Launch) (G : zm_G) (A : Nat → Prop) (B : zB) (S : zS) (M : zm_M) (j v : Nat) (hI : zInv S) (hR : RepC G B S M) (hj : j < s_np S) (hk8 : 13 ≤ s_kd S j) (hk12 : s_kd S j ≤ 15) (hv8 : 13 ≤ v) (hv12 : v ≤ 15) : Met l yX4_worthBy (zm_W yX4_worthBy cX4_worthBy 6 (some .long)) (zm_rm 3 0 0) (zm_Pc G [.ref (B.2.1 j), .int (nI v)] A M) (zm_Q G (fun r M' => r = some (.long (zsum (fun i => wAt (fun t => wRow S t (inn v)) (s_th S j i)) (s_sz S j))) ∧ M' = M) A) 0 0 A := by
  refine zm_start (by decide) (Nat.le_of_ble_eq_true rfl) ?_
  intro p e s m below meth c hx hb hml hr hts hown hlk hnm hE hA ls hl hM hS
  have hl : lv_has ls 6 [(0, .ref (B.2.1 j)), (1, .int (nI v))] := hl
  obtain ⟨g, hg⟩ : ∃ g : Nat → Int64, g = fun i => wAt (fun t => wRow S t (inn v)) (s_th S j i) := ⟨_, rfl⟩
  have hc := hR.2.2.2.2.2.1 j hj
  rw [pcell_rw (rw_of (by omega) (by omega))] at hc
  obtain ⟨f, h6, e6⟩ := hR.2.2.2.2.2.2.1 j hj (rw_of (by omega) (by omega))
  have hm := hI.sz5 hj (rw_pc (rw_of (show 8 ≤ s_kd S j by omega) (by omega)))
  refine lv_lconst (v := 0) hx hb dX4_worthBy_0 (by decide) ?_
  refine lv_lstore_n (lv' := [(2, .long 0), (0, .ref (B.2.1 j)), (1, .int (nI v))]) hx hb dX4_worthBy_1 rfl hl (by decide) rfl (fun ls hl => ?_)
  refine lv_iload_n hx hb dX4_worthBy_2 rfl (lv_at hl 2 rfl) ?_
  refine zm_callSN (As := [.int (nI v)]) (rest := []) hx hb hml hts hown hE hA hM hS (c_X5_isRow l G A _ (nI v)) cd_X5_isRow nl_X4_13 rfl rfl hl.1 (Nat.le_of_ble_eq_true rfl) ⟨Nat.le_of_ble_eq_true rfl, Nat.le_of_ble_eq_true rfl⟩ ⟨Nat.le_of_ble_eq_true rfl, Nat.le_of_ble_eq_true rfl⟩ dX4_worthBy_3 ?_
  rintro r M1 H locs ⟨rfl, e1⟩ hM hS
  rw [e1] at hM
  clear e1 M1
  refine W.eq (g2 := F0 m 6 ls [.int (bI (zbt 8 15 (nI v)))]) rfl ?_
  refine lv_if_eq (tgt := 58) hx hb dX4_worthBy_6 (by decide) (fun c6 => ?_) (fun c6 => ?_)
  · exact absurd (bI_0.mp c6) (by rw [zbt_rw v (by omega), rw_of (by omega) (by omega)]; decide)
  · refine lv_iconst (v := 0) hx hb dX4_worthBy_9 (by decide) ?_
    refine lv_istore (lv' := [(4, .int 0), (2, .long 0), (0, .ref (B.2.1 j)), (1, .int (nI v))]) hx hb dX4_worthBy_10 hl (by decide) rfl (fun ls hl => ?_)
    have loop : ∀ (n k : Nat), k ≤ s_sz S j → s_sz S j + 1 ≤ k + n → ∀ (ls : Array Slot) (H : Heap) (locs : List Loc), zm_P G A M H → va_S A s.heap H locs → lv_has ls 6 [(4, .int (nI k)), (2, .long (zsum g k)), (0, .ref (B.2.1 j)), (1, .int (nI v))] → W p l e (zm_rm 3 0 0) s m [.ref (B.2.1 j), .int (nI v)].toArray below meth c H locs 0 0 (MQ below (zm_Q G (fun r M' => r = some (.long (zsum (fun i => wAt (fun t => wRow S t (inn v)) (s_th S j i)) (s_sz S j))) ∧ M' = M) A) [.ref (B.2.1 j), .int (nI v)].toArray s 0 0 A) (F0 m 12 ls []) := by
      intro n
      induction n with
      | zero => intro k h1 h2; exact absurd h2 (by omega)
      | succ n ih =>
        intro k hk1 hk2 ls H locs hM hS hl
        refine lv_iload hx hb dX4_worthBy_12 (lv_at hl 0 rfl) ?_
        refine lv_aload_n hx hb dX4_worthBy_14 rfl (lv_at hl 2 rfl) ?_
        refine zm_get hx hb hts hown hE hM hc fl_X4_7_3 rfl dX4_worthBy_15 ?_
        refine zm_alenR hx hb hE hM h6 dX4_worthBy_18 ?_
        refine lv_icmp_ge (tgt := 58) hx hb dX4_worthBy_19 (by decide) (fun c19 => ?_) (fun c19 => ?_)
        · have hkk : k = s_sz S j := by have := (nI_leI (by omega) (by omega)).mp c19; omega
          refine lv_lload_n hx hb dX4_worthBy_58 rfl (lv_at hl 1 rfl) ?_
          refine zm_lret hx hb hr hlk hM hS ?_ ⟨Nat.le_refl _, Nat.le_refl _⟩ dX4_worthBy_59
          refine ⟨?_, rfl⟩
          rw [hkk, hg]
        · have hkk : k < s_sz S j := by rw [nI_leI (by omega) (by omega)] at c19; omega
          refine lv_aload_n hx hb dX4_worthBy_22 rfl (lv_at hl 2 rfl) ?_
          refine zm_get hx hb hts hown hE hM hc fl_X4_7_3 rfl dX4_worthBy_23 ?_
          refine lv_iload hx hb dX4_worthBy_26 (lv_at hl 0 rfl) ?_
          refine zm_aldR hx hb hE hM h6 (vp_in_nI hkk (by omega)) dX4_worthBy_28 ?_
          refine zt_eq (v' := va_rf (oA B (s_th S j k))) (by rw [nI_clamp (by omega), e6 k hkk]) ?_
          refine zq_astore (lv' := [(5, va_rf (oA B (s_th S j k))), (4, .int (nI k)), (2, .long (zsum g k)), (0, .ref (B.2.1 j)), (1, .int (nI v))]) hx hb dX4_worthBy_29 hl (by decide) rfl (fun ls hl => ?_)
          refine lv_lload_n hx hb dX4_worthBy_31 rfl (lv_at hl 2 rfl) ?_
          refine zq_aload hx hb dX4_worthBy_32 (lv_at hl 0 rfl) ?_
          refine zq_ifnonnull (tgt := 41) hx hb dX4_worthBy_34 (by decide) (fun a34 c34 => ?_) (fun c34 => ?_)
          · obtain ⟨t, hth, rfl⟩ := oA_some c34
            rw [hth] at hl
            have hl : lv_has ls 6 [(5, .ref (B.2.1 t)), (4, .int (nI k)), (2, .long (zsum g k)), (0, .ref (B.2.1 j)), (1, .int (nI v))] := hl
            obtain ⟨htn, hga⟩ := hI.2.2.2.1 j hj (by omega) k t hkk hth
            have ht16 := (hI.2.2.1 t htn).1
            obtain ⟨hkt, hkt2⟩ := gA_rw _ ht16 _ hk8 hk12 hga
            have hct := hR.2.2.2.2.2.1 t htn
            rw [pcell_rw (rw_of hkt (by omega))] at hct
            have hgk : zsum g (k + 1) = zsum g k + wRow S t (inn v) := by show zsum g k + g k = _; rw [show g k = wRow S t (inn v) by rw [hg]; show wAt _ (s_th S j k) = _; rw [hth]; rfl]
            refine lv_aload hx hb dX4_worthBy_41 (lv_at hl 0 rfl) ?_
            refine lv_iload_n hx hb dX4_worthBy_43 rfl (lv_at hl 4 rfl) ?_
            refine zm_callSN (As := [.int (nI v)]) (rest := [.ref (B.2.1 t), .long (zsum g k)]) hx hb hml hts hown hE hA hM hS (c_X5_partView l G A _ v (by omega) (by omega)) cd_X5_partView nl_X4_19 rfl rfl hl.1 (Nat.le_of_ble_eq_true rfl) ⟨Nat.le_of_ble_eq_true rfl, Nat.le_of_ble_eq_true rfl⟩ ⟨Nat.le_of_ble_eq_true rfl, Nat.le_of_ble_eq_true rfl⟩ dX4_worthBy_44 ?_
            rintro r M1 H locs ⟨rfl, e1⟩ hM hS
            rw [e1] at hM
            clear e1 M1
            refine W.eq (g2 := F0 m 47 ls [.int (nI (inn v)), .ref (B.2.1 t), .long (zsum g k)]) rfl ?_
            refine zm_callU (x := ⟨"PropStore$Prop", "worthBy", "(I)J"⟩) (As := [.int (nI (inn v))]) (rest := [.long (zsum g k)]) hx hb hml hts hown hE hA hM hS hct rfl (c_X4_worthBy1 l G A B S _ t (inn v) hI hR htn hkt hkt2 (inn_rw v hv8 hv12).1 (inn_rw v hv8 hv12).2) cd_X4_worthBy ⟨rfl, rfl, rfl⟩ mu_X4_23_3 rfl rfl hl.1 (Nat.le_of_ble_eq_true rfl) ⟨Nat.le_of_ble_eq_true rfl, Nat.le_of_ble_eq_true rfl⟩ ⟨Nat.le_of_ble_eq_true rfl, Nat.le_of_ble_eq_true rfl⟩ dX4_worthBy_47 ?_
            rintro r M1 H locs ⟨rfl, e1⟩ hM hS
            rw [e1] at hM
            clear e1 M1
            refine W.eq (g2 := F0 m 50 ls [.long (wRow S t (inn v)), .long (zsum g k)]) rfl ?_
            refine lv_ladd hx hb dX4_worthBy_50 ?_
            refine lv_lstore_n (lv' := [(2, .long ((zsum g k) + (wRow S t (inn v)))), (5, .ref (B.2.1 t)), (4, .int (nI k)), (0, .ref (B.2.1 j)), (1, .int (nI v))]) hx hb dX4_worthBy_51 rfl hl (by decide) rfl (fun ls hl => ?_)
            refine lv_iinc (v := nI (k + 1)) (lv' := [(4, .int (nI (k + 1))), (2, .long ((zsum g k) + (wRow S t (inn v)))), (5, .ref (B.2.1 t)), (0, .ref (B.2.1 j)), (1, .int (nI v))]) hx hb dX4_worthBy_52 hl (k := 2) rfl (nI_1 k) (by decide) rfl (fun ls hl => ?_)
            refine lv_goto (tgt := 12) hx hb dX4_worthBy_55 (by decide) ?_
            exact ih (k + 1) (by omega) (by omega) ls _ _ hM hS (by rw [hgk]; exact (lv_sub hl [0, 1, 3, 4] rfl))
          · have hth := oA_none c34
            have hgk : zsum g (k + 1) = zsum g k + 0 := by show zsum g k + g k = _; rw [show g k = 0 by rw [hg]; show wAt _ (s_th S j k) = _; rw [hth]; rfl]
            refine lv_lconst (v := 0) hx hb dX4_worthBy_37 (by decide) ?_
            refine lv_goto (tgt := 50) hx hb dX4_worthBy_38 (by decide) ?_
            refine lv_ladd hx hb dX4_worthBy_50 ?_
            refine lv_lstore_n (lv' := [(2, .long ((zsum g k) + 0)), (5, va_rf (oA B (s_th S j k))), (4, .int (nI k)), (0, .ref (B.2.1 j)), (1, .int (nI v))]) hx hb dX4_worthBy_51 rfl hl (by decide) rfl (fun ls hl => ?_)
            refine lv_iinc (v := nI (k + 1)) (lv' := [(4, .int (nI (k + 1))), (2, .long ((zsum g k) + 0)), (5, va_rf (oA B (s_th S j k))), (0, .ref (B.2.1 j)), (1, .int (nI v))]) hx hb dX4_worthBy_52 hl (k := 2) rfl (nI_1 k) (by decide) rfl (fun ls hl => ?_)
            refine lv_goto (tgt := 12) hx hb dX4_worthBy_55 (by decide) ?_
            exact ih (k + 1) (by omega) (by omega) ls _ _ hM hS (by rw [hgk]; exact (lv_sub hl [0, 1, 3, 4] rfl))
    exact loop (s_sz S j + 1) 0 (Nat.zero_le _) (by omega) ls _ _ hM hS (lv_sub hl [0, 1, 2, 3] rfl)
