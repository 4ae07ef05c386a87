set_option maxRecDepth 100000 in
set_option maxHeartbeats 4000000 in
theorem c_X6_done (l : Launch) (G : zm_G) (A : Nat → Prop) (q : Nat → Nat) (S : zS) (M : zm_M) (c0 : Nat) (hc0 : c0 < s_nc S) (hI : zInv S) (hR : RepR G q S M) : Met l yX6_done (zm_W yX6_done cX6_done 5 (some .int)) (zm_rm 3 0 0) (zm_Pc G [.ref (q 0), .int (nI c0)] A M) (zm_Q G (fun r M' => r = some (.int (stp S c0).1) ∧ RepR G q (stp S c0).2 M') A) 0 0 A := by
  refine zm_start (by decide) (Nat.le_of_ble_eq_true rfl) ?_
  intro p e s m below meth c hx hb hml hr hts hown hlk hnm hE hA ls hl hM hS
  have hl : lv_has ls 5 [(0, .ref (q 0)), (1, .int (nI c0))] := hl
  obtain ⟨f, g, hZ, hAb⟩ := hR
  have hnp := hI.1
  have hncc := hI.2.1
  obtain ⟨k1, k2, k3, k4, k5⟩ := hI.2.2.2.2.2.2 c0 hc0
  have hso : ∀ j, s_sl S (s_cu S c0).2.1 = some j → j < s_np S := fun t ht => hI.2.2.2.2.1 _ t k2 ht
  refine lv_aload_n hx hb dX6_done_0 rfl (lv_at hl 0 rfl) ?_
  refine zm_get hx hb hts hown hE hM hZ.2.1 fl_X6_36_5 rfl dX6_done_1 ?_
  refine lv_iload_n hx hb dX6_done_4 rfl (lv_at hl 1 rfl) ?_
  refine zm_iald hx hb hE hM (hZ.ar 8) (vp_in_nI (show c0 < 30 by omega) (by decide)) dX6_done_5 ?_
  refine zt_eq (v' := .int (nI (s_cu S c0).2.1)) (by rw [nI_clamp (by omega)]; exact congrArg Value.int ((hAb.2.2.2.2 c0 hc0).2.1)) ?_
  refine lv_istore_n (lv' := [(2, .int (nI (s_cu S c0).2.1)), (0, .ref (q 0)), (1, .int (nI c0))]) hx hb dX6_done_6 rfl hl (by decide) rfl (fun ls hl => ?_)
  refine lv_aload_n hx hb dX6_done_7 rfl (lv_at hl 1 rfl) ?_
  refine zm_get hx hb hts hown hE hM hZ.2.1 fl_X6_26_5 rfl dX6_done_8 ?_
  refine lv_iload_n hx hb dX6_done_11 rfl (lv_at hl 0 rfl) ?_
  refine zm_iald hx hb hE hM (hZ.ar 6) (vp_in_nI (show (s_cu S c0).2.1 < 10 by omega) (by decide)) dX6_done_12 ?_
  refine zt_eq (v' := .int (oI (s_sl S (s_cu S c0).2.1))) (by rw [nI_clamp (by omega)]; exact congrArg Value.int (hAb.2.2.2.1 (s_cu S c0).2.1 k2)) ?_
  refine lv_istore_n (lv' := [(3, .int (oI (s_sl S (s_cu S c0).2.1))), (2, .int (nI (s_cu S c0).2.1)), (0, .ref (q 0)), (1, .int (nI c0))]) hx hb dX6_done_13 rfl hl (by decide) rfl (fun ls hl => ?_)
  refine lv_aload_n hx hb dX6_done_14 rfl (lv_at hl 2 rfl) ?_
  refine zm_get hx hb hts hown hE hM hZ.2.1 fl_X6_39_5 rfl dX6_done_15 ?_
  refine lv_iload_n hx hb dX6_done_18 rfl (lv_at hl 3 rfl) ?_
  refine zm_iald hx hb hE hM (hZ.ar 9) (vp_in_nI (show c0 < 30 by omega) (by decide)) dX6_done_19 ?_
  refine zt_eq (v' := .int (nI (s_cu S c0).2.2.1)) (by rw [nI_clamp (by omega)]; exact congrArg Value.int ((hAb.2.2.2.2 c0 hc0).2.2.1)) ?_
  refine lv_istore (lv' := [(4, .int (nI (s_cu S c0).2.2.1)), (3, .int (oI (s_sl S (s_cu S c0).2.1))), (2, .int (nI (s_cu S c0).2.1)), (0, .ref (q 0)), (1, .int (nI c0))]) hx hb dX6_done_20 hl (by decide) rfl (fun ls hl => ?_)
  refine lv_aload_n hx hb dX6_done_22 rfl (lv_at hl 3 rfl) ?_
  refine lv_iload_n hx hb dX6_done_23 rfl (lv_at hl 1 rfl) ?_
  refine lv_iload hx hb dX6_done_24 (lv_at hl 0 rfl) ?_
  refine zm_callV (As := [.int (oI (s_sl S (s_cu S c0).2.1)), .int (nI (s_cu S c0).2.2.1)]) (rest := []) hx hb hml hts hown hE hA hM hS hZ.2.1 rfl (c_X6_goes l G A q S _ (s_sl S (s_cu S c0).2.1) ((s_cu S c0).2.2.1) (k3) (hso) hI ⟨f, g, hZ, hAb⟩) cd_X6_goes ml_X6_110 rfl rfl hl.1 (Nat.le_of_ble_eq_true rfl) ⟨Nat.le_of_ble_eq_true rfl, Nat.le_of_ble_eq_true rfl⟩ ⟨Nat.le_of_ble_eq_true rfl, Nat.le_of_ble_eq_true rfl⟩ dX6_done_26 ?_
  rintro r M1 H locs ⟨rfl, e1⟩ hM hS
  rw [e1] at hM
  clear e1 M1
  refine W.eq (g2 := F0 m 29 ls [.int (bI (goS S (s_sl S (s_cu S c0).2.1) ((s_cu S c0).2.2.1)))]) rfl ?_
  refine lv_if_ne (tgt := 35) hx hb dX6_done_29 (by decide) (fun c29 => ?_) (fun c29 => ?_)
  · rw [bI_n] at c29
    refine lv_iload_n hx hb dX6_done_35 rfl (lv_at hl 1 rfl) ?_
    refine lv_iconst (v := (-1)) hx hb dX6_done_36 (by decide) ?_
    refine lv_icmp_ne (tgt := 53) hx hb dX6_done_37 (by decide) (fun c37 => ?_) (fun c37 => ?_)
    · refine lv_aload_n hx hb dX6_done_53 rfl (lv_at hl 3 rfl) ?_
      refine zm_get hx hb hts hown hE hM hZ.2.1 fl_X6_33_5 rfl dX6_done_54 ?_
      refine lv_iload_n hx hb dX6_done_57 rfl (lv_at hl 4 rfl) ?_
      refine zm_iald hx hb hE hM (hZ.ar 7) (vp_in_nI (show c0 < 30 by omega) (by decide)) dX6_done_58 ?_
      refine zt_eq (v' := .int (nI (s_cu S c0).1)) (by rw [nI_clamp (by omega)]; exact congrArg Value.int ((hAb.2.2.2.2 c0 hc0).1)) ?_
      rcases (show (s_cu S c0).1 = 0 ∨ (s_cu S c0).1 = 1 ∨ (s_cu S c0).1 = 2 ∨ (s_cu S c0).1 = 3 ∨ (s_cu S c0).1 = 4 ∨ (s_cu S c0).1 = 5 by omega) with ha | ha | ha | ha | ha | ha
      · refine lv_tableIn (off := 33) (tgt := 92) hx hb dX6_done_59 (by rw [ha]; decide) (by rw [ha]; decide) (by rw [ha]; rfl) (by decide) ?_
        obtain ⟨j, hoj⟩ := oI_some c37
        have hj := hso j hoj
        have hgj : gA (s_kd S j) (s_cu S c0).2.2.1 = true := by rw [hoj] at c29; exact c29
        rw [hoj] at hl
        have hl : lv_has ls 5 [(4, .int (nI (s_cu S c0).2.2.1)), (3, .int (nI j)), (2, .int (nI (s_cu S c0).2.1)), (0, .ref (q 0)), (1, .int (nI c0))] := hl
        refine lv_aload_n hx hb dX6_done_92 rfl (lv_at hl 3 rfl) ?_
        refine lv_dup hx hb dX6_done_93 rfl ?_
        refine zm_get hx hb hts hown hE hM hZ.2.1 fl_X6_113_5 rfl dX6_done_94 ?_
        refine lv_aload_n hx hb dX6_done_97 rfl (lv_at hl 3 rfl) ?_
        refine lv_iload_n hx hb dX6_done_98 rfl (lv_at hl 1 rfl) ?_
        refine lv_iload hx hb dX6_done_99 (lv_at hl 0 rfl) ?_
        refine zm_callV (As := [.int (nI j), .int (nI (s_cu S c0).2.2.1)]) (rest := [.long (s_po S), .ref (q 0)]) hx hb hml hts hown hE hA hM hS hZ.2.1 rfl (c_X6_worthOf l G A q S _ j hj (s_cu S c0).2.2.1 k3 hgj hI ⟨f, g, hZ, hAb⟩) cd_X6_worthOf ml_X6_117 rfl rfl hl.1 (Nat.le_of_ble_eq_true rfl) ⟨Nat.le_of_ble_eq_true rfl, Nat.le_of_ble_eq_true rfl⟩ ⟨Nat.le_of_ble_eq_true rfl, Nat.le_of_ble_eq_true rfl⟩ dX6_done_101 ?_
        rintro r M1 H locs ⟨rfl, e1⟩ hM hS
        rw [e1] at hM
        clear e1 M1
        refine W.eq (g2 := F0 m 104 ls [.long (wOf S j (s_cu S c0).2.2.1), .long (s_po S), .ref (q 0)]) rfl ?_
        refine lv_ladd hx hb dX6_done_104 ?_
        refine zm_put hx hb hts hown hE hM hS hZ.2.1 fp_X6_113_5 rfl rfl (Nat.le_of_ble_eq_true rfl) dX6_done_105 (fun H locs hM hS => ?_)
        have hR2 : RepR G q (w_po S (s_po S + wOf S j (s_cu S c0).2.2.1)) _ := ⟨_, _, hZ.fld (objR q (w_po S (s_po S + wOf S j (s_cu S c0).2.2.1))), hAb⟩
        refine lv_iconst (v := 0) hx hb dX6_done_108 (by decide) ?_
        refine zm_iret hx hb hr hlk hM hS ?_ ⟨Nat.le_refl _, Nat.le_refl _⟩ dX6_done_109
        have hs : stp S c0 = (0, w_po S (s_po S + wOf S j (s_cu S c0).2.2.1)) := by unfold stp; rw [if_neg (by rw [c29]; decide), ha]; simp only [hoj]
        exact ⟨by rw [hs], by rw [hs]; exact hR2⟩
      · refine lv_tableIn (off := 51) (tgt := 110) hx hb dX6_done_59 (by rw [ha]; decide) (by rw [ha]; decide) (by rw [ha]; rfl) (by decide) ?_
        obtain ⟨j, hoj⟩ := oI_some c37
        have hj := hso j hoj
        have hgj : gA (s_kd S j) (s_cu S c0).2.2.1 = true := by rw [hoj] at c29; exact c29
        rw [hoj] at hl
        have hl : lv_has ls 5 [(4, .int (nI (s_cu S c0).2.2.1)), (3, .int (nI j)), (2, .int (nI (s_cu S c0).2.1)), (0, .ref (q 0)), (1, .int (nI c0))] := hl
        refine lv_aload_n hx hb dX6_done_110 rfl (lv_at hl 3 rfl) ?_
        refine lv_iload_n hx hb dX6_done_111 rfl (lv_at hl 1 rfl) ?_
        have h4 : 4 ≤ s_kd S j := by rw [ha] at k5; have := has1 _ k3 k5; have h16 := (hI.2.2.1 j hj).1; have := (gA_lv0 _ h16 _ k3 hgj).1; omega
        refine zm_callV (As := [.int (nI j)]) (rest := []) hx hb hml hts hown hE hA hM hS hZ.2.1 rfl (c_X6_wearAll l G A q S _ j hj h4 hI ⟨f, g, hZ, hAb⟩) cd_X6_wearAll ml_X6_120 rfl rfl hl.1 (Nat.le_of_ble_eq_true rfl) ⟨Nat.le_of_ble_eq_true rfl, Nat.le_of_ble_eq_true rfl⟩ ⟨Nat.le_of_ble_eq_true rfl, Nat.le_of_ble_eq_true rfl⟩ dX6_done_112 ?_
        rintro r M1 H locs ⟨rfl, hR2⟩ hM hS
        refine W.eq (g2 := F0 m 115 ls []) rfl ?_
        refine lv_iconst (v := 0) hx hb dX6_done_115 (by decide) ?_
        refine zm_iret hx hb hr hlk hM hS ?_ ⟨Nat.le_refl _, Nat.le_refl _⟩ dX6_done_116
        have hs : stp S c0 = (0, w_wr S (wAll S j)) := by unfold stp; rw [if_neg (by rw [c29]; decide), ha]; simp only [hoj]
        exact ⟨by rw [hs], by rw [hs]; exact hR2⟩
      · refine lv_tableIn (off := 58) (tgt := 117) hx hb dX6_done_59 (by rw [ha]; decide) (by rw [ha]; decide) (by rw [ha]; rfl) (by decide) ?_
        obtain ⟨j, hoj⟩ := oI_some c37
        have hj := hso j hoj
        have hgj : gA (s_kd S j) (s_cu S c0).2.2.1 = true := by rw [hoj] at c29; exact c29
        rw [hoj] at hl
        have hl : lv_has ls 5 [(4, .int (nI (s_cu S c0).2.2.1)), (3, .int (nI j)), (2, .int (nI (s_cu S c0).2.1)), (0, .ref (q 0)), (1, .int (nI c0))] := hl
        refine lv_aload_n hx hb dX6_done_117 rfl (lv_at hl 3 rfl) ?_
        refine lv_iload_n hx hb dX6_done_118 rfl (lv_at hl 1 rfl) ?_
        refine lv_aload_n hx hb dX6_done_119 rfl (lv_at hl 3 rfl) ?_
        refine zm_get hx hb hts hown hE hM hZ.2.1 fl_X6_42_5 rfl dX6_done_120 ?_
        refine lv_iload_n hx hb dX6_done_123 rfl (lv_at hl 4 rfl) ?_
        refine zm_iald hx hb hE hM (hZ.ar 10) (vp_in_nI (show c0 < 30 by omega) (by decide)) dX6_done_124 ?_
        refine zt_eq (v' := .int (nI (s_cu S c0).2.2.2)) (by rw [nI_clamp (by omega)]; exact congrArg Value.int ((hAb.2.2.2.2 c0 hc0).2.2.2)) ?_
        have k6 : 8 ≤ (s_cu S c0).2.2.1 ∧ (s_cu S c0).2.2.1 ≤ 15 := by rw [ha] at k5; simpa [hasV] using k5
        refine zm_callV (As := [.int (nI j), .int (nI (s_cu S c0).2.2.2)]) (rest := []) hx hb hml hts hown hE hA hM hS hZ.2.1 rfl (c_X6_take l G A q S _ j hj (s_cu S c0).2.2.2 k4 (gA_row _ (hI.2.2.1 j hj).1 _ k6.1 k6.2 hgj) hI ⟨f, g, hZ, hAb⟩) cd_X6_take ml_X6_123 rfl rfl hl.1 (Nat.le_of_ble_eq_true rfl) ⟨Nat.le_of_ble_eq_true rfl, Nat.le_of_ble_eq_true rfl⟩ ⟨Nat.le_of_ble_eq_true rfl, Nat.le_of_ble_eq_true rfl⟩ dX6_done_125 ?_
        rintro r M1 H locs (⟨hi, rfl, hR2⟩ | ⟨hi, rfl, hR2⟩) hM hS
        · refine W.eq (g2 := F0 m 128 ls [.int 0]) rfl ?_
          refine zm_iret hx hb hr hlk hM hS ?_ ⟨Nat.le_refl _, Nat.le_refl _⟩ dX6_done_128
          have hs : stp S c0 = (0, w_th (w_hd S (s_th S j (s_cu S c0).2.2.2)) (up2 (s_th S) j (s_cu S c0).2.2.2 none)) := by unfold stp; rw [if_neg (by rw [c29]; decide), ha]; simp only [hoj, if_pos hi]
          exact ⟨by rw [hs], by rw [hs]; exact hR2⟩
        · refine W.eq (g2 := F0 m 128 ls [.int (-6)]) rfl ?_
          refine zm_iret hx hb hr hlk hM hS ?_ ⟨Nat.le_refl _, Nat.le_refl _⟩ dX6_done_128
          have hs : stp S c0 = (-6, S) := by unfold stp; rw [if_neg (by rw [c29]; decide), ha]; simp only [hoj, if_neg hi]
          exact ⟨by rw [hs], by rw [hs]; exact hR2⟩
      · refine lv_tableIn (off := 70) (tgt := 129) hx hb dX6_done_59 (by rw [ha]; decide) (by rw [ha]; decide) (by rw [ha]; rfl) (by decide) ?_
        refine lv_aload_n hx hb dX6_done_129 rfl (lv_at hl 3 rfl) ?_
        refine lv_iload_n hx hb dX6_done_130 rfl (lv_at hl 1 rfl) ?_
        refine lv_iload hx hb dX6_done_131 (lv_at hl 0 rfl) ?_
        refine lv_aload_n hx hb dX6_done_133 rfl (lv_at hl 3 rfl) ?_
        refine zm_get hx hb hts hown hE hM hZ.2.1 fl_X6_42_5 rfl dX6_done_134 ?_
        refine lv_iload_n hx hb dX6_done_137 rfl (lv_at hl 4 rfl) ?_
        refine zm_iald hx hb hE hM (hZ.ar 10) (vp_in_nI (show c0 < 30 by omega) (by decide)) dX6_done_138 ?_
        refine zt_eq (v' := .int (nI (s_cu S c0).2.2.2)) (by rw [nI_clamp (by omega)]; exact congrArg Value.int ((hAb.2.2.2.2 c0 hc0).2.2.2)) ?_
        have k6 : 8 ≤ (s_cu S c0).2.2.1 ∧ (s_cu S c0).2.2.1 ≤ 15 := by rw [ha] at k5; simpa [hasV] using k5
        refine zm_callV (As := [.int (oI (s_sl S (s_cu S c0).2.1)), .int (nI (s_cu S c0).2.2.1), .int (nI (s_cu S c0).2.2.2)]) (rest := []) hx hb hml hts hown hE hA hM hS hZ.2.1 rfl (c_X6_lay l G A q S _ (s_sl S (s_cu S c0).2.1) (s_cu S c0).2.2.1 (s_cu S c0).2.2.2 hso (fun j hj => gA_row _ (hI.2.2.1 j (hso j hj)).1 _ k6.1 k6.2 (by rw [hj] at c29; exact c29)) k6.1 k6.2 k4 hI ⟨f, g, hZ, hAb⟩) cd_X6_lay ml_X6_127 rfl rfl hl.1 (Nat.le_of_ble_eq_true rfl) ⟨Nat.le_of_ble_eq_true rfl, Nat.le_of_ble_eq_true rfl⟩ ⟨Nat.le_of_ble_eq_true rfl, Nat.le_of_ble_eq_true rfl⟩ dX6_done_139 ?_
        rintro r M1 H locs (⟨hg, rfl, hR2⟩ | ⟨hg, ⟨ho, rfl, hR2⟩ | ⟨j, ho, ⟨hi, rfl, hR2⟩ | ⟨hi, ⟨hq, rfl, hR2⟩ | ⟨hq, rfl, hR2⟩⟩⟩⟩) hM hS
        · refine W.eq (g2 := F0 m 142 ls [.int (-5)]) rfl ?_
          refine zm_iret hx hb hr hlk hM hS ?_ ⟨Nat.le_refl _, Nat.le_refl _⟩ dX6_done_142
          have hs : stp S c0 = (-5, S) := by unfold stp; rw [if_neg (by rw [c29]; decide), ha]; simp only [if_pos hg]
          exact ⟨by rw [hs], by rw [hs]; exact hR2⟩
        · refine W.eq (g2 := F0 m 142 ls [.int (-4)]) rfl ?_
          refine zm_iret hx hb hr hlk hM hS ?_ ⟨Nat.le_refl _, Nat.le_refl _⟩ dX6_done_142
          have hs : stp S c0 = (-4, S) := by unfold stp; rw [if_neg (by rw [c29]; decide), ha]; simp only [if_neg (show ¬ goS S (s_hd S) (inn (s_cu S c0).2.2.1) = false by rw [hg]; decide), ho]
          exact ⟨by rw [hs], by rw [hs]; exact hR2⟩
        · refine W.eq (g2 := F0 m 142 ls [.int (-6)]) rfl ?_
          refine zm_iret hx hb hr hlk hM hS ?_ ⟨Nat.le_refl _, Nat.le_refl _⟩ dX6_done_142
          have hs : stp S c0 = (-6, S) := by unfold stp; rw [if_neg (by rw [c29]; decide), ha]; simp only [if_neg (show ¬ goS S (s_hd S) (inn (s_cu S c0).2.2.1) = false by rw [hg]; decide), ho, if_neg hi]
          exact ⟨by rw [hs], by rw [hs]; exact hR2⟩
        · refine W.eq (g2 := F0 m 142 ls [.int (-7)]) rfl ?_
          refine zm_iret hx hb hr hlk hM hS ?_ ⟨Nat.le_refl _, Nat.le_refl _⟩ dX6_done_142
          have hs : stp S c0 = (-7, S) := by unfold stp; rw [if_neg (by rw [c29]; decide), ha]; simp only [if_neg (show ¬ goS S (s_hd S) (inn (s_cu S c0).2.2.1) = false by rw [hg]; decide), ho, if_pos hi, if_pos hq]
          exact ⟨by rw [hs], by rw [hs]; exact hR2⟩
        · refine W.eq (g2 := F0 m 142 ls [.int 0]) rfl ?_
          refine zm_iret hx hb hr hlk hM hS ?_ ⟨Nat.le_refl _, Nat.le_refl _⟩ dX6_done_142
          have hs : stp S c0 = (0, w_th (w_hd S none) (up2 (s_th S) j (s_cu S c0).2.2.2 (s_hd S))) := by unfold stp; rw [if_neg (by rw [c29]; decide), ha]; simp only [if_neg (show ¬ goS S (s_hd S) (inn (s_cu S c0).2.2.1) = false by rw [hg]; decide), ho, if_pos hi, if_neg (show ¬ goS S (s_hd S) (inn (s_kd S j)) = false by rw [hq]; decide)]
          exact ⟨by rw [hs], by rw [hs]; exact hR2⟩
      · refine lv_tableIn (off := 84) (tgt := 143) hx hb dX6_done_59 (by rw [ha]; decide) (by rw [ha]; decide) (by rw [ha]; rfl) (by decide) ?_
        refine lv_aload_n hx hb dX6_done_143 rfl (lv_at hl 3 rfl) ?_
        refine zm_get hx hb hts hown hE hM hZ.2.1 fl_X6_26_5 rfl dX6_done_144 ?_
        refine lv_iload_n hx hb dX6_done_147 rfl (lv_at hl 2 rfl) ?_
        refine lv_aload_n hx hb dX6_done_148 rfl (lv_at hl 3 rfl) ?_
        refine zm_get hx hb hts hown hE hM hZ.2.1 fl_X6_29_5 rfl dX6_done_149 ?_
        refine zm_iast hx hb hE hM hS (hZ.ar 6) (vp_in_nI (show (s_cu S c0).2.1 < 10 from k2) (by decide)) dX6_done_152 (fun H locs hM hS => ?_)
        rw [nI_clamp (by omega)] at hM
        have hZ1 := hZ.arr 6 (upd (f 6) (s_cu S c0).2.1 (oI (s_hd S)))
        refine lv_aload_n hx hb dX6_done_153 rfl (lv_at hl 3 rfl) ?_
        refine lv_iload_n hx hb dX6_done_154 rfl (lv_at hl 1 rfl) ?_
        refine zm_put hx hb hts hown hE hM hS hZ1.2.1 fp_X6_29_5 rfl rfl (Nat.le_of_ble_eq_true rfl) dX6_done_155 (fun H locs hM hS => ?_)
        have hR2 : RepR G q (w_hd (w_sl S (va_up (s_sl S) (s_cu S c0).2.1 (s_hd S))) (s_sl S (s_cu S c0).2.1)) _ := ⟨_, _, hZ1.fld (objR q (w_hd (w_sl S (va_up (s_sl S) (s_cu S c0).2.1 (s_hd S))) (s_sl S (s_cu S c0).2.1))), abs_sl hAb (s_cu S c0).2.1 (s_hd S)⟩
        refine lv_iconst (v := 0) hx hb dX6_done_158 (by decide) ?_
        refine zm_iret hx hb hr hlk hM hS ?_ ⟨Nat.le_refl _, Nat.le_refl _⟩ dX6_done_159
        have hs : stp S c0 = (0, w_hd (w_sl S (va_up (s_sl S) (s_cu S c0).2.1 (s_hd S))) (s_sl S (s_cu S c0).2.1)) := by unfold stp; rw [if_neg (by rw [c29]; decide), ha]; rfl
        exact ⟨by rw [hs], by rw [hs]; exact hR2⟩
      · refine lv_tableOut (tgt := 160) hx hb dX6_done_59 (by rw [ha]; decide) (by decide) ?_
        refine lv_aload_n hx hb dX6_done_160 rfl (lv_at hl 3 rfl) ?_
        refine zm_get hx hb hts hown hE hM hZ.2.1 fl_X6_26_5 rfl dX6_done_161 ?_
        refine lv_aload_n hx hb dX6_done_164 rfl (lv_at hl 3 rfl) ?_
        refine zm_get hx hb hts hown hE hM hZ.2.1 fl_X6_42_5 rfl dX6_done_165 ?_
        refine lv_iload_n hx hb dX6_done_168 rfl (lv_at hl 4 rfl) ?_
        refine zm_iald hx hb hE hM (hZ.ar 10) (vp_in_nI (show c0 < 30 by omega) (by decide)) dX6_done_169 ?_
        refine zt_eq (v' := .int (nI (s_cu S c0).2.2.2)) (by rw [nI_clamp (by omega)]; exact congrArg Value.int ((hAb.2.2.2.2 c0 hc0).2.2.2)) ?_
        refine lv_iload_n hx hb dX6_done_170 rfl (lv_at hl 1 rfl) ?_
        refine zm_iast hx hb hE hM hS (hZ.ar 6) (vp_in_nI (show (s_cu S c0).2.2.2 < 10 from k4) (by decide)) dX6_done_171 (fun H locs hM hS => ?_)
        rw [nI_clamp (by omega)] at hM
        have hR2 : RepR G q (w_sl S (va_up (s_sl S) (s_cu S c0).2.2.2 (s_sl S (s_cu S c0).2.1))) _ := ⟨_, _, hZ.arr 6 _, abs_sl hAb (s_cu S c0).2.2.2 (s_sl S (s_cu S c0).2.1)⟩
        refine lv_iconst (v := 0) hx hb dX6_done_172 (by decide) ?_
        refine zm_iret hx hb hr hlk hM hS ?_ ⟨Nat.le_refl _, Nat.le_refl _⟩ dX6_done_173
        have hs : stp S c0 = (0, w_sl S (va_up (s_sl S) (s_cu S c0).2.2.2 (s_sl S (s_cu S c0).2.1))) := by unfold stp; rw [if_neg (by rw [c29]; decide), ha]; rfl
        exact ⟨by rw [hs], by rw [hs]; exact hR2⟩
    · refine lv_aload_n hx hb dX6_done_40 rfl (lv_at hl 3 rfl) ?_
      refine zm_get hx hb hts hown hE hM hZ.2.1 fl_X6_33_5 rfl dX6_done_41 ?_
      refine lv_iload_n hx hb dX6_done_44 rfl (lv_at hl 4 rfl) ?_
      refine zm_iald hx hb hE hM (hZ.ar 7) (vp_in_nI (show c0 < 30 by omega) (by decide)) dX6_done_45 ?_
      refine zt_eq (v' := .int (nI (s_cu S c0).1)) (by rw [nI_clamp (by omega)]; exact congrArg Value.int ((hAb.2.2.2.2 c0 hc0).1)) ?_
      refine lv_iconst (v := 3) hx hb dX6_done_46 (by decide) ?_
      refine lv_icmp_ge (tgt := 53) hx hb dX6_done_47 (by decide) (fun c47 => ?_) (fun c47 => ?_)
      · refine lv_aload_n hx hb dX6_done_53 rfl (lv_at hl 3 rfl) ?_
        refine zm_get hx hb hts hown hE hM hZ.2.1 fl_X6_33_5 rfl dX6_done_54 ?_
        refine lv_iload_n hx hb dX6_done_57 rfl (lv_at hl 4 rfl) ?_
        refine zm_iald hx hb hE hM (hZ.ar 7) (vp_in_nI (show c0 < 30 by omega) (by decide)) dX6_done_58 ?_
        refine zt_eq (v' := .int (nI (s_cu S c0).1)) (by rw [nI_clamp (by omega)]; exact congrArg Value.int ((hAb.2.2.2.2 c0 hc0).1)) ?_
        rcases (show (s_cu S c0).1 = 0 ∨ (s_cu S c0).1 = 1 ∨ (s_cu S c0).1 = 2 ∨ (s_cu S c0).1 = 3 ∨ (s_cu S c0).1 = 4 ∨ (s_cu S c0).1 = 5 by omega) with ha | ha | ha | ha | ha | ha
        · rw [ha] at c47; exact absurd c47 (by decide)
        · rw [ha] at c47; exact absurd c47 (by decide)
        · rw [ha] at c47; exact absurd c47 (by decide)
        · refine lv_tableIn (off := 70) (tgt := 129) hx hb dX6_done_59 (by rw [ha]; decide) (by rw [ha]; decide) (by rw [ha]; rfl) (by decide) ?_
          refine lv_aload_n hx hb dX6_done_129 rfl (lv_at hl 3 rfl) ?_
          refine lv_iload_n hx hb dX6_done_130 rfl (lv_at hl 1 rfl) ?_
          refine lv_iload hx hb dX6_done_131 (lv_at hl 0 rfl) ?_
          refine lv_aload_n hx hb dX6_done_133 rfl (lv_at hl 3 rfl) ?_
          refine zm_get hx hb hts hown hE hM hZ.2.1 fl_X6_42_5 rfl dX6_done_134 ?_
          refine lv_iload_n hx hb dX6_done_137 rfl (lv_at hl 4 rfl) ?_
          refine zm_iald hx hb hE hM (hZ.ar 10) (vp_in_nI (show c0 < 30 by omega) (by decide)) dX6_done_138 ?_
          refine zt_eq (v' := .int (nI (s_cu S c0).2.2.2)) (by rw [nI_clamp (by omega)]; exact congrArg Value.int ((hAb.2.2.2.2 c0 hc0).2.2.2)) ?_
          have k6 : 8 ≤ (s_cu S c0).2.2.1 ∧ (s_cu S c0).2.2.1 ≤ 15 := by rw [ha] at k5; simpa [hasV] using k5
          refine zm_callV (As := [.int (oI (s_sl S (s_cu S c0).2.1)), .int (nI (s_cu S c0).2.2.1), .int (nI (s_cu S c0).2.2.2)]) (rest := []) hx hb hml hts hown hE hA hM hS hZ.2.1 rfl (c_X6_lay l G A q S _ (s_sl S (s_cu S c0).2.1) (s_cu S c0).2.2.1 (s_cu S c0).2.2.2 hso (fun j hj => gA_row _ (hI.2.2.1 j (hso j hj)).1 _ k6.1 k6.2 (by rw [hj] at c29; exact c29)) k6.1 k6.2 k4 hI ⟨f, g, hZ, hAb⟩) cd_X6_lay ml_X6_127 rfl rfl hl.1 (Nat.le_of_ble_eq_true rfl) ⟨Nat.le_of_ble_eq_true rfl, Nat.le_of_ble_eq_true rfl⟩ ⟨Nat.le_of_ble_eq_true rfl, Nat.le_of_ble_eq_true rfl⟩ dX6_done_139 ?_
          rintro r M1 H locs (⟨hg, rfl, hR2⟩ | ⟨hg, ⟨ho, rfl, hR2⟩ | ⟨j, ho, ⟨hi, rfl, hR2⟩ | ⟨hi, ⟨hq, rfl, hR2⟩ | ⟨hq, rfl, hR2⟩⟩⟩⟩) hM hS
          · refine W.eq (g2 := F0 m 142 ls [.int (-5)]) rfl ?_
            refine zm_iret hx hb hr hlk hM hS ?_ ⟨Nat.le_refl _, Nat.le_refl _⟩ dX6_done_142
            have hs : stp S c0 = (-5, S) := by unfold stp; rw [if_neg (by rw [c29]; decide), ha]; simp only [if_pos hg]
            exact ⟨by rw [hs], by rw [hs]; exact hR2⟩
          · refine W.eq (g2 := F0 m 142 ls [.int (-4)]) rfl ?_
            refine zm_iret hx hb hr hlk hM hS ?_ ⟨Nat.le_refl _, Nat.le_refl _⟩ dX6_done_142
            have hs : stp S c0 = (-4, S) := by unfold stp; rw [if_neg (by rw [c29]; decide), ha]; simp only [if_neg (show ¬ goS S (s_hd S) (inn (s_cu S c0).2.2.1) = false by rw [hg]; decide), ho]
            exact ⟨by rw [hs], by rw [hs]; exact hR2⟩
          · refine W.eq (g2 := F0 m 142 ls [.int (-6)]) rfl ?_
            refine zm_iret hx hb hr hlk hM hS ?_ ⟨Nat.le_refl _, Nat.le_refl _⟩ dX6_done_142
            have hs : stp S c0 = (-6, S) := by unfold stp; rw [if_neg (by rw [c29]; decide), ha]; simp only [if_neg (show ¬ goS S (s_hd S) (inn (s_cu S c0).2.2.1) = false by rw [hg]; decide), ho, if_neg hi]
            exact ⟨by rw [hs], by rw [hs]; exact hR2⟩
          · refine W.eq (g2 := F0 m 142 ls [.int (-7)]) rfl ?_
            refine zm_iret hx hb hr hlk hM hS ?_ ⟨Nat.le_refl _, Nat.le_refl _⟩ dX6_done_142
            have hs : stp S c0 = (-7, S) := by unfold stp; rw [if_neg (by rw [c29]; decide), ha]; simp only [if_neg (show ¬ goS S (s_hd S) (inn (s_cu S c0).2.2.1) = false by rw [hg]; decide), ho, if_pos hi, if_pos hq]
            exact ⟨by rw [hs], by rw [hs]; exact hR2⟩
          · refine W.eq (g2 := F0 m 142 ls [.int 0]) rfl ?_
            refine zm_iret hx hb hr hlk hM hS ?_ ⟨Nat.le_refl _, Nat.le_refl _⟩ dX6_done_142
            have hs : stp S c0 = (0, w_th (w_hd S none) (up2 (s_th S) j (s_cu S c0).2.2.2 (s_hd S))) := by unfold stp; rw [if_neg (by rw [c29]; decide), ha]; simp only [if_neg (show ¬ goS S (s_hd S) (inn (s_cu S c0).2.2.1) = false by rw [hg]; decide), ho, if_pos hi, if_neg (show ¬ goS S (s_hd S) (inn (s_kd S j)) = false by rw [hq]; decide)]
            exact ⟨by rw [hs], by rw [hs]; exact hR2⟩
        · refine lv_tableIn (off := 84) (tgt := 143) hx hb dX6_done_59 (by rw [ha]; decide) (by rw [ha]; decide) (by rw [ha]; rfl) (by decide) ?_
          refine lv_aload_n hx hb dX6_done_143 rfl (lv_at hl 3 rfl) ?_
          refine zm_get hx hb hts hown hE hM hZ.2.1 fl_X6_26_5 rfl dX6_done_144 ?_
          refine lv_iload_n hx hb dX6_done_147 rfl (lv_at hl 2 rfl) ?_
          refine lv_aload_n hx hb dX6_done_148 rfl (lv_at hl 3 rfl) ?_
          refine zm_get hx hb hts hown hE hM hZ.2.1 fl_X6_29_5 rfl dX6_done_149 ?_
          refine zm_iast hx hb hE hM hS (hZ.ar 6) (vp_in_nI (show (s_cu S c0).2.1 < 10 from k2) (by decide)) dX6_done_152 (fun H locs hM hS => ?_)
          rw [nI_clamp (by omega)] at hM
          have hZ1 := hZ.arr 6 (upd (f 6) (s_cu S c0).2.1 (oI (s_hd S)))
          refine lv_aload_n hx hb dX6_done_153 rfl (lv_at hl 3 rfl) ?_
          refine lv_iload_n hx hb dX6_done_154 rfl (lv_at hl 1 rfl) ?_
          refine zm_put hx hb hts hown hE hM hS hZ1.2.1 fp_X6_29_5 rfl rfl (Nat.le_of_ble_eq_true rfl) dX6_done_155 (fun H locs hM hS => ?_)
          have hR2 : RepR G q (w_hd (w_sl S (va_up (s_sl S) (s_cu S c0).2.1 (s_hd S))) (s_sl S (s_cu S c0).2.1)) _ := ⟨_, _, hZ1.fld (objR q (w_hd (w_sl S (va_up (s_sl S) (s_cu S c0).2.1 (s_hd S))) (s_sl S (s_cu S c0).2.1))), abs_sl hAb (s_cu S c0).2.1 (s_hd S)⟩
          refine lv_iconst (v := 0) hx hb dX6_done_158 (by decide) ?_
          refine zm_iret hx hb hr hlk hM hS ?_ ⟨Nat.le_refl _, Nat.le_refl _⟩ dX6_done_159
          have hs : stp S c0 = (0, w_hd (w_sl S (va_up (s_sl S) (s_cu S c0).2.1 (s_hd S))) (s_sl S (s_cu S c0).2.1)) := by unfold stp; rw [if_neg (by rw [c29]; decide), ha]; rfl
          exact ⟨by rw [hs], by rw [hs]; exact hR2⟩
        · refine lv_tableOut (tgt := 160) hx hb dX6_done_59 (by rw [ha]; decide) (by decide) ?_
          refine lv_aload_n hx hb dX6_done_160 rfl (lv_at hl 3 rfl) ?_
          refine zm_get hx hb hts hown hE hM hZ.2.1 fl_X6_26_5 rfl dX6_done_161 ?_
          refine lv_aload_n hx hb dX6_done_164 rfl (lv_at hl 3 rfl) ?_
          refine zm_get hx hb hts hown hE hM hZ.2.1 fl_X6_42_5 rfl dX6_done_165 ?_
          refine lv_iload_n hx hb dX6_done_168 rfl (lv_at hl 4 rfl) ?_
          refine zm_iald hx hb hE hM (hZ.ar 10) (vp_in_nI (show c0 < 30 by omega) (by decide)) dX6_done_169 ?_
          refine zt_eq (v' := .int (nI (s_cu S c0).2.2.2)) (by rw [nI_clamp (by omega)]; exact congrArg Value.int ((hAb.2.2.2.2 c0 hc0).2.2.2)) ?_
          refine lv_iload_n hx hb dX6_done_170 rfl (lv_at hl 1 rfl) ?_
          refine zm_iast hx hb hE hM hS (hZ.ar 6) (vp_in_nI (show (s_cu S c0).2.2.2 < 10 from k4) (by decide)) dX6_done_171 (fun H locs hM hS => ?_)
          rw [nI_clamp (by omega)] at hM
          have hR2 : RepR G q (w_sl S (va_up (s_sl S) (s_cu S c0).2.2.2 (s_sl S (s_cu S c0).2.1))) _ := ⟨_, _, hZ.arr 6 _, abs_sl hAb (s_cu S c0).2.2.2 (s_sl S (s_cu S c0).2.1)⟩
          refine lv_iconst (v := 0) hx hb dX6_done_172 (by decide) ?_
          refine zm_iret hx hb hr hlk hM hS ?_ ⟨Nat.le_refl _, Nat.le_refl _⟩ dX6_done_173
          have hs : stp S c0 = (0, w_sl S (va_up (s_sl S) (s_cu S c0).2.2.2 (s_sl S (s_cu S c0).2.1))) := by unfold stp; rw [if_neg (by rw [c29]; decide), ha]; rfl
          exact ⟨by rw [hs], by rw [hs]; exact hR2⟩
      · refine lv_bipush (v := (-4)) hx hb dX6_done_50 (by decide) ?_
        refine zm_iret hx hb hr hlk hM hS ?_ ⟨Nat.le_refl _, Nat.le_refl _⟩ dX6_done_52
        have ho : s_sl S (s_cu S c0).2.1 = none := (oI_m1 (fun j hj => by have := hso j hj; omega)).mp c37
        have hs : stp S c0 = (-4, S) := by
          rw [show (3 : Int32) = nI 3 from rfl, nI_leI (by omega) (by omega)] at c47
          rcases (show (s_cu S c0).1 = 0 ∨ (s_cu S c0).1 = 1 ∨ (s_cu S c0).1 = 2 by omega) with ha | ha | ha <;> (unfold stp; rw [if_neg (by rw [c29]; decide), ha]; simp only [ho])
        exact ⟨by rw [hs], by rw [hs]; exact ⟨f, g, hZ, hAb⟩⟩
  · rw [bI_0] at c29
    refine lv_bipush (v := (-5)) hx hb dX6_done_32 (by decide) ?_
    refine zm_iret hx hb hr hlk hM hS ?_ ⟨Nat.le_refl _, Nat.le_refl _⟩ dX6_done_34
    exact ⟨by rw [stp_cast c29], by rw [stp_cast c29]; exact ⟨f, g, hZ, hAb⟩⟩
theorem stp_wy (S : zS) (c : Nat) : s_wy (stp S c).2 = s_wy S ∧ s_at (stp S c).2 = s_at S := by
  unfold stp
  repeat (first | exact ⟨rfl, rfl⟩ | split)
theorem play_bad0 {S : zS} {a b : Int32} (h : ix (s_nc S) a = none) : sp_play S a b = (-2, S) := by unfold sp_play; rw [h]
theorem zbt_ti {a b x : Int32} (h : zbt a b x = true) : ¬ x < a ∧ ¬ b < x := by
  unfold zbt at h
  rw [Bool.and_eq_true, decide_eq_true_eq, decide_eq_true_eq] at h
  exact h
theorem zbt_fi {a b x : Int32} (h : zbt a b x = false) : x < a ∨ b < x := by
  by_cases h1 : x < a
  · exact Or.inl h1
  · by_cases h2 : b < x
    · exact Or.inr h2
    · rw [zbt_t h1 h2] at h; cases h
set_option maxRecDepth 100000 in
set_option maxHeartbeats 4000000 in
theorem c_X6_play (l : Launch) (G : zm_G) (A : Nat → Prop) (q : Nat → Nat) (S : zS) (M : zm_M) (a b : Int32) (hI : zInv S) (hR : RepR G q S M) : Met l yX6_play (zm_W yX6_play cX6_play 5 (some .int)) (zm_rm 4 0 0) (zm_Pc G [.ref (q 0), .int a, .int b] A M) (zm_Q G (fun r M' => r = some (.int (sp_play S a b).1) ∧ RepR G q (sp_play S a b).2 M') A) 0 0 A := by
  refine zm_start (by decide) (Nat.le_of_ble_eq_true rfl) ?_
  intro p e s m below meth c hx hb hml hr hts hown hlk hnm hE hA ls hl hM hS
  have hl : lv_has ls 5 [(0, .ref (q 0)), (1, .int a), (2, .int b)] := hl
  obtain ⟨f, g, hZ, hAb⟩ := hR
  have hnp := hI.1
  have hncc := hI.2.1
  refine lv_iload_n hx hb dX6_play_0 rfl (lv_at hl 1 rfl) ?_
  refine lv_iconst (v := 0) hx hb dX6_play_1 (by decide) ?_
  refine lv_aload_n hx hb dX6_play_2 rfl (lv_at hl 0 rfl) ?_
  refine zm_get hx hb hts hown hE hM hZ.2.1 fl_X6_83_5 rfl dX6_play_3 ?_
  refine lv_iconst (v := 1) hx hb dX6_play_6 (by decide) ?_
  refine lv_isub hx hb dX6_play_7 ?_
  refine zm_callS (As := [.int a, .int 0, .int ((nI (s_nc S)) - 1)]) (rest := []) hx hb hml hts hown hE hA hM hS (c_X6_isIn l G A _ a 0 ((nI (s_nc S)) - 1)) cd_X6_isIn ml_X6_51 rfl rfl hl.1 (Nat.le_of_ble_eq_true rfl) ⟨Nat.le_of_ble_eq_true rfl, Nat.le_of_ble_eq_true rfl⟩ ⟨Nat.le_of_ble_eq_true rfl, Nat.le_of_ble_eq_true rfl⟩ dX6_play_8 ?_
  rintro r M1 H locs ⟨rfl, e1⟩ hM hS
  rw [e1] at hM
  clear e1 M1
  refine W.eq (g2 := F0 m 11 ls [.int (bI (zbt 0 ((nI (s_nc S)) - 1) a))]) rfl ?_
  refine lv_if_eq (tgt := 28) hx hb dX6_play_11 (by decide) (fun c11 => ?_) (fun c11 => ?_)
  · rw [zbt_np (by omega), bI_0] at c11
    have hia := isS_f c11
    refine lv_bipush (v := (-2)) hx hb dX6_play_28 (by decide) ?_
    refine zm_iret hx hb hr hlk hM hS ?_ ⟨Nat.le_refl _, Nat.le_refl _⟩ dX6_play_30
    have hs : sp_play S a b = (-2, S) := by first | exact play_bad0 hia | exact play_bad hI ((zbt_fi c25).elim (fun z => Or.inr (Or.inl z)) (fun z => Or.inr (Or.inr ((lt_pred (pred_toInt (by omega))).mp z))))
    exact ⟨by rw [hs], by rw [hs]; exact ⟨f, g, hZ, hAb⟩⟩
  · rw [zbt_np (by omega), bI_n] at c11
    obtain ⟨x0, hia0⟩ := isS_t c11
    have ha0 : ¬ a < 0 := fun z => by rw [ix_lt z] at hia0; cases hia0
    refine lv_iload_n hx hb dX6_play_14 rfl (lv_at hl 2 rfl) ?_
    refine lv_iload_n hx hb dX6_play_15 rfl (lv_at hl 1 rfl) ?_
    refine lv_aload_n hx hb dX6_play_16 rfl (lv_at hl 0 rfl) ?_
    refine zm_get hx hb hts hown hE hM hZ.2.1 fl_X6_83_5 rfl dX6_play_17 ?_
    refine lv_iconst (v := 1) hx hb dX6_play_20 (by decide) ?_
    refine lv_isub hx hb dX6_play_21 ?_
    refine zm_callS (As := [.int b, .int a, .int ((nI (s_nc S)) - 1)]) (rest := []) hx hb hml hts hown hE hA hM hS (c_X6_isIn l G A _ b a ((nI (s_nc S)) - 1)) cd_X6_isIn ml_X6_51 rfl rfl hl.1 (Nat.le_of_ble_eq_true rfl) ⟨Nat.le_of_ble_eq_true rfl, Nat.le_of_ble_eq_true rfl⟩ ⟨Nat.le_of_ble_eq_true rfl, Nat.le_of_ble_eq_true rfl⟩ dX6_play_22 ?_
    rintro r M1 H locs ⟨rfl, e1⟩ hM hS
    rw [e1] at hM
    clear e1 M1
    refine W.eq (g2 := F0 m 25 ls [.int (bI (zbt a ((nI (s_nc S)) - 1) b))]) rfl ?_
    refine lv_if_ne (tgt := 31) hx hb dX6_play_25 (by decide) (fun c25 => ?_) (fun c25 => ?_)
    · rw [bI_n] at c25
      obtain ⟨d1, d2⟩ := zbt_ti c25
      obtain ⟨x, y, rfl, rfl, hxy, hy, hs⟩ := play_ok hI ha0 d1 (by rw [← Int32.not_le]; exact (le_pred (pred_toInt (by omega))).mp d2)
      refine lv_aload_n hx hb dX6_play_31 rfl (lv_at hl 0 rfl) ?_
      refine lv_iconst (v := 0) hx hb dX6_play_32 (by decide) ?_
      refine zm_put hx hb hts hown hE hM hS hZ.2.1 fp_X6_131_5 rfl rfl (Nat.le_of_ble_eq_true rfl) dX6_play_33 (fun H locs hM hS => ?_)
      have hZ1 := hZ.fld (objR q (w_ms S 0 (s_at S) (s_of S)))
      refine lv_aload_n hx hb dX6_play_36 rfl (lv_at hl 0 rfl) ?_
      refine lv_iconst (v := (-1)) hx hb dX6_play_37 (by decide) ?_
      refine zm_put hx hb hts hown hE hM hS hZ1.2.1 fp_X6_45_5 rfl rfl (Nat.le_of_ble_eq_true rfl) dX6_play_38 (fun H locs hM hS => ?_)
      have hZ2 := hZ1.fld (objR q (w_ms S 0 (-1) (s_of S)))
      refine lv_iconst (v := 0) hx hb dX6_play_41 (by decide) ?_
      refine lv_istore_n (lv' := [(3, .int 0), (0, .ref (q 0)), (1, .int (nI x)), (2, .int (nI y))]) hx hb dX6_play_42 rfl hl (by decide) rfl (fun ls hl => ?_)
      refine lv_iload_n hx hb dX6_play_43 rfl (lv_at hl 2 rfl) ?_
      refine lv_istore (lv' := [(4, .int (nI x)), (3, .int 0), (0, .ref (q 0)), (1, .int (nI x)), (2, .int (nI y))]) hx hb dX6_play_44 hl (by decide) rfl (fun ls hl => ?_)
      have loop : ∀ (n k : Nat), x ≤ k → k ≤ y + 1 → y + 2 ≤ k + n → ∀ (ls : Array Slot) (S1 : zS) (M : zm_M) (H : Heap) (locs : List Loc), zInv S1 → s_nc S1 = s_nc S → s_wy S1 = 0 → pls (y + 1 - x) x (w_ms S 0 (-1) (s_of S)) = ((pls (y + 1 - k) k S1).1 + (k - x), (pls (y + 1 - k) k S1).2) → RepR G q S1 M → zm_P G A M H → va_S A s.heap H locs → lv_has ls 5 [(4, .int (nI k)), (3, .int (nI (k - x))), (0, .ref (q 0)), (1, .int (nI x)), (2, .int (nI y))] → W p l e (zm_rm 4 0 0) s m [.ref (q 0), .int (nI x), .int (nI y)].toArray below meth c H locs 0 0 (MQ below (zm_Q G (fun r M' => r = some (.int (sp_play S (nI x) (nI y)).1) ∧ RepR G q (sp_play S (nI x) (nI y)).2 M') A) [.ref (q 0), .int (nI x), .int (nI y)].toArray s 0 0 A) (F0 m 46 ls []) := by
        intro n
        induction n with
        | zero => intro k h0 h1 h2; exact absurd h2 (by omega)
        | succ n ih =>
          intro k hk0 hk1 hk2 ls S1 M H locs hI1 hn1 hw1 hp hR1 hM hS hl
          obtain ⟨f, g, hZ, hAb⟩ := hR1
          refine lv_iload hx hb dX6_play_46 (lv_at hl 0 rfl) ?_
          refine lv_iload_n hx hb dX6_play_48 rfl (lv_at hl 4 rfl) ?_
          refine lv_icmp_gt (tgt := 104) hx hb dX6_play_49 (by decide) (fun c49 => ?_) (fun c49 => ?_)
          · rw [nI_ltI (by omega) (by omega)] at c49
            refine lv_iload_n hx hb dX6_play_104 rfl (lv_at hl 1 rfl) ?_
            refine zm_iret hx hb hr hlk hM hS ?_ ⟨Nat.le_refl _, Nat.le_refl _⟩ dX6_play_105
            rw [show y + 1 - k = 0 by omega] at hp
            rw [hs, hp]
            exact ⟨by show _ = some (Value.int (nI (0 + (k - x)))); rw [Nat.zero_add], f, g, hZ, hAb⟩
          · rw [nI_ltI (by omega) (by omega)] at c49
            refine lv_aload_n hx hb dX6_play_52 rfl (lv_at hl 2 rfl) ?_
            refine zm_get hx hb hts hown hE hM hZ.2.1 fl_X6_131_5 rfl dX6_play_53 ?_
            refine lv_if_ne (tgt := 104) hx hb dX6_play_56 (by decide) (fun c56 => ?_) (fun c56 => ?_)
            · exact absurd hw1 c56
            · refine lv_aload_n hx hb dX6_play_59 rfl (lv_at hl 2 rfl) ?_
              refine lv_aload_n hx hb dX6_play_60 rfl (lv_at hl 2 rfl) ?_
              refine lv_iload hx hb dX6_play_61 (lv_at hl 0 rfl) ?_
              have hkn : k < s_nc S1 := by omega
              refine zm_callV (As := [.int (nI k)]) (rest := [.ref (q 0)]) hx hb hml hts hown hE hA hM hS hZ.2.1 rfl (c_X6_done l G A q S1 _ k hkn hI1 ⟨f, g, hZ, hAb⟩) cd_X6_done ml_X6_134 rfl rfl hl.1 (Nat.le_of_ble_eq_true rfl) ⟨Nat.le_of_ble_eq_true rfl, Nat.le_of_ble_eq_true rfl⟩ ⟨Nat.le_of_ble_eq_true rfl, Nat.le_of_ble_eq_true rfl⟩ dX6_play_63 ?_
              rintro r M1 H locs ⟨rfl, hR2⟩ hM hS
              obtain ⟨f, g, hZ, hAb⟩ := hR2
              refine W.eq (g2 := F0 m 66 ls [.int ((stp S1 k).1), .ref (q 0)]) rfl ?_
              refine zm_put hx hb hts hown hE hM hS hZ.2.1 fp_X6_131_5 rfl rfl (Nat.le_of_ble_eq_true rfl) dX6_play_66 (fun H locs hM hS => ?_)
              have hZ3 := hZ.fld (objR q (w_ms (stp S1 k).2 (stp S1 k).1 (s_at (stp S1 k).2) (s_of (stp S1 k).2)))
              refine lv_aload_n hx hb dX6_play_69 rfl (lv_at hl 2 rfl) ?_
              refine zm_get hx hb hts hown hE hM hZ3.2.1 fl_X6_131_5 rfl dX6_play_70 ?_
              refine lv_if_ne (tgt := 82) hx hb dX6_play_73 (by decide) (fun c73 => ?_) (fun c73 => ?_)
              · have c73 : ¬ (stp S1 k).1 = 0 := c73
                have hS1 := (stp_inv hI1 hkn).2.2.2.2.2 c73
                rw [hS1] at hZ3 hAb hM
                refine lv_aload_n hx hb dX6_play_82 rfl (lv_at hl 2 rfl) ?_
                refine lv_iload hx hb dX6_play_83 (lv_at hl 0 rfl) ?_
                refine zm_put hx hb hts hown hE hM hS hZ3.2.1 fp_X6_45_5 rfl rfl (Nat.le_of_ble_eq_true rfl) dX6_play_85 (fun H locs hM hS => ?_)
                have hZ4 := hZ3.fld (objR q (w_ms S1 (stp S1 k).1 (nI k) (s_of S1)))
                refine lv_aload_n hx hb dX6_play_88 rfl (lv_at hl 2 rfl) ?_
                refine lv_dup hx hb dX6_play_89 rfl ?_
                refine zm_get hx hb hts hown hE hM hZ4.2.1 fl_X6_137_5 rfl dX6_play_90 ?_
                refine lv_iconst (v := 1) hx hb dX6_play_93 (by decide) ?_
                refine lv_iadd hx hb dX6_play_94 ?_
                refine zm_put hx hb hts hown hE hM hS hZ4.2.1 fp_X6_137_5 rfl rfl (Nat.le_of_ble_eq_true rfl) dX6_play_95 (fun H locs hM hS => ?_)
                have hZ5 := hZ4.fld (objR q (w_ms S1 (stp S1 k).1 (nI k) (s_of S1 + 1)))
                refine lv_iinc (v := nI (k + 1)) (lv' := [(4, .int (nI (k + 1))), (3, .int (nI (k - x))), (0, .ref (q 0)), (1, .int (nI x)), (2, .int (nI y))]) hx hb dX6_play_98 hl (k := 0) rfl (nI_1 k) (by decide) rfl (fun ls hl => ?_)
                refine lv_goto (tgt := 46) hx hb dX6_play_101 (by decide) ?_
                refine lv_iload hx hb dX6_play_46 (lv_at hl 0 rfl) ?_
                refine lv_iload_n hx hb dX6_play_48 rfl (lv_at hl 4 rfl) ?_
                refine lv_icmp_gt (tgt := 104) hx hb dX6_play_49 (by decide) (fun c49 => ?_) (fun c49 => ?_)
                · refine lv_iload_n hx hb dX6_play_104 rfl (lv_at hl 1 rfl) ?_
                  refine zm_iret hx hb hr hlk hM hS ?_ ⟨Nat.le_refl _, Nat.le_refl _⟩ dX6_play_105
                  rw [show y + 1 - k = (y - k) + 1 by omega, pls_f c73] at hp
                  rw [hs, hp]
                  exact ⟨by show _ = some (Value.int (nI (0 + (k - x)))); rw [Nat.zero_add], f, g, hZ5, hAb⟩
                · refine lv_aload_n hx hb dX6_play_52 rfl (lv_at hl 2 rfl) ?_
                  refine zm_get hx hb hts hown hE hM hZ5.2.1 fl_X6_131_5 rfl dX6_play_53 ?_
                  refine lv_if_ne (tgt := 104) hx hb dX6_play_56 (by decide) (fun c56 => ?_) (fun c56 => ?_)
                  · refine lv_iload_n hx hb dX6_play_104 rfl (lv_at hl 1 rfl) ?_
                    refine zm_iret hx hb hr hlk hM hS ?_ ⟨Nat.le_refl _, Nat.le_refl _⟩ dX6_play_105
                    rw [show y + 1 - k = (y - k) + 1 by omega, pls_f c73] at hp
                    rw [hs, hp]
                    exact ⟨by show _ = some (Value.int (nI (0 + (k - x)))); rw [Nat.zero_add], f, g, hZ5, hAb⟩
                  · exact absurd c56 c73
              · have c73 : (stp S1 k).1 = 0 := c73
                have h73 : (stp S1 k).1 = s_wy (stp S1 k).2 := c73.trans ((stp_wy S1 k).1.trans hw1).symm
                have e73 : (w_ms (stp S1 k).2 (stp S1 k).1 (s_at (stp S1 k).2) (s_of (stp S1 k).2)) = (stp S1 k).2 := congrArg (fun z => w_ms (stp S1 k).2 z (s_at (stp S1 k).2) (s_of (stp S1 k).2)) h73
                have hh : RepR G q (w_ms (stp S1 k).2 (stp S1 k).1 (s_at (stp S1 k).2) (s_of (stp S1 k).2)) (zm_up M1 (q 0) (.inr (5, objR q (w_ms (stp S1 k).2 (stp S1 k).1 (s_at (stp S1 k).2) (s_of (stp S1 k).2))))) := ⟨_, _, hZ3, hAb⟩
                have hR3 : RepR G q (stp S1 k).2 (zm_up M1 (q 0) (.inr (5, objR q (w_ms (stp S1 k).2 (stp S1 k).1 (s_at (stp S1 k).2) (s_of (stp S1 k).2))))) := Eq.mp (congrArg (fun z => RepR G q z (zm_up M1 (q 0) (.inr (5, objR q (w_ms (stp S1 k).2 (stp S1 k).1 (s_at (stp S1 k).2) (s_of (stp S1 k).2)))))) e73) hh
                refine lv_iinc (v := nI (k + 1 - x)) (lv' := [(3, .int (nI (k + 1 - x))), (4, .int (nI k)), (0, .ref (q 0)), (1, .int (nI x)), (2, .int (nI y))]) hx hb dX6_play_76 hl (k := 1) rfl (by show nI (k - x) + 1 = _; rw [nI_1, show k - x + 1 = k + 1 - x by omega]) (by decide) rfl (fun ls hl => ?_)
                refine lv_goto (tgt := 98) hx hb dX6_play_79 (by decide) ?_
                refine lv_iinc (v := nI (k + 1)) (lv' := [(4, .int (nI (k + 1))), (3, .int (nI (k + 1 - x))), (0, .ref (q 0)), (1, .int (nI x)), (2, .int (nI y))]) hx hb dX6_play_98 hl (k := 1) rfl (nI_1 k) (by decide) rfl (fun ls hl => ?_)
                refine lv_goto (tgt := 46) hx hb dX6_play_101 (by decide) ?_
                exact ih (k + 1) (by omega) (by omega) (by omega) ls _ _ _ _ (stp_inv hI1 hkn).1 ((stp_inv hI1 hkn).2.1.trans hn1) ((stp_wy S1 k).1.trans hw1) (by rw [hp, show y + 1 - k = (y + 1 - (k + 1)) + 1 by omega, pls_s c73]; exact Prod.ext (by show _ + 1 + (k - x) = _ + (k + 1 - x); omega) rfl) hR3 hM hS (lv_sub hl [0, 1, 2, 3, 4] rfl)
      exact loop (y + 2) x (Nat.le_refl _) (by omega) (by omega) ls (w_ms S 0 (-1) (s_of S)) _ _ _ (hI.ms 0 (-1) (s_of S)) rfl rfl (by simp) ⟨f, g, hZ2, hAb⟩ hM hS (by rw [show nI (x - x) = 0 by rw [Nat.sub_self]; rfl]; exact (lv_sub hl [0, 1, 2, 3, 4] rfl))
    · rw [bI_0] at c25
      refine lv_bipush (v := (-2)) hx hb dX6_play_28 (by decide) ?_
      refine zm_iret hx hb hr hlk hM hS ?_ ⟨Nat.le_refl _, Nat.le_refl _⟩ dX6_play_30
      have hs : sp_play S a b = (-2, S) := by first | exact play_bad0 hia | exact play_bad hI ((zbt_fi c25).elim (fun z => Or.inr (Or.inl z)) (fun z => Or.inr (Or.inr ((lt_pred (pred_toInt (by omega))).mp z))))
      exact ⟨by rw [hs], by rw [hs]; exact ⟨f, g, hZ, hAb⟩⟩
