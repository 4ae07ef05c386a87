theorem ix_dec {n i : Nat} (hn : n < 1000) (hi : i < 1000) : (ix n (nI i)).isSome = decide (i < n) := by
  by_cases h : i < n
  · rw [ix_nI (by omega) h]; simp [h]
  · rw [ix_ge (nI_le (by omega) (by omega))]; simp [h]
set_option maxRecDepth 100000 in
set_option maxHeartbeats 4000000 in
theorem c_X5_takePart (l : Launch) (G : zm_G) (A : Nat → Prop) (B : zB) (S : zS) (M : zm_M) (o : Option Nat) (ho : ∀ j, o = some j → j < s_np S) (hrow : ∀ j, o = some j → isRw (s_kd S j) = true) (ii : Nat) (hii : ii < 10) (hI : zInv S) (hR : RepC G B S M) : Met l yX5_takePart (zm_W yX5_takePart cX5_takePart 4 (some .int)) (zm_rm 1 0 0) (zm_Pc G [.ref B.1.1, va_rf (oA B o), .int (nI ii)] A M) (zm_Q G (fun r M' => (o = none ∧ r = some (.int (-4)) ∧ RepC G B S M') ∨ ∃ j, o = some j ∧ ((ii < s_sz S j ∧ r = some (.int 0) ∧ RepC G B (w_th (w_hd S (s_th S j ii)) (up2 (s_th S) j ii none)) M') ∨ (¬ ii < s_sz S j ∧ r = some (.int (-6)) ∧ RepC G B S M'))) A) 0 0 A := by
  refine zm_start (by decide) (by generalize (oA B o) = z; cases z <;> exact Nat.le_of_ble_eq_true rfl) ?_
  intro p e s m below meth c hx hb hml hr hts hown hlk hnm hE hA ls hl hM hS
  have hl : lv_has ls 4 [(0, .ref B.1.1), (1, va_rf (oA B o)), (2, .int (nI ii))] := by revert hl; generalize (oA B o) = z; cases z <;> exact id
  refine zq_aload_n hx hb dX5_takePart_0 rfl (lv_at hl 1 rfl) ?_
  rcases o with _ | j
  · refine zt_eq (v' := .null) rfl ?_
    refine lv_instN hx hb dX5_takePart_1 ?_
    have hl : lv_has ls 4 [(0, .ref B.1.1), (1, .null), (2, .int (nI ii))] := hl
    refine lv_if_eq (tgt := 15) hx hb dX5_takePart_4 (by decide) (fun c4 => ?_) (fun c4 => ?_)
    · refine lv_bipush (v := (-4)) hx hb dX5_takePart_15 (by decide) ?_
      refine zm_iret hx hb hr hlk hM hS ?_ ⟨Nat.le_refl _, Nat.le_refl _⟩ dX5_takePart_17
      exact Or.inl ⟨rfl, rfl, hR⟩
    · exact absurd rfl c4
  · have hj := ho j rfl
    have hk := hrow j rfl
    have hc := hR.2.2.2.2.2.1 j hj
    rw [pcell_rw hk] at hc
    have hl : lv_has ls 4 [(0, .ref B.1.1), (1, .ref (B.2.1 j)), (2, .int (nI ii))] := hl
    obtain ⟨f6, h6, e6⟩ := hR.2.2.2.2.2.2.1 j hj hk
    have h5 := hI.sz5 hj (rw_pc hk)
    have h8 : 8 ≤ s_kd S j ∧ s_kd S j ≤ 15 := by simpa [isRw] using hk
    refine zt_eq (v' := .ref (B.2.1 j)) rfl ?_
    refine zm_instY hx hb hts hown hE hM hc rfl (by decide) clk_X5_107 dX5_takePart_1 ?_
    refine lv_if_eq (tgt := 15) hx hb dX5_takePart_4 (by decide) (fun c4 => ?_) (fun c4 => ?_)
    · exact absurd c4 (by decide)
    · refine lv_aload_n hx hb dX5_takePart_7 rfl (lv_at hl 1 rfl) ?_
      refine zm_cast hx hb hts hown hE hM hc rfl (by decide) clk_X5_107 dX5_takePart_8 ?_
      refine lv_astore_n (lv' := [(3, .ref (B.2.1 j)), (0, .ref B.1.1), (1, .ref (B.2.1 j)), (2, .int (nI ii))]) hx hb dX5_takePart_11 rfl hl (by decide) rfl (fun ls hl => ?_)
      refine lv_goto (tgt := 18) hx hb dX5_takePart_12 (by decide) ?_
      refine lv_aload_n hx hb dX5_takePart_18 rfl (lv_at hl 0 rfl) ?_
      refine lv_iload_n hx hb dX5_takePart_19 rfl (lv_at hl 3 rfl) ?_
      refine zm_callV (As := [.int (nI ii)]) (rest := []) hx hb hml hts hown hE hA hM hS hc rfl (c_X4_hasPlace l G A _ _ _ (s_sz S j) (nI j) (nI (s_kd S j)) (nI ii) f6 (by omega) hc h6) cd_X4_hasPlace ml_X5_109 rfl rfl hl.1 (Nat.le_of_ble_eq_true rfl) ⟨Nat.le_of_ble_eq_true rfl, Nat.le_of_ble_eq_true rfl⟩ ⟨Nat.le_of_ble_eq_true rfl, Nat.le_of_ble_eq_true rfl⟩ dX5_takePart_20 ?_
      rintro r M1 H locs ⟨rfl, e1⟩ hM hS
      rw [e1] at hM
      clear e1 M1
      refine W.eq (g2 := F0 m 23 ls [.int (bI (ix (s_sz S j) (nI ii)).isSome)]) rfl ?_
      refine lv_if_ne (tgt := 29) hx hb dX5_takePart_23 (by decide) (fun c23 => ?_) (fun c23 => ?_)
      · rw [bI_n, ix_dec (by omega) (by omega)] at c23
        have hi := of_decide_eq_true c23
        refine lv_aload_n hx hb dX5_takePart_29 rfl (lv_at hl 1 rfl) ?_
        refine lv_aload_n hx hb dX5_takePart_30 rfl (lv_at hl 0 rfl) ?_
        refine zm_get hx hb hts hown hE hM hc fl_X5_112_3 rfl dX5_takePart_31 ?_
        refine lv_iload_n hx hb dX5_takePart_34 rfl (lv_at hl 3 rfl) ?_
        refine zm_aldR hx hb hE hM h6 (vp_in_nI hi (by omega)) dX5_takePart_35 ?_
        refine zt_eq (v' := va_rf (oA B (s_th S j ii))) (by rw [nI_clamp (by omega), e6 ii hi]) ?_
        refine zm_put hx hb hts hown hE hM hS hR.1 fp_X5_57_4 (zq_nar _) (zq_fit _) (Nat.le_of_ble_eq_true rfl) dX5_takePart_36 (fun H locs hM hS => ?_)
        have hR1 := hR.fld (S' := w_hd S (s_th S j ii)) rfl rfl rfl rfl (Nat.le_refl _) rfl
        have hI1 : zInv (w_hd S (s_th S j ii)) := hI.hd (fun t ht => (hI.2.2.2.1 j hj h8.1 ii t hi ht).1)
        have hc1 := hR1.2.2.2.2.2.1 j hj
        rw [pcell_rw (S := w_hd S (s_th S j ii)) hk] at hc1
        obtain ⟨f6, h6, e6⟩ := hR1.2.2.2.2.2.2.1 j hj hk
        refine lv_aload_n hx hb dX5_takePart_39 rfl (lv_at hl 0 rfl) ?_
        refine zm_get hx hb hts hown hE hM hc1 fl_X5_112_3 rfl dX5_takePart_40 ?_
        refine lv_iload_n hx hb dX5_takePart_43 rfl (lv_at hl 3 rfl) ?_
        refine lv_null hx hb dX5_takePart_44 ?_
        refine zm_astN hx hb hE hM hS h6 (vp_in_nI (show ii < s_sz S j from hi) (show s_sz S j < _ by omega)) dX5_takePart_45 (fun H locs hM hS => ?_)
        rw [nI_clamp (by omega)] at hM
        have hR2 := hR1.place hI1 (i := ii) (o := none) hj hk h6 e6
        refine lv_iconst (v := 0) hx hb dX5_takePart_46 (by decide) ?_
        refine zm_iret hx hb hr hlk hM hS ?_ ⟨Nat.le_refl _, Nat.le_refl _⟩ dX5_takePart_47
        exact Or.inr ⟨j, rfl, Or.inl ⟨hi, rfl, hR2⟩⟩
      · rw [bI_0, ix_dec (by omega) (by omega)] at c23
        have hi := of_decide_eq_false c23
        refine lv_bipush (v := (-6)) hx hb dX5_takePart_26 (by decide) ?_
        refine zm_iret hx hb hr hlk hM hS ?_ ⟨Nat.le_refl _, Nat.le_refl _⟩ dX5_takePart_28
        exact Or.inr ⟨j, rfl, Or.inr ⟨hi, rfl, hR⟩⟩
theorem inn17 : ∀ v, inn v < 17 := by intro v; unfold inn; split <;> decide
set_option maxRecDepth 100000 in
set_option maxHeartbeats 4000000 in
theorem c_X5_layPart (l : Launch) (G : zm_G) (A : Nat → Prop) (B : zB) (S : zS) (M : zm_M) (o : Option Nat) (ho : ∀ j, o = some j → j < s_np S) (hrow : ∀ j, o = some j → isRw (s_kd S j) = true) (v ii : Nat) (hv8 : 8 ≤ v) (hv15 : v ≤ 15) (hii : ii < 10) (hI : zInv S) (hR : RepC G B S M) : Met l yX5_layPart (zm_W yX5_layPart cX5_layPart 5 (some .int)) (zm_rm 2 0 0) (zm_Pc G [.ref B.1.1, va_rf (oA B o), .int (nI v), .int (nI ii)] A M) (zm_Q G (fun r M' => (goS S (s_hd S) (inn v) = false ∧ r = some (.int (-5)) ∧ RepC G B S M') ∨ (goS S (s_hd S) (inn v) = true ∧ ((o = none ∧ r = some (.int (-4)) ∧ RepC G B S M') ∨ ∃ j, o = some j ∧ ((¬ ii < s_sz S j ∧ r = some (.int (-6)) ∧ RepC G B S M') ∨ (ii < s_sz S j ∧ ((goS S (s_hd S) (inn (s_kd S j)) = false ∧ r = some (.int (-7)) ∧ RepC G B S M') ∨ (goS S (s_hd S) (inn (s_kd S j)) = true ∧ r = some (.int 0) ∧ RepC G B (w_th (w_hd S none) (up2 (s_th S) j ii (s_hd S))) M'))))))) A) 0 0 A := by
  refine zm_start (by decide) (by generalize (oA B o) = z; cases z <;> exact Nat.le_of_ble_eq_true rfl) ?_
  intro p e s m below meth c hx hb hml hr hts hown hlk hnm hE hA ls hl hM hS
  have hl : lv_has ls 5 [(0, .ref B.1.1), (1, va_rf (oA B o)), (2, .int (nI v)), (3, .int (nI ii))] := by revert hl; generalize (oA B o) = z; cases z <;> exact id
  refine lv_aload_n hx hb dX5_layPart_0 rfl (lv_at hl 0 rfl) ?_
  refine zm_get hx hb hts hown hE hM hR.1 fl_X5_57_4 rfl dX5_layPart_1 ?_
  refine lv_iload_n hx hb dX5_layPart_4 rfl (lv_at hl 2 rfl) ?_
  refine zm_callS (As := [.int (nI v)]) (rest := [va_rf (oA B (s_hd S))]) hx hb hml hts hown hE hA hM hS (c_X5_partView l G A _ v (by omega) (by omega)) cd_X5_partView ml_X5_145 rfl rfl hl.1 (by simp only [List.map_cons, List.map_nil, zq_cat]; exact Nat.le_of_ble_eq_true rfl) ⟨Nat.le_of_ble_eq_true rfl, Nat.le_of_ble_eq_true rfl⟩ ⟨Nat.le_of_ble_eq_true rfl, Nat.le_of_ble_eq_true rfl⟩ dX5_layPart_5 ?_
  rintro r M1 H locs ⟨rfl, e1⟩ hM hS
  rw [e1] at hM
  clear e1 M1
  refine W.eq (g2 := F0 m 8 ls [.int (nI (inn v)), va_rf (oA B (s_hd S))]) rfl ?_
  refine zm_callS (As := [va_rf (oA B (s_hd S)), .int (nI (inn v))]) (rest := []) hx hb hml hts hown hE hA hM hS (c_X5_goesAs l G A B S _ (s_hd S) (inn v) (inn17 _) hI hR (hI.2.2.2.2.2.1)) cd_X5_goesAs ml_X5_91 rfl rfl hl.1 (Nat.le_of_ble_eq_true rfl) ⟨Nat.le_of_ble_eq_true rfl, Nat.le_of_ble_eq_true rfl⟩ ⟨Nat.le_of_ble_eq_true rfl, Nat.le_of_ble_eq_true rfl⟩ dX5_layPart_8 ?_
  rintro r M1 H locs ⟨rfl, e1⟩ hM hS
  rw [e1] at hM
  clear e1 M1
  refine W.eq (g2 := F0 m 11 ls [.int (bI (goS S (s_hd S) (inn v)))]) rfl ?_
  refine lv_if_ne (tgt := 17) hx hb dX5_layPart_11 (by decide) (fun c11 => ?_) (fun c11 => ?_)
  · rw [bI_n] at c11
    refine zq_aload_n hx hb dX5_layPart_17 rfl (lv_at hl 1 rfl) ?_
    rcases o with _ | j
    · refine zt_eq (v' := .null) rfl ?_
      refine lv_instN hx hb dX5_layPart_18 ?_
      have hl : lv_has ls 5 [(0, .ref B.1.1), (1, .null), (2, .int (nI v)), (3, .int (nI ii))] := hl
      refine lv_if_eq (tgt := 33) hx hb dX5_layPart_21 (by decide) (fun c21 => ?_) (fun c21 => ?_)
      · refine lv_bipush (v := (-4)) hx hb dX5_layPart_33 (by decide) ?_
        refine zm_iret hx hb hr hlk hM hS ?_ ⟨Nat.le_refl _, Nat.le_refl _⟩ dX5_layPart_35
        exact Or.inr ⟨c11, Or.inl ⟨rfl, rfl, hR⟩⟩
      · exact absurd rfl c21
    · have hj := ho j rfl
      have hk := hrow j rfl
      have hc := hR.2.2.2.2.2.1 j hj
      rw [pcell_rw hk] at hc
      have hl : lv_has ls 5 [(0, .ref B.1.1), (1, .ref (B.2.1 j)), (2, .int (nI v)), (3, .int (nI ii))] := hl
      obtain ⟨f6, h6, e6⟩ := hR.2.2.2.2.2.2.1 j hj hk
      have h5 := hI.sz5 hj (rw_pc hk)
      have h8 : 8 ≤ s_kd S j ∧ s_kd S j ≤ 15 := by simpa [isRw] using hk
      refine zt_eq (v' := .ref (B.2.1 j)) rfl ?_
      refine zm_instY hx hb hts hown hE hM hc rfl (by decide) clk_X5_107 dX5_layPart_18 ?_
      refine lv_if_eq (tgt := 33) hx hb dX5_layPart_21 (by decide) (fun c21 => ?_) (fun c21 => ?_)
      · exact absurd c21 (by decide)
      · refine lv_aload_n hx hb dX5_layPart_24 rfl (lv_at hl 1 rfl) ?_
        refine zm_cast hx hb hts hown hE hM hc rfl (by decide) clk_X5_107 dX5_layPart_25 ?_
        refine lv_astore (lv' := [(4, .ref (B.2.1 j)), (0, .ref B.1.1), (1, .ref (B.2.1 j)), (2, .int (nI v)), (3, .int (nI ii))]) hx hb dX5_layPart_28 hl (by decide) rfl (fun ls hl => ?_)
        refine lv_goto (tgt := 36) hx hb dX5_layPart_30 (by decide) ?_
        refine lv_aload hx hb dX5_layPart_36 (lv_at hl 0 rfl) ?_
        refine lv_iload_n hx hb dX5_layPart_38 rfl (lv_at hl 4 rfl) ?_
        refine zm_callV (As := [.int (nI ii)]) (rest := []) hx hb hml hts hown hE hA hM hS hc rfl (c_X4_hasPlace l G A _ _ _ (s_sz S j) (nI j) (nI (s_kd S j)) (nI ii) f6 (by omega) hc h6) cd_X4_hasPlace ml_X5_109 rfl rfl hl.1 (Nat.le_of_ble_eq_true rfl) ⟨Nat.le_of_ble_eq_true rfl, Nat.le_of_ble_eq_true rfl⟩ ⟨Nat.le_of_ble_eq_true rfl, Nat.le_of_ble_eq_true rfl⟩ dX5_layPart_39 ?_
        rintro r M1 H locs ⟨rfl, e1⟩ hM hS
        rw [e1] at hM
        clear e1 M1
        refine W.eq (g2 := F0 m 42 ls [.int (bI (ix (s_sz S j) (nI ii)).isSome)]) rfl ?_
        refine lv_if_ne (tgt := 48) hx hb dX5_layPart_42 (by decide) (fun c42 => ?_) (fun c42 => ?_)
        · rw [bI_n, ix_dec (by omega) (by omega)] at c42
          have hi := of_decide_eq_true c42
          refine lv_aload_n hx hb dX5_layPart_48 rfl (lv_at hl 1 rfl) ?_
          refine zm_get hx hb hts hown hE hM hR.1 fl_X5_57_4 rfl dX5_layPart_49 ?_
          refine lv_aload hx hb dX5_layPart_52 (lv_at hl 0 rfl) ?_
          refine zm_get hx hb hts hown hE hM hc fl_X5_148_3 rfl dX5_layPart_54 ?_
          refine zm_callS (As := [.int (nI (s_kd S j))]) (rest := [va_rf (oA B (s_hd S))]) hx hb hml hts hown hE hA hM hS (c_X5_partView l G A _ (s_kd S j) (by omega) (by omega)) cd_X5_partView ml_X5_145 rfl rfl hl.1 (by simp only [List.map_cons, List.map_nil, zq_cat]; exact Nat.le_of_ble_eq_true rfl) ⟨Nat.le_of_ble_eq_true rfl, Nat.le_of_ble_eq_true rfl⟩ ⟨Nat.le_of_ble_eq_true rfl, Nat.le_of_ble_eq_true rfl⟩ dX5_layPart_57 ?_
          rintro r M1 H locs ⟨rfl, e1⟩ hM hS
          rw [e1] at hM
          clear e1 M1
          refine W.eq (g2 := F0 m 60 ls [.int (nI (inn (s_kd S j))), va_rf (oA B (s_hd S))]) rfl ?_
          refine zm_callS (As := [va_rf (oA B (s_hd S)), .int (nI (inn (s_kd S j)))]) (rest := []) hx hb hml hts hown hE hA hM hS (c_X5_goesAs l G A B S _ (s_hd S) (inn (s_kd S j)) (inn17 _) hI hR (hI.2.2.2.2.2.1)) cd_X5_goesAs ml_X5_91 rfl rfl hl.1 (Nat.le_of_ble_eq_true rfl) ⟨Nat.le_of_ble_eq_true rfl, Nat.le_of_ble_eq_true rfl⟩ ⟨Nat.le_of_ble_eq_true rfl, Nat.le_of_ble_eq_true rfl⟩ dX5_layPart_60 ?_
          rintro r M1 H locs ⟨rfl, e1⟩ hM hS
          rw [e1] at hM
          clear e1 M1
          refine W.eq (g2 := F0 m 63 ls [.int (bI (goS S (s_hd S) (inn (s_kd S j))))]) rfl ?_
          refine lv_if_ne (tgt := 69) hx hb dX5_layPart_63 (by decide) (fun c63 => ?_) (fun c63 => ?_)
          · rw [bI_n] at c63
            refine lv_aload hx hb dX5_layPart_69 (lv_at hl 0 rfl) ?_
            refine zm_get hx hb hts hown hE hM hc fl_X5_112_3 rfl dX5_layPart_71 ?_
            refine lv_iload_n hx hb dX5_layPart_74 rfl (lv_at hl 4 rfl) ?_
            refine lv_aload_n hx hb dX5_layPart_75 rfl (lv_at hl 1 rfl) ?_
            refine zm_get hx hb hts hown hE hM hR.1 fl_X5_57_4 rfl dX5_layPart_76 ?_
            refine zm_astO hx hb hE hM hS h6 (hR.cls hI.2.2.2.2.2.1) (vp_in_nI hi (by omega)) dX5_layPart_79 (fun H locs hM hS => ?_)
            rw [nI_clamp (by omega)] at hM
            have hR1 := hR.place hI (i := ii) (o := s_hd S) hj hk h6 e6
            refine lv_aload_n hx hb dX5_layPart_80 rfl (lv_at hl 1 rfl) ?_
            refine lv_null hx hb dX5_layPart_81 ?_
            refine zm_put hx hb hts hown hE hM hS hR1.1 fp_X5_57_4 rfl rfl (Nat.le_of_ble_eq_true rfl) dX5_layPart_82 (fun H locs hM hS => ?_)
            have hR2 := hR1.fld (S' := w_th (w_hd S none) (up2 (s_th S) j ii (s_hd S))) rfl rfl rfl rfl (Nat.le_refl _) rfl
            refine lv_iconst (v := 0) hx hb dX5_layPart_85 (by decide) ?_
            refine zm_iret hx hb hr hlk hM hS ?_ ⟨Nat.le_refl _, Nat.le_refl _⟩ dX5_layPart_86
            exact Or.inr ⟨c11, Or.inr ⟨j, rfl, Or.inr ⟨hi, Or.inr ⟨c63, rfl, hR2⟩⟩⟩⟩
          · rw [bI_0] at c63
            refine lv_bipush (v := (-7)) hx hb dX5_layPart_66 (by decide) ?_
            refine zm_iret hx hb hr hlk hM hS ?_ ⟨Nat.le_refl _, Nat.le_refl _⟩ dX5_layPart_68
            exact Or.inr ⟨c11, Or.inr ⟨j, rfl, Or.inr ⟨hi, Or.inl ⟨c63, rfl, hR⟩⟩⟩⟩
        · rw [bI_0, ix_dec (by omega) (by omega)] at c42
          have hi := of_decide_eq_false c42
          refine lv_bipush (v := (-6)) hx hb dX5_layPart_45 (by decide) ?_
          refine zm_iret hx hb hr hlk hM hS ?_ ⟨Nat.le_refl _, Nat.le_refl _⟩ dX5_layPart_47
          exact Or.inr ⟨c11, Or.inr ⟨j, rfl, Or.inl ⟨hi, rfl, hR⟩⟩⟩
  · rw [bI_0] at c11
    refine lv_bipush (v := (-5)) hx hb dX5_layPart_14 (by decide) ?_
    refine zm_iret hx hb hr hlk hM hS ?_ ⟨Nat.le_refl _, Nat.le_refl _⟩ dX5_layPart_16
    exact Or.inl ⟨c11, rfl, hR⟩
theorem stp_cast {S : zS} {c : Nat} (h : goS S (s_sl S (s_cu S c).2.1) (s_cu S c).2.2.1 = false) : stp S c = (-5, S) := by unfold stp; rw [if_pos h]
theorem rowgo {S : zS} (hI : zInv S) {j v : Nat} (hj : j < s_np S) (h1 : 8 ≤ v) (h2 : v ≤ 15) (h : gA (s_kd S j) v = true) : isRw (s_kd S j) = true := by
  have h16 := (hI.2.2.1 j hj).1
  exact rw_of (gA_row _ h16 _ h1 h2 h) (by omega)
set_option maxRecDepth 100000 in
set_option maxHeartbeats 4000000 in
theorem c_X5_perform (l : Launch) (G : zm_G) (A : Nat → Prop) (B : zB) (S : zS) (M : zm_M) (c0 : Nat) (hc0 : c0 < s_nc S) (hI : zInv S) (hR : RepC G B S M) : Met l yX5_perform (zm_W yX5_perform cX5_perform 3 (some .int)) (zm_rm 5 0 0) (zm_Pc G [.ref B.1.1, .ref (B.2.2.2 c0)] A M) (zm_Q G (fun r M' => r = some (.int (stp S c0).1) ∧ RepC G B (stp S c0).2 M') A) 0 0 A := by
  refine zm_start (by decide) (Nat.le_of_ble_eq_true rfl) ?_
  intro p e s m below meth c hx hb hml hr hts hown hlk hnm hE hA ls hl hM hS
  have hl : lv_has ls 3 [(0, .ref B.1.1), (1, .ref (B.2.2.2 c0))] := hl
  obtain ⟨k1, k2, k3, k4, k5⟩ := hI.2.2.2.2.2.2 c0 hc0
  have hcu := hR.2.2.2.2.1 c0 hc0
  obtain ⟨f2, h2, e2⟩ := hR.2.2.1
  have hso : ∀ j, s_sl S (s_cu S c0).2.1 = some j → j < s_np S := fun t ht => hI.2.2.2.2.1 _ t k2 ht
  refine lv_aload_n hx hb dX5_perform_0 rfl (lv_at hl 0 rfl) ?_
  refine zm_get hx hb hts hown hE hM hR.1 fl_X5_15_4 rfl dX5_perform_1 ?_
  refine lv_aload_n hx hb dX5_perform_4 rfl (lv_at hl 1 rfl) ?_
  refine zm_get hx hb hts hown hE hM hcu fl_X5_115_0 rfl dX5_perform_5 ?_
  refine zm_aldR hx hb hE hM h2 (vp_in_nI k2 (by decide)) dX5_perform_8 ?_
  refine zt_eq (v' := va_rf (oA B (s_sl S (s_cu S c0).2.1))) (by rw [nI_clamp (by omega), e2 _ k2]) ?_
  refine zq_astore_n (lv' := [(2, va_rf (oA B (s_sl S (s_cu S c0).2.1))), (0, .ref B.1.1), (1, .ref (B.2.2.2 c0))]) hx hb dX5_perform_9 rfl hl (by decide) rfl (fun ls hl => ?_)
  refine zq_aload_n hx hb dX5_perform_10 rfl (lv_at hl 0 rfl) ?_
  refine lv_aload_n hx hb dX5_perform_11 rfl (lv_at hl 2 rfl) ?_
  refine zm_get hx hb hts hown hE hM hcu fl_X5_118_0 rfl dX5_perform_12 ?_
  refine zm_callS (As := [va_rf (oA B (s_sl S (s_cu S c0).2.1)), .int (nI (s_cu S c0).2.2.1)]) (rest := []) hx hb hml hts hown hE hA hM hS (c_X5_goesAs l G A B S _ (s_sl S (s_cu S c0).2.1) ((s_cu S c0).2.2.1) (k3) hI hR (hso)) cd_X5_goesAs ml_X5_91 rfl rfl hl.1 (Nat.le_of_ble_eq_true rfl) ⟨Nat.le_of_ble_eq_true rfl, Nat.le_of_ble_eq_true rfl⟩ ⟨Nat.le_of_ble_eq_true rfl, Nat.le_of_ble_eq_true rfl⟩ dX5_perform_15 ?_
  rintro r M1 H locs ⟨rfl, e1⟩ hM hS
  rw [e1] at hM
  clear e1 M1
  refine W.eq (g2 := F0 m 18 ls [.int (bI (goS S (s_sl S (s_cu S c0).2.1) ((s_cu S c0).2.2.1)))]) rfl ?_
  refine lv_if_ne (tgt := 24) hx hb dX5_perform_18 (by decide) (fun c18 => ?_) (fun c18 => ?_)
  · rw [bI_n] at c18
    refine lv_aload_n hx hb dX5_perform_24 rfl (lv_at hl 2 rfl) ?_
    refine zm_get hx hb hts hown hE hM hcu fl_X5_121_0 rfl dX5_perform_25 ?_
    rcases (show (s_cu S c0).1 = 0 ∨ (s_cu S c0).1 = 1 ∨ (s_cu S c0).1 = 2 ∨ (s_cu S c0).1 = 3 ∨ (s_cu S c0).1 = 4 ∨ (s_cu S c0).1 = 5 by omega) with ha | ha | ha | ha | ha | ha
    · refine lv_tableIn (off := 36) (tgt := 64) hx hb dX5_perform_28 (by rw [ha]; decide) (by rw [ha]; decide) (by rw [ha]; rfl) (by decide) ?_
      refine lv_aload_n hx hb dX5_perform_64 rfl (lv_at hl 1 rfl) ?_
      refine zq_aload_n hx hb dX5_perform_65 rfl (lv_at hl 0 rfl) ?_
      refine lv_aload_n hx hb dX5_perform_66 rfl (lv_at hl 2 rfl) ?_
      refine zm_get hx hb hts hown hE hM hcu fl_X5_118_0 rfl dX5_perform_67 ?_
      refine zm_callV (As := [va_rf (oA B (s_sl S (s_cu S c0).2.1)), .int (nI (s_cu S c0).2.2.1)]) (rest := []) hx hb hml hts hown hE hA hM hS hR.1 rfl (c_X5_showProp l G A B S _ (s_sl S (s_cu S c0).2.1) (s_cu S c0).2.2.1 k3 hso c18 hI hR) cd_X5_showProp ml_X5_124 rfl rfl hl.1 (Nat.le_of_ble_eq_true rfl) ⟨Nat.le_of_ble_eq_true rfl, Nat.le_of_ble_eq_true rfl⟩ ⟨Nat.le_of_ble_eq_true rfl, Nat.le_of_ble_eq_true rfl⟩ dX5_perform_70 ?_
      rintro r M1 H locs (⟨ho, rfl, hR1⟩ | ⟨j, ho, rfl, hR1⟩) hM hS
      · refine W.eq (g2 := F0 m 73 ls [.int (-4)]) rfl ?_
        refine zm_iret hx hb hr hlk hM hS ?_ ⟨Nat.le_refl _, Nat.le_refl _⟩ dX5_perform_73
        have hs : stp S c0 = (-4, S) := by unfold stp; rw [if_neg (by rw [c18]; decide), ha]; simp only [ho]
        exact ⟨by rw [hs], by rw [hs]; exact hR1⟩
      · refine W.eq (g2 := F0 m 73 ls [.int 0]) rfl ?_
        refine zm_iret hx hb hr hlk hM hS ?_ ⟨Nat.le_refl _, Nat.le_refl _⟩ dX5_perform_73
        have hs : stp S c0 = (0, w_po S (s_po S + wOf S j (s_cu S c0).2.2.1)) := by unfold stp; rw [if_neg (by rw [c18]; decide), ha]; simp only [ho]
        exact ⟨by rw [hs], by rw [hs]; exact hR1⟩
    · refine lv_tableIn (off := 46) (tgt := 74) hx hb dX5_perform_28 (by rw [ha]; decide) (by rw [ha]; decide) (by rw [ha]; rfl) (by decide) ?_
      refine zq_aload_n hx hb dX5_perform_74 rfl (lv_at hl 0 rfl) ?_
      refine lv_aload_n hx hb dX5_perform_75 rfl (lv_at hl 2 rfl) ?_
      refine zm_get hx hb hts hown hE hM hcu fl_X5_118_0 rfl dX5_perform_76 ?_
      refine zm_callS (As := [va_rf (oA B (s_sl S (s_cu S c0).2.1)), .int (nI (s_cu S c0).2.2.1)]) (rest := []) hx hb hml hts hown hE hA hM hS (c_X5_wearProp l G A B S _ (s_sl S (s_cu S c0).2.1) (s_cu S c0).2.2.1 k3 hso c18 (by rw [ha] at k5; exact k5) hI hR) cd_X5_wearProp ml_X5_128 rfl rfl hl.1 (Nat.le_of_ble_eq_true rfl) ⟨Nat.le_of_ble_eq_true rfl, Nat.le_of_ble_eq_true rfl⟩ ⟨Nat.le_of_ble_eq_true rfl, Nat.le_of_ble_eq_true rfl⟩ dX5_perform_79 ?_
      rintro r M1 H locs (⟨ho, rfl, hR1⟩ | ⟨j, ho, rfl, hR1⟩) hM hS
      · refine W.eq (g2 := F0 m 82 ls [.int (-4)]) rfl ?_
        refine zm_iret hx hb hr hlk hM hS ?_ ⟨Nat.le_refl _, Nat.le_refl _⟩ dX5_perform_82
        have hs : stp S c0 = (-4, S) := by unfold stp; rw [if_neg (by rw [c18]; decide), ha]; simp only [ho]
        exact ⟨by rw [hs], by rw [hs]; exact hR1⟩
      · refine W.eq (g2 := F0 m 82 ls [.int 0]) rfl ?_
        refine zm_iret hx hb hr hlk hM hS ?_ ⟨Nat.le_refl _, Nat.le_refl _⟩ dX5_perform_82
        have hs : stp S c0 = (0, w_wr S (wAll S j)) := by unfold stp; rw [if_neg (by rw [c18]; decide), ha]; simp only [ho]
        exact ⟨by rw [hs], by rw [hs]; exact hR1⟩
    · refine lv_tableIn (off := 55) (tgt := 83) hx hb dX5_perform_28 (by rw [ha]; decide) (by rw [ha]; decide) (by rw [ha]; rfl) (by decide) ?_
      refine lv_aload_n hx hb dX5_perform_83 rfl (lv_at hl 1 rfl) ?_
      refine zq_aload_n hx hb dX5_perform_84 rfl (lv_at hl 0 rfl) ?_
      refine lv_aload_n hx hb dX5_perform_85 rfl (lv_at hl 2 rfl) ?_
      refine zm_get hx hb hts hown hE hM hcu fl_X5_131_0 rfl dX5_perform_86 ?_
      have k6 : 8 ≤ (s_cu S c0).2.2.1 ∧ (s_cu S c0).2.2.1 ≤ 15 := by rw [ha] at k5; simpa [hasV] using k5
      refine zm_callV (As := [va_rf (oA B (s_sl S (s_cu S c0).2.1)), .int (nI (s_cu S c0).2.2.2)]) (rest := []) hx hb hml hts hown hE hA hM hS hR.1 rfl (c_X5_takePart l G A B S _ (s_sl S (s_cu S c0).2.1) hso (fun j hj => rowgo hI (hso j hj) k6.1 k6.2 (by rw [hj] at c18; exact c18)) (s_cu S c0).2.2.2 k4 hI hR) cd_X5_takePart ml_X5_134 rfl rfl hl.1 (Nat.le_of_ble_eq_true rfl) ⟨Nat.le_of_ble_eq_true rfl, Nat.le_of_ble_eq_true rfl⟩ ⟨Nat.le_of_ble_eq_true rfl, Nat.le_of_ble_eq_true rfl⟩ dX5_perform_89 ?_
      rintro r M1 H locs (⟨ho, rfl, hR1⟩ | ⟨j, ho, ⟨hi, rfl, hR1⟩ | ⟨hi, rfl, hR1⟩⟩) hM hS
      · refine W.eq (g2 := F0 m 92 ls [.int (-4)]) rfl ?_
        refine zm_iret hx hb hr hlk hM hS ?_ ⟨Nat.le_refl _, Nat.le_refl _⟩ dX5_perform_92
        have hs : stp S c0 = (-4, S) := by unfold stp; rw [if_neg (by rw [c18]; decide), ha]; simp only [ho]
        exact ⟨by rw [hs], by rw [hs]; exact hR1⟩
      · refine W.eq (g2 := F0 m 92 ls [.int 0]) rfl ?_
        refine zm_iret hx hb hr hlk hM hS ?_ ⟨Nat.le_refl _, Nat.le_refl _⟩ dX5_perform_92
        have hs : stp S c0 = (0, w_th (w_hd S (s_th S j (s_cu S c0).2.2.2)) (up2 (s_th S) j (s_cu S c0).2.2.2 none)) := by unfold stp; rw [if_neg (by rw [c18]; decide), ha]; simp only [ho, if_pos hi]
        exact ⟨by rw [hs], by rw [hs]; exact hR1⟩
      · refine W.eq (g2 := F0 m 92 ls [.int (-6)]) rfl ?_
        refine zm_iret hx hb hr hlk hM hS ?_ ⟨Nat.le_refl _, Nat.le_refl _⟩ dX5_perform_92
        have hs : stp S c0 = (-6, S) := by unfold stp; rw [if_neg (by rw [c18]; decide), ha]; simp only [ho, if_neg hi]
        exact ⟨by rw [hs], by rw [hs]; exact hR1⟩
    · refine lv_tableIn (off := 65) (tgt := 93) hx hb dX5_perform_28 (by rw [ha]; decide) (by rw [ha]; decide) (by rw [ha]; rfl) (by decide) ?_
      refine lv_aload_n hx hb dX5_perform_93 rfl (lv_at hl 1 rfl) ?_
      refine zq_aload_n hx hb dX5_perform_94 rfl (lv_at hl 0 rfl) ?_
      refine lv_aload_n hx hb dX5_perform_95 rfl (lv_at hl 2 rfl) ?_
      refine zm_get hx hb hts hown hE hM hcu fl_X5_118_0 rfl dX5_perform_96 ?_
      refine lv_aload_n hx hb dX5_perform_99 rfl (lv_at hl 2 rfl) ?_
      refine zm_get hx hb hts hown hE hM hcu fl_X5_131_0 rfl dX5_perform_100 ?_
      have k6 : 8 ≤ (s_cu S c0).2.2.1 ∧ (s_cu S c0).2.2.1 ≤ 15 := by rw [ha] at k5; simpa [hasV] using k5
      refine zm_callV (As := [va_rf (oA B (s_sl S (s_cu S c0).2.1)), .int (nI (s_cu S c0).2.2.1), .int (nI (s_cu S c0).2.2.2)]) (rest := []) hx hb hml hts hown hE hA hM hS hR.1 rfl (c_X5_layPart l G A B S _ (s_sl S (s_cu S c0).2.1) hso (fun j hj => rowgo hI (hso j hj) k6.1 k6.2 (by rw [hj] at c18; exact c18)) (s_cu S c0).2.2.1 (s_cu S c0).2.2.2 k6.1 k6.2 k4 hI hR) cd_X5_layPart ml_X5_137 rfl rfl hl.1 (Nat.le_of_ble_eq_true rfl) ⟨Nat.le_of_ble_eq_true rfl, Nat.le_of_ble_eq_true rfl⟩ ⟨Nat.le_of_ble_eq_true rfl, Nat.le_of_ble_eq_true rfl⟩ dX5_perform_103 ?_
      rintro r M1 H locs (⟨hg, rfl, hR1⟩ | ⟨hg, ⟨ho, rfl, hR1⟩ | ⟨j, ho, ⟨hi, rfl, hR1⟩ | ⟨hi, ⟨hq, rfl, hR1⟩ | ⟨hq, rfl, hR1⟩⟩⟩⟩) hM hS
      · refine W.eq (g2 := F0 m 106 ls [.int (-5)]) rfl ?_
        refine zm_iret hx hb hr hlk hM hS ?_ ⟨Nat.le_refl _, Nat.le_refl _⟩ dX5_perform_106
        have hs : stp S c0 = (-5, S) := by unfold stp; rw [if_neg (by rw [c18]; decide), ha]; simp only [if_pos hg]
        exact ⟨by rw [hs], by rw [hs]; exact hR1⟩
      · refine W.eq (g2 := F0 m 106 ls [.int (-4)]) rfl ?_
        refine zm_iret hx hb hr hlk hM hS ?_ ⟨Nat.le_refl _, Nat.le_refl _⟩ dX5_perform_106
        have hs : stp S c0 = (-4, S) := by unfold stp; rw [if_neg (by rw [c18]; decide), ha]; simp only [if_neg (show ¬ goS S (s_hd S) (inn (s_cu S c0).2.2.1) = false by rw [hg]; decide), ho]
        exact ⟨by rw [hs], by rw [hs]; exact hR1⟩
      · refine W.eq (g2 := F0 m 106 ls [.int (-6)]) rfl ?_
        refine zm_iret hx hb hr hlk hM hS ?_ ⟨Nat.le_refl _, Nat.le_refl _⟩ dX5_perform_106
        have hs : stp S c0 = (-6, S) := by unfold stp; rw [if_neg (by rw [c18]; decide), ha]; simp only [if_neg (show ¬ goS S (s_hd S) (inn (s_cu S c0).2.2.1) = false by rw [hg]; decide), ho, if_neg hi]
        exact ⟨by rw [hs], by rw [hs]; exact hR1⟩
      · refine W.eq (g2 := F0 m 106 ls [.int (-7)]) rfl ?_
        refine zm_iret hx hb hr hlk hM hS ?_ ⟨Nat.le_refl _, Nat.le_refl _⟩ dX5_perform_106
        have hs : stp S c0 = (-7, S) := by unfold stp; rw [if_neg (by rw [c18]; decide), ha]; simp only [if_neg (show ¬ goS S (s_hd S) (inn (s_cu S c0).2.2.1) = false by rw [hg]; decide), ho, if_pos hi, if_pos hq]
        exact ⟨by rw [hs], by rw [hs]; exact hR1⟩
      · refine W.eq (g2 := F0 m 106 ls [.int 0]) rfl ?_
        refine zm_iret hx hb hr hlk hM hS ?_ ⟨Nat.le_refl _, Nat.le_refl _⟩ dX5_perform_106
        have hs : stp S c0 = (0, w_th (w_hd S none) (up2 (s_th S) j (s_cu S c0).2.2.2 (s_hd S))) := by unfold stp; rw [if_neg (by rw [c18]; decide), ha]; simp only [if_neg (show ¬ goS S (s_hd S) (inn (s_cu S c0).2.2.1) = false by rw [hg]; decide), ho, if_pos hi, if_neg (show ¬ goS S (s_hd S) (inn (s_kd S j)) = false by rw [hq]; decide)]
        exact ⟨by rw [hs], by rw [hs]; exact hR1⟩
    · refine lv_tableIn (off := 79) (tgt := 107) hx hb dX5_perform_28 (by rw [ha]; decide) (by rw [ha]; decide) (by rw [ha]; rfl) (by decide) ?_
      refine lv_aload_n hx hb dX5_perform_107 rfl (lv_at hl 1 rfl) ?_
      refine zm_get hx hb hts hown hE hM hR.1 fl_X5_15_4 rfl dX5_perform_108 ?_
      refine lv_aload_n hx hb dX5_perform_111 rfl (lv_at hl 2 rfl) ?_
      refine zm_get hx hb hts hown hE hM hcu fl_X5_115_0 rfl dX5_perform_112 ?_
      refine lv_aload_n hx hb dX5_perform_115 rfl (lv_at hl 1 rfl) ?_
      refine zm_get hx hb hts hown hE hM hR.1 fl_X5_57_4 rfl dX5_perform_116 ?_
      refine zm_astO hx hb hE hM hS h2 (hR.cls hI.2.2.2.2.2.1) (vp_in_nI k2 (by decide)) dX5_perform_119 (fun H locs hM hS => ?_)
      rw [nI_clamp (by omega)] at hM
      have hR1 := hR.slot hI (i := (s_cu S c0).2.1) (o := s_hd S) h2 e2
      refine lv_aload_n hx hb dX5_perform_120 rfl (lv_at hl 1 rfl) ?_
      refine zq_aload_n hx hb dX5_perform_121 rfl (lv_at hl 0 rfl) ?_
      refine zm_put hx hb hts hown hE hM hS hR1.1 fp_X5_57_4 (zq_nar _) (zq_fit _) (Nat.le_of_ble_eq_true rfl) dX5_perform_122 (fun H locs hM hS => ?_)
      have hR2 := hR1.fld (S' := w_hd (w_sl S (va_up (s_sl S) (s_cu S c0).2.1 (s_hd S))) (s_sl S (s_cu S c0).2.1)) rfl rfl rfl rfl (Nat.le_refl _) rfl
      refine lv_iconst (v := 0) hx hb dX5_perform_125 (by decide) ?_
      refine zm_iret hx hb hr hlk hM hS ?_ ⟨Nat.le_refl _, Nat.le_refl _⟩ dX5_perform_126
      have hs : stp S c0 = (0, w_hd (w_sl S (va_up (s_sl S) (s_cu S c0).2.1 (s_hd S))) (s_sl S (s_cu S c0).2.1)) := by unfold stp; rw [if_neg (by rw [c18]; decide), ha]; rfl
      exact ⟨by rw [hs], by rw [hs]; exact hR2⟩
    · refine lv_tableOut (tgt := 127) hx hb dX5_perform_28 (by rw [ha]; decide) (by decide) ?_
      refine lv_aload_n hx hb dX5_perform_127 rfl (lv_at hl 1 rfl) ?_
      refine zm_get hx hb hts hown hE hM hR.1 fl_X5_15_4 rfl dX5_perform_128 ?_
      refine lv_aload_n hx hb dX5_perform_131 rfl (lv_at hl 2 rfl) ?_
      refine zm_get hx hb hts hown hE hM hcu fl_X5_131_0 rfl dX5_perform_132 ?_
      refine zq_aload_n hx hb dX5_perform_135 rfl (lv_at hl 0 rfl) ?_
      refine zm_astO hx hb hE hM hS h2 (hR.cls hso) (vp_in_nI k4 (by decide)) dX5_perform_136 (fun H locs hM hS => ?_)
      rw [nI_clamp (by omega)] at hM
      have hR2 := hR.slot hI (i := (s_cu S c0).2.2.2) (o := s_sl S (s_cu S c0).2.1) h2 e2
      refine lv_iconst (v := 0) hx hb dX5_perform_137 (by decide) ?_
      refine zm_iret hx hb hr hlk hM hS ?_ ⟨Nat.le_refl _, Nat.le_refl _⟩ dX5_perform_138
      have hs : stp S c0 = (0, w_sl S (va_up (s_sl S) (s_cu S c0).2.2.2 (s_sl S (s_cu S c0).2.1))) := by unfold stp; rw [if_neg (by rw [c18]; decide), ha]; rfl
      exact ⟨by rw [hs], by rw [hs]; exact hR2⟩
  · rw [bI_0] at c18
    refine lv_bipush (v := (-5)) hx hb dX5_perform_21 (by decide) ?_
    refine zm_iret hx hb hr hlk hM hS ?_ ⟨Nat.le_refl _, Nat.le_refl _⟩ dX5_perform_23
    exact ⟨by rw [stp_cast c18], by rw [stp_cast c18]; exact hR⟩
