set_option maxRecDepth 100000 in
set_option maxHeartbeats 4000000 in
theorem c_X2_putOn (l : Launch) (G : zm_G) (A : Nat → Prop) (B : zB) (S : zS) (M : zm_M) (j v : Nat) (hI : zInv S) (hR : RepC G B S M) (hj : j < s_np S) (hk : isPc (s_kd S j) = true) : Met l yX2_putOn (zm_W yX2_putOn cX2_putOn 2 none) (zm_rm 0 0 0) (zm_Pc G [.ref (B.2.1 j), .int (nI v)] A M) (zm_Q G (fun r M' => r = none ∧ RepC G B (w_wr S (upd (s_wr S) j (s_wr S j + 1))) M') A) 0 0 A := by
  refine zm_start (by decide) (Nat.le_of_ble_eq_true rfl) ?_
  intro p e s m below meth c hx hb hml hr hts hown hlk hnm hE hA ls hl hM hS
  have hl : lv_has ls 2 [(0, .ref (B.2.1 j)), (1, .int (nI v))] := hl
  have hc := hR.2.2.2.2.2.1 j hj
  rw [pcell_pc hk] at hc
  refine lv_aload_n hx hb dX2_putOn_0 rfl (lv_at hl 0 rfl) ?_
  refine lv_dup hx hb dX2_putOn_1 rfl ?_
  refine zm_get hx hb hts hown hE hM hc fl_X2_15_2 rfl dX2_putOn_2 ?_
  refine lv_iconst (v := 1) hx hb dX2_putOn_5 (by decide) ?_
  refine lv_iadd hx hb dX2_putOn_6 ?_
  refine zm_put hx hb hts hown hE hM hS hc fp_X2_15_2 rfl rfl (Nat.le_of_ble_eq_true rfl) dX2_putOn_7 (fun H locs hM hS => ?_)
  have hR2 := hR.wear hI (v := s_wr S j + 1) hj hk
  refine zm_vret hx hb hr hlk hM hS ?_ ⟨Nat.le_refl _, Nat.le_refl _⟩ dX2_putOn_10
  exact ⟨rfl, hR2⟩
theorem wrR_w {S : zS} {w u : Nat → Int32} {j : Nat} : ∀ n, wrR (w_wr S w) j u n = wrR S j u n
  | 0 => rfl
  | n + 1 => by unfold wrR; rw [wrR_w n]
set_option maxRecDepth 100000 in
set_option maxHeartbeats 4000000 in
theorem c_X4_putOn1 (l : Launch) (G : zm_G) (A : Nat → Prop) (B : zB) (S : zS) (M : zm_M) (j v : Nat) (hI : zInv S) (hR : RepC G B S M) (hj : j < s_np S) (hk8 : 8 ≤ s_kd S j) (hk12 : s_kd S j ≤ 12) (hv8 : 8 ≤ v) (hv12 : v ≤ 12) : Met l yX4_putOn (zm_W yX4_putOn cX4_putOn 4 none) (zm_rm 2 0 0) (zm_Pc G [.ref (B.2.1 j), .int (nI v)] A M) (zm_Q G (fun r M' => r = none ∧ RepC G B (w_wr S (wrR S j (s_wr S) (s_sz S j))) M') A) 0 0 A := by
  refine zm_start (by decide) (Nat.le_of_ble_eq_true rfl) ?_
  intro p e s m below meth c hx hb hml hr hts hown hlk hnm hE hA ls hl hM hS
  have hl : lv_has ls 4 [(0, .ref (B.2.1 j)), (1, .int (nI v))] := hl
  have hrw := rw_of (show 8 ≤ s_kd S j by omega) (by omega)
  have hm := hI.sz5 hj (rw_pc hrw)
  refine lv_iload_n hx hb dX4_putOn_0 rfl (lv_at hl 1 rfl) ?_
  refine zm_callSN (As := [.int (nI v)]) (rest := []) hx hb hml hts hown hE hA hM hS (c_X5_isRow l G A _ (nI v)) cd_X5_isRow nl_X4_13 rfl rfl hl.1 (Nat.le_of_ble_eq_true rfl) ⟨Nat.le_of_ble_eq_true rfl, Nat.le_of_ble_eq_true rfl⟩ ⟨Nat.le_of_ble_eq_true rfl, Nat.le_of_ble_eq_true rfl⟩ dX4_putOn_1 ?_
  rintro r M1 H locs ⟨rfl, e1⟩ hM hS
  rw [e1] at hM
  clear e1 M1
  refine W.eq (g2 := F0 m 4 ls [.int (bI (zbt 8 15 (nI v)))]) rfl ?_
  refine lv_if_eq (tgt := 43) hx hb dX4_putOn_4 (by decide) (fun c4 => ?_) (fun c4 => ?_)
  · exact absurd (bI_0.mp c4) (by rw [zbt_rw v (by omega), rw_of (by omega) (by omega)]; decide)
  · refine lv_iconst (v := 0) hx hb dX4_putOn_7 (by decide) ?_
    refine lv_istore_n (lv' := [(2, .int 0), (0, .ref (B.2.1 j)), (1, .int (nI v))]) hx hb dX4_putOn_8 rfl hl (by decide) rfl (fun ls hl => ?_)
    have loop : ∀ (n k : Nat), k ≤ s_sz S j → s_sz S j + 1 ≤ k + n → ∀ (ls : Array Slot) (M : zm_M) (H : Heap) (locs : List Loc), RepC G B (w_wr S (wrR S j (s_wr S) k)) M → zm_P G A M H → va_S A s.heap H locs → lv_has ls 4 [(2, .int (nI k)), (0, .ref (B.2.1 j)), (1, .int (nI v))] → W p l e (zm_rm 2 0 0) s m [.ref (B.2.1 j), .int (nI v)].toArray below meth c H locs 0 0 (MQ below (zm_Q G (fun r M' => r = none ∧ RepC G B (w_wr S (wrR S j (s_wr S) (s_sz S j))) M') A) [.ref (B.2.1 j), .int (nI v)].toArray s 0 0 A) (F0 m 9 ls []) := by
      intro n
      induction n with
      | zero => intro k h1 h2; exact absurd h2 (by omega)
      | succ n ih =>
        intro k hk1 hk2 ls M H locs hRk hM hS hl
        have hc := hRk.2.2.2.2.2.1 j hj
        rw [pcell_rw (S := w_wr S (wrR S j (s_wr S) k)) hrw] at hc
        have hc : M (B.2.1 j) = some (.inr (3, [.int (nI j), .int (nI (s_kd S j)), .ref (B.2.2.1 j)])) := hc
        obtain ⟨f, h6, e6⟩ := hRk.2.2.2.2.2.2.1 j hj hrw
        have h6 : M (B.2.2.1 j) = some (zm_R G (s_sz S j) f) := h6
        have e6 : ∀ i, i < s_sz S j → f i = oA B (s_th S j i) := e6
        refine lv_iload_n hx hb dX4_putOn_9 rfl (lv_at hl 0 rfl) ?_
        refine lv_aload_n hx hb dX4_putOn_10 rfl (lv_at hl 1 rfl) ?_
        refine zm_get hx hb hts hown hE hM hc fl_X4_7_3 rfl dX4_putOn_11 ?_
        refine zm_alenR hx hb hE hM h6 dX4_putOn_14 ?_
        refine lv_icmp_ge (tgt := 43) hx hb dX4_putOn_15 (by decide) (fun c15 => ?_) (fun c15 => ?_)
        · have hkk : k = s_sz S j := by have := (nI_leI (by omega) (by omega)).mp c15; omega
          refine zm_vret hx hb hr hlk hM hS ?_ ⟨Nat.le_refl _, Nat.le_refl _⟩ dX4_putOn_43
          exact ⟨rfl, by rw [← hkk]; exact hRk⟩
        · have hkk : k < s_sz S j := by rw [nI_leI (by omega) (by omega)] at c15; omega
          refine lv_aload_n hx hb dX4_putOn_18 rfl (lv_at hl 1 rfl) ?_
          refine zm_get hx hb hts hown hE hM hc fl_X4_7_3 rfl dX4_putOn_19 ?_
          refine lv_iload_n hx hb dX4_putOn_22 rfl (lv_at hl 0 rfl) ?_
          refine zm_aldR hx hb hE hM h6 (vp_in_nI hkk (by omega)) dX4_putOn_23 ?_
          refine zt_eq (v' := va_rf (oA B (s_th S j k))) (by rw [nI_clamp (by omega), e6 k hkk]) ?_
          refine zq_astore_n (lv' := [(3, va_rf (oA B (s_th S j k))), (2, .int (nI k)), (0, .ref (B.2.1 j)), (1, .int (nI v))]) hx hb dX4_putOn_24 rfl hl (by decide) rfl (fun ls hl => ?_)
          refine zq_aload_n hx hb dX4_putOn_25 rfl (lv_at hl 0 rfl) ?_
          refine zq_ifnull (tgt := 37) hx hb dX4_putOn_26 (by decide) (fun c26 => ?_) (fun a26 c26 => ?_)
          · have hth := oA_none c26
            have hRn : RepC G B (w_wr S (wrR S j (s_wr S) (k + 1))) M := by
              show RepC G B (w_wr S (wInc (wrR S j (s_wr S) k) (s_th S j k))) M
              rw [hth]; exact hRk
            refine lv_iinc (v := nI (k + 1)) (lv' := [(2, .int (nI (k + 1))), (3, va_rf (oA B (s_th S j k))), (0, .ref (B.2.1 j)), (1, .int (nI v))]) hx hb dX4_putOn_37 hl (k := 1) rfl (nI_1 k) (by decide) rfl (fun ls hl => ?_)
            refine lv_goto (tgt := 9) hx hb dX4_putOn_40 (by decide) ?_
            exact ih (k + 1) (by omega) (by omega) ls _ _ _ hRn hM hS (lv_sub hl [0, 2, 3] rfl)
          · obtain ⟨t, hth, rfl⟩ := oA_some c26
            rw [hth] at hl
            have hl : lv_has ls 4 [(3, .ref (B.2.1 t)), (2, .int (nI k)), (0, .ref (B.2.1 j)), (1, .int (nI v))] := hl
            obtain ⟨htn, hga⟩ := hI.2.2.2.1 j hj (by omega) k t hkk hth
            have ht16 := (hI.2.2.1 t htn).1
            have hkt := gA_pc _ ht16 _ hk8 hk12 hga
            have hct := hRk.2.2.2.2.2.1 t htn
            rw [pcell_pc (S := w_wr S (wrR S j (s_wr S) k)) hkt] at hct
            refine lv_aload_n hx hb dX4_putOn_29 rfl (lv_at hl 0 rfl) ?_
            refine lv_iload_n hx hb dX4_putOn_30 rfl (lv_at hl 3 rfl) ?_
            refine zm_callSN (As := [.int (nI v)]) (rest := [.ref (B.2.1 t)]) hx hb hml hts hown hE hA hM hS (c_X5_partView l G A _ v (by omega) (by omega)) cd_X5_partView nl_X4_19 rfl rfl hl.1 (Nat.le_of_ble_eq_true rfl) ⟨Nat.le_of_ble_eq_true rfl, Nat.le_of_ble_eq_true rfl⟩ ⟨Nat.le_of_ble_eq_true rfl, Nat.le_of_ble_eq_true rfl⟩ dX4_putOn_31 ?_
            rintro r M1 H locs ⟨rfl, e1⟩ hM hS
            rw [e1] at hM
            clear e1 M1
            refine W.eq (g2 := F0 m 34 ls [.int (nI (inn v)), .ref (B.2.1 t)]) rfl ?_
            refine zm_callU (x := ⟨"PropStore$Prop", "putOn", "(I)V"⟩) (As := [.int (nI (inn v))]) (rest := []) hx hb hml hts hown hE hA hM hS hct rfl (c_X2_putOn l G A B (w_wr S (wrR S j (s_wr S) k)) _ t (inn v) hI hRk htn hkt) cd_X2_putOn ⟨rfl, rfl, rfl⟩ mu_X4_27_2 rfl rfl hl.1 (Nat.le_of_ble_eq_true rfl) ⟨Nat.le_of_ble_eq_true rfl, Nat.le_of_ble_eq_true rfl⟩ ⟨Nat.le_of_ble_eq_true rfl, Nat.le_of_ble_eq_true rfl⟩ dX4_putOn_34 ?_
            rintro r M1 H locs ⟨rfl, hR1⟩ hM hS
            refine W.eq (g2 := F0 m 37 ls []) rfl ?_
            have hRn : RepC G B (w_wr S (wrR S j (s_wr S) (k + 1))) M1 := by
              show RepC G B (w_wr S (wInc (wrR S j (s_wr S) k) (s_th S j k))) M1
              rw [hth]; exact hR1
            refine lv_iinc (v := nI (k + 1)) (lv' := [(2, .int (nI (k + 1))), (3, .ref (B.2.1 t)), (0, .ref (B.2.1 j)), (1, .int (nI v))]) hx hb dX4_putOn_37 hl (k := 1) rfl (nI_1 k) (by decide) rfl (fun ls hl => ?_)
            refine lv_goto (tgt := 9) hx hb dX4_putOn_40 (by decide) ?_
            exact ih (k + 1) (by omega) (by omega) ls _ _ _ hRn hM hS (lv_sub hl [0, 2, 3] rfl)
    exact loop (s_sz S j + 1) 0 (Nat.zero_le _) (by omega) ls _ _ _ hR hM hS (lv_sub hl [0, 1, 2] rfl)
set_option maxRecDepth 100000 in
set_option maxHeartbeats 4000000 in
theorem c_X4_putOn2 (l : Launch) (G : zm_G) (A : Nat → Prop) (B : zB) (S : zS) (M : zm_M) (j v : Nat) (hI : zInv S) (hR : RepC G B S M) (hj : j < s_np S) (hk8 : 13 ≤ s_kd S j) (hk12 : s_kd S j ≤ 15) (hv8 : 13 ≤ v) (hv12 : v ≤ 15) : Met l yX4_putOn (zm_W yX4_putOn cX4_putOn 4 none) (zm_rm 3 0 0) (zm_Pc G [.ref (B.2.1 j), .int (nI v)] A M) (zm_Q G (fun r M' => r = none ∧ RepC G B (w_wr S (wrS S j (s_wr S) (s_sz S j))) M') A) 0 0 A := by
  refine zm_start (by decide) (Nat.le_of_ble_eq_true rfl) ?_
  intro p e s m below meth c hx hb hml hr hts hown hlk hnm hE hA ls hl hM hS
  have hl : lv_has ls 4 [(0, .ref (B.2.1 j)), (1, .int (nI v))] := hl
  have hrw := rw_of (show 8 ≤ s_kd S j by omega) (by omega)
  have hm := hI.sz5 hj (rw_pc hrw)
  refine lv_iload_n hx hb dX4_putOn_0 rfl (lv_at hl 1 rfl) ?_
  refine zm_callSN (As := [.int (nI v)]) (rest := []) hx hb hml hts hown hE hA hM hS (c_X5_isRow l G A _ (nI v)) cd_X5_isRow nl_X4_13 rfl rfl hl.1 (Nat.le_of_ble_eq_true rfl) ⟨Nat.le_of_ble_eq_true rfl, Nat.le_of_ble_eq_true rfl⟩ ⟨Nat.le_of_ble_eq_true rfl, Nat.le_of_ble_eq_true rfl⟩ dX4_putOn_1 ?_
  rintro r M1 H locs ⟨rfl, e1⟩ hM hS
  rw [e1] at hM
  clear e1 M1
  refine W.eq (g2 := F0 m 4 ls [.int (bI (zbt 8 15 (nI v)))]) rfl ?_
  refine lv_if_eq (tgt := 43) hx hb dX4_putOn_4 (by decide) (fun c4 => ?_) (fun c4 => ?_)
  · exact absurd (bI_0.mp c4) (by rw [zbt_rw v (by omega), rw_of (by omega) (by omega)]; decide)
  · refine lv_iconst (v := 0) hx hb dX4_putOn_7 (by decide) ?_
    refine lv_istore_n (lv' := [(2, .int 0), (0, .ref (B.2.1 j)), (1, .int (nI v))]) hx hb dX4_putOn_8 rfl hl (by decide) rfl (fun ls hl => ?_)
    have loop : ∀ (n k : Nat), k ≤ s_sz S j → s_sz S j + 1 ≤ k + n → ∀ (ls : Array Slot) (M : zm_M) (H : Heap) (locs : List Loc), RepC G B (w_wr S (wrS S j (s_wr S) k)) M → zm_P G A M H → va_S A s.heap H locs → lv_has ls 4 [(2, .int (nI k)), (0, .ref (B.2.1 j)), (1, .int (nI v))] → W p l e (zm_rm 3 0 0) s m [.ref (B.2.1 j), .int (nI v)].toArray below meth c H locs 0 0 (MQ below (zm_Q G (fun r M' => r = none ∧ RepC G B (w_wr S (wrS S j (s_wr S) (s_sz S j))) M') A) [.ref (B.2.1 j), .int (nI v)].toArray s 0 0 A) (F0 m 9 ls []) := by
      intro n
      induction n with
      | zero => intro k h1 h2; exact absurd h2 (by omega)
      | succ n ih =>
        intro k hk1 hk2 ls M H locs hRk hM hS hl
        have hc := hRk.2.2.2.2.2.1 j hj
        rw [pcell_rw (S := w_wr S (wrS S j (s_wr S) k)) hrw] at hc
        have hc : M (B.2.1 j) = some (.inr (3, [.int (nI j), .int (nI (s_kd S j)), .ref (B.2.2.1 j)])) := hc
        obtain ⟨f, h6, e6⟩ := hRk.2.2.2.2.2.2.1 j hj hrw
        have h6 : M (B.2.2.1 j) = some (zm_R G (s_sz S j) f) := h6
        have e6 : ∀ i, i < s_sz S j → f i = oA B (s_th S j i) := e6
        refine lv_iload_n hx hb dX4_putOn_9 rfl (lv_at hl 0 rfl) ?_
        refine lv_aload_n hx hb dX4_putOn_10 rfl (lv_at hl 1 rfl) ?_
        refine zm_get hx hb hts hown hE hM hc fl_X4_7_3 rfl dX4_putOn_11 ?_
        refine zm_alenR hx hb hE hM h6 dX4_putOn_14 ?_
        refine lv_icmp_ge (tgt := 43) hx hb dX4_putOn_15 (by decide) (fun c15 => ?_) (fun c15 => ?_)
        · have hkk : k = s_sz S j := by have := (nI_leI (by omega) (by omega)).mp c15; omega
          refine zm_vret hx hb hr hlk hM hS ?_ ⟨Nat.le_refl _, Nat.le_refl _⟩ dX4_putOn_43
          exact ⟨rfl, by rw [← hkk]; exact hRk⟩
        · have hkk : k < s_sz S j := by rw [nI_leI (by omega) (by omega)] at c15; omega
          refine lv_aload_n hx hb dX4_putOn_18 rfl (lv_at hl 1 rfl) ?_
          refine zm_get hx hb hts hown hE hM hc fl_X4_7_3 rfl dX4_putOn_19 ?_
          refine lv_iload_n hx hb dX4_putOn_22 rfl (lv_at hl 0 rfl) ?_
          refine zm_aldR hx hb hE hM h6 (vp_in_nI hkk (by omega)) dX4_putOn_23 ?_
          refine zt_eq (v' := va_rf (oA B (s_th S j k))) (by rw [nI_clamp (by omega), e6 k hkk]) ?_
          refine zq_astore_n (lv' := [(3, va_rf (oA B (s_th S j k))), (2, .int (nI k)), (0, .ref (B.2.1 j)), (1, .int (nI v))]) hx hb dX4_putOn_24 rfl hl (by decide) rfl (fun ls hl => ?_)
          refine zq_aload_n hx hb dX4_putOn_25 rfl (lv_at hl 0 rfl) ?_
          refine zq_ifnull (tgt := 37) hx hb dX4_putOn_26 (by decide) (fun c26 => ?_) (fun a26 c26 => ?_)
          · have hth := oA_none c26
            have hRn : RepC G B (w_wr S (wrS S j (s_wr S) (k + 1))) M := by
              show RepC G B (w_wr S (wrO S (wrS S j (s_wr S) k) (s_th S j k))) M
              rw [hth]; exact hRk
            refine lv_iinc (v := nI (k + 1)) (lv' := [(2, .int (nI (k + 1))), (3, va_rf (oA B (s_th S j k))), (0, .ref (B.2.1 j)), (1, .int (nI v))]) hx hb dX4_putOn_37 hl (k := 1) rfl (nI_1 k) (by decide) rfl (fun ls hl => ?_)
            refine lv_goto (tgt := 9) hx hb dX4_putOn_40 (by decide) ?_
            exact ih (k + 1) (by omega) (by omega) ls _ _ _ hRn hM hS (lv_sub hl [0, 2, 3] rfl)
          · obtain ⟨t, hth, rfl⟩ := oA_some c26
            rw [hth] at hl
            have hl : lv_has ls 4 [(3, .ref (B.2.1 t)), (2, .int (nI k)), (0, .ref (B.2.1 j)), (1, .int (nI v))] := hl
            obtain ⟨htn, hga⟩ := hI.2.2.2.1 j hj (by omega) k t hkk hth
            have ht16 := (hI.2.2.1 t htn).1
            obtain ⟨hkt, hkt2⟩ := gA_rw _ ht16 _ hk8 hk12 hga
            have hct := hRk.2.2.2.2.2.1 t htn
            rw [pcell_rw (S := w_wr S (wrS S j (s_wr S) k)) (rw_of (show 8 ≤ s_kd S t from hkt) (by show s_kd S t ≤ 15; omega))] at hct
            refine lv_aload_n hx hb dX4_putOn_29 rfl (lv_at hl 0 rfl) ?_
            refine lv_iload_n hx hb dX4_putOn_30 rfl (lv_at hl 3 rfl) ?_
            refine zm_callSN (As := [.int (nI v)]) (rest := [.ref (B.2.1 t)]) hx hb hml hts hown hE hA hM hS (c_X5_partView l G A _ v (by omega) (by omega)) cd_X5_partView nl_X4_19 rfl rfl hl.1 (Nat.le_of_ble_eq_true rfl) ⟨Nat.le_of_ble_eq_true rfl, Nat.le_of_ble_eq_true rfl⟩ ⟨Nat.le_of_ble_eq_true rfl, Nat.le_of_ble_eq_true rfl⟩ dX4_putOn_31 ?_
            rintro r M1 H locs ⟨rfl, e1⟩ hM hS
            rw [e1] at hM
            clear e1 M1
            refine W.eq (g2 := F0 m 34 ls [.int (nI (inn v)), .ref (B.2.1 t)]) rfl ?_
            refine zm_callU (x := ⟨"PropStore$Prop", "putOn", "(I)V"⟩) (As := [.int (nI (inn v))]) (rest := []) hx hb hml hts hown hE hA hM hS hct rfl (c_X4_putOn1 l G A B (w_wr S (wrS S j (s_wr S) k)) _ t (inn v) hI hRk htn hkt hkt2 (inn_rw v hv8 hv12).1 (inn_rw v hv8 hv12).2) cd_X4_putOn ⟨rfl, rfl, rfl⟩ mu_X4_27_3 rfl rfl hl.1 (Nat.le_of_ble_eq_true rfl) ⟨Nat.le_of_ble_eq_true rfl, Nat.le_of_ble_eq_true rfl⟩ ⟨Nat.le_of_ble_eq_true rfl, Nat.le_of_ble_eq_true rfl⟩ dX4_putOn_34 ?_
            rintro r M1 H locs ⟨rfl, hR1⟩ hM hS
            refine W.eq (g2 := F0 m 37 ls []) rfl ?_
            have hRn : RepC G B (w_wr S (wrS S j (s_wr S) (k + 1))) M1 := by
              show RepC G B (w_wr S (wrO S (wrS S j (s_wr S) k) (s_th S j k))) M1
              rw [hth]; rw [wrR_w] at hR1; exact hR1
            refine lv_iinc (v := nI (k + 1)) (lv' := [(2, .int (nI (k + 1))), (3, .ref (B.2.1 t)), (0, .ref (B.2.1 j)), (1, .int (nI v))]) hx hb dX4_putOn_37 hl (k := 1) rfl (nI_1 k) (by decide) rfl (fun ls hl => ?_)
            refine lv_goto (tgt := 9) hx hb dX4_putOn_40 (by decide) ?_
            exact ih (k + 1) (by omega) (by omega) ls _ _ _ hRn hM hS (lv_sub hl [0, 2, 3] rfl)
    exact loop (s_sz S j + 1) 0 (Nat.zero_le _) (by omega) ls _ _ _ hR hM hS (lv_sub hl [0, 1, 2] rfl)
set_option maxRecDepth 20000 in
theorem gA_l1 : ∀ k, k < 16 → ∀ v, v < 17 → gA k v = true → k < 4 → v < 4 := by decide +kernel
set_option maxRecDepth 20000 in
theorem gA_l2b : ∀ k, k < 16 → ∀ v, v < 17 → (!(gA k v && isPc k) || (v == 4 || v == 5 || v == 6 || v == 7 || v == 16)) = true := by decide +kernel
theorem gA_l2 (k : Nat) (hk : k < 16) (v : Nat) (hv : v < 17) (h : gA k v = true) (h2 : isPc k = true) : v = 4 ∨ v = 5 ∨ v = 6 ∨ v = 7 ∨ v = 16 := by have := gA_l2b k hk v hv; rw [h, h2] at this; simp at this; omega
set_option maxRecDepth 20000 in
theorem gA_l3b : ∀ k, k < 16 → ∀ v, v < 17 → (!(gA k v && (decide (8 ≤ k) && decide (k ≤ 12))) || (decide (8 ≤ v) && decide (v ≤ 12))) = true := by decide +kernel
theorem gA_l3 (k : Nat) (hk : k < 16) (v : Nat) (hv : v < 17) (h : gA k v = true) (h2 : 8 ≤ k) (h3 : k ≤ 12) : 8 ≤ v ∧ v ≤ 12 := by have := gA_l3b k hk v hv; rw [h, decide_eq_true h2, decide_eq_true h3] at this; simp at this; omega
set_option maxRecDepth 20000 in
theorem gA_l4 : ∀ k, k < 16 → ∀ v, v < 17 → gA k v = true → 13 ≤ k → 13 ≤ v ∧ v ≤ 15 := by decide +kernel
theorem gA_lv0 (k : Nat) (hk : k < 16) (v : Nat) (hv : v < 17) (h : gA k v = true) : (k < 4 → v < 4) ∧ (isPc k = true → v = 4 ∨ v = 5 ∨ v = 6 ∨ v = 7 ∨ v = 16) ∧ (8 ≤ k → k ≤ 12 → 8 ≤ v ∧ v ≤ 12) ∧ (13 ≤ k → 13 ≤ v ∧ v ≤ 15) := ⟨gA_l1 k hk v hv h, gA_l2 k hk v hv h, gA_l3 k hk v hv h, gA_l4 k hk v hv h⟩
theorem has1 : ∀ v, v < 17 → hasV 1 v = true → ¬ v < 4 := by decide
theorem wOf_nu {S : zS} {j v : Nat} (h : v < 4) : wOf S j v = zsum (s_nu S j) (many S j) := by unfold wOf; rw [if_pos h]
theorem wOf_pc {S : zS} {j v : Nat} (h : v = 4 ∨ v = 5 ∨ v = 6 ∨ v = 7 ∨ v = 16) : wOf S j v = wOne S j v := by unfold wOf; rw [if_neg (by omega), if_pos (by omega)]
theorem wOf_r1 {S : zS} {j v : Nat} (h : 8 ≤ v) (h2 : v ≤ 12) : wOf S j v = wRow S j v := by unfold wOf; rw [if_neg (by omega), if_neg (by omega), if_pos (by omega)]
theorem wOf_r2 {S : zS} {j v : Nat} (h : 13 ≤ v) (h2 : v ≤ 15) : wOf S j v = zsum (fun i => wAt (fun t => wRow S t (inn v)) (s_th S j i)) (s_sz S j) := by unfold wOf; rw [if_neg (by omega), if_neg (by omega), if_neg (by omega)]
theorem wAll_pc {S : zS} {j : Nat} (h : isPc (s_kd S j) = true) : wAll S j = upd (s_wr S) j (s_wr S j + 1) := by unfold wAll; rw [if_pos (by simp [isPc] at h; omega)]
theorem wAll_r1 {S : zS} {j : Nat} (h : 8 ≤ s_kd S j) (h2 : s_kd S j ≤ 12) : wAll S j = wrR S j (s_wr S) (s_sz S j) := by unfold wAll; rw [if_neg (by omega), if_pos (by omega)]
theorem wAll_r2 {S : zS} {j : Nat} (h : 13 ≤ s_kd S j) : wAll S j = wrS S j (s_wr S) (s_sz S j) := by unfold wAll; rw [if_neg (by omega), if_neg (by omega)]
set_option maxRecDepth 100000 in
set_option maxHeartbeats 4000000 in
theorem c_X5_worth (l : Launch) (G : zm_G) (A : Nat → Prop) (B : zB) (S : zS) (M : zm_M) (q x : Int32) (hI : zInv S) (hR : RepC G B S M) : Met l yX5_worth (zm_W yX5_worth cX5_worth 4 (some .long)) (zm_rm 4 0 0) (zm_Pc G [.ref B.1.1, .int q, .int x] A M) (zm_Q G (fun r M' => r = some (.long (sp_worth S q x)) ∧ M' = M) A) 0 0 A := by
  refine zm_start (by decide) (Nat.le_of_ble_eq_true rfl) ?_
  intro p e s m below meth c hx hb hml hr hts hown hlk hnm hE hA ls hl hM hS
  have hl : lv_has ls 4 [(0, .ref B.1.1), (1, .int q), (2, .int x)] := hl
  refine lv_aload_n hx hb dX5_worth_0 rfl (lv_at hl 0 rfl) ?_
  refine lv_iload_n hx hb dX5_worth_1 rfl (lv_at hl 1 rfl) ?_
  refine zm_callV (As := [.int q]) (rest := []) hx hb hml hts hown hE hA hM hS hR.1 rfl (c_X5_find l G A B S _ q hI hR) cd_X5_find ml_X5_39 rfl rfl hl.1 (Nat.le_of_ble_eq_true rfl) ⟨Nat.le_of_ble_eq_true rfl, Nat.le_of_ble_eq_true rfl⟩ ⟨Nat.le_of_ble_eq_true rfl, Nat.le_of_ble_eq_true rfl⟩ dX5_worth_2 ?_
  rintro r M1 H locs ⟨rfl, e1⟩ hM hS
  rw [e1] at hM
  clear e1 M1
  refine W.eq (g2 := F0 m 5 ls [va_rf (oA B (ix (s_np S) q))]) rfl ?_
  refine zq_astore_n (lv' := [(3, va_rf (oA B (ix (s_np S) q))), (0, .ref B.1.1), (1, .int q), (2, .int x)]) hx hb dX5_worth_5 rfl hl (by decide) rfl (fun ls hl => ?_)
  refine zq_aload_n hx hb dX5_worth_6 rfl (lv_at hl 0 rfl) ?_
  refine zq_ifnull (tgt := 25) hx hb dX5_worth_7 (by decide) (fun c7 => ?_) (fun a7 c7 => ?_)
  · have hix := oA_none c7
    refine lv_lconst (v := 0) hx hb dX5_worth_25 (by decide) ?_
    refine zm_lret hx hb hr hlk hM hS ?_ ⟨Nat.le_refl _, Nat.le_refl _⟩ dX5_worth_26
    refine ⟨?_, rfl⟩
    unfold sp_worth
    first | (rw [hix, hiv]; show some (Value.long 0) = some (Value.long (if gA (s_kd S j) v = true then wOf S j v else 0)); rw [if_neg (by rw [show gA (s_kd S j) v = false from c22]; decide)]; done) | (rw [hix, isS_f c14]; done) | (rw [hix]; done)
  · obtain ⟨j, hix, rfl⟩ := oA_some c7
    have hj := ix_ho hI j hix
    rw [hix] at hl
    refine lv_iload_n hx hb dX5_worth_10 rfl (lv_at hl 3 rfl) ?_
    refine zm_callS (As := [.int x]) (rest := []) hx hb hml hts hown hE hA hM hS (c_X5_isView l G A _ x) cd_X5_isView ml_X5_61 rfl rfl hl.1 (Nat.le_of_ble_eq_true rfl) ⟨Nat.le_of_ble_eq_true rfl, Nat.le_of_ble_eq_true rfl⟩ ⟨Nat.le_of_ble_eq_true rfl, Nat.le_of_ble_eq_true rfl⟩ dX5_worth_11 ?_
    rintro r M1 H locs ⟨rfl, e1⟩ hM hS
    rw [e1] at hM
    clear e1 M1
    refine W.eq (g2 := F0 m 14 ls [.int (bI ((ix 17 x).isSome))]) rfl ?_
    refine lv_if_eq (tgt := 25) hx hb dX5_worth_14 (by decide) (fun c14 => ?_) (fun c14 => ?_)
    · rw [bI_0] at c14
      refine lv_lconst (v := 0) hx hb dX5_worth_25 (by decide) ?_
      refine zm_lret hx hb hr hlk hM hS ?_ ⟨Nat.le_refl _, Nat.le_refl _⟩ dX5_worth_26
      refine ⟨?_, rfl⟩
      unfold sp_worth
      first | (rw [hix, hiv]; show some (Value.long 0) = some (Value.long (if gA (s_kd S j) v = true then wOf S j v else 0)); rw [if_neg (by rw [show gA (s_kd S j) v = false from c22]; decide)]; done) | (rw [hix, isS_f c14]; done) | (rw [hix]; done)
    · rw [bI_n] at c14
      obtain ⟨v, hiv⟩ := isS_t c14
      obtain ⟨hv, rfl⟩ := ix_some (by decide) hiv
      refine zq_aload_n hx hb dX5_worth_17 rfl (lv_at hl 0 rfl) ?_
      refine lv_iload_n hx hb dX5_worth_18 rfl (lv_at hl 3 rfl) ?_
      refine zm_callS (As := [va_rf (oA B (some j)), .int (nI v)]) (rest := []) hx hb hml hts hown hE hA hM hS (c_X5_goesAs l G A B S _ (some j) v (hv) hI hR (fun t ht => by cases ht; exact hj)) cd_X5_goesAs ml_X5_91 rfl rfl hl.1 (Nat.le_of_ble_eq_true rfl) ⟨Nat.le_of_ble_eq_true rfl, Nat.le_of_ble_eq_true rfl⟩ ⟨Nat.le_of_ble_eq_true rfl, Nat.le_of_ble_eq_true rfl⟩ dX5_worth_19 ?_
      rintro r M1 H locs ⟨rfl, e1⟩ hM hS
      rw [e1] at hM
      clear e1 M1
      refine W.eq (g2 := F0 m 22 ls [.int (bI (goS S (some j) v))]) rfl ?_
      refine lv_if_ne (tgt := 27) hx hb dX5_worth_22 (by decide) (fun c22 => ?_) (fun c22 => ?_)
      · rw [bI_n] at c22
        have hga : gA (s_kd S j) v = true := c22
        have hv17 := hv
        have hl : lv_has ls 4 [(3, .ref (B.2.1 j)), (0, .ref B.1.1), (1, .int q), (2, .int (nI v))] := hl
        refine lv_aload_n hx hb dX5_worth_27 rfl (lv_at hl 0 rfl) ?_
        refine lv_iload_n hx hb dX5_worth_28 rfl (lv_at hl 3 rfl) ?_
        obtain ⟨g1, g2, g3, g4⟩ := gA_lv0 _ (hI.2.2.1 j hj).1 _ hv17 hga; rcases hR.at hI hj with ⟨hk, hc⟩ | ⟨hk, hc⟩ | ⟨hk, hc⟩
        · refine zm_callU (x := ⟨"PropStore$Prop", "worthBy", "(I)J"⟩) (As := [.int (nI v)]) (rest := []) hx hb hml hts hown hE hA hM hS hc rfl (c_X1_worthBy l G A B S _ j v hI hR hj hk) cd_X1_worthBy ⟨rfl, rfl, rfl⟩ mu_X5_95_1 rfl rfl hl.1 (Nat.le_of_ble_eq_true rfl) ⟨Nat.le_of_ble_eq_true rfl, Nat.le_of_ble_eq_true rfl⟩ ⟨Nat.le_of_ble_eq_true rfl, Nat.le_of_ble_eq_true rfl⟩ dX5_worth_29 ?_
          rintro r M1 H locs ⟨rfl, e1⟩ hM hS
          rw [e1] at hM
          clear e1 M1
          rw [← wOf_nu (g1 hk)]
          refine W.eq (g2 := F0 m 32 ls [.long (wOf S j v)]) rfl ?_
          refine zm_lret hx hb hr hlk hM hS ?_ ⟨Nat.le_refl _, Nat.le_refl _⟩ dX5_worth_32
          refine ⟨?_, rfl⟩
          unfold sp_worth
          rw [hix, hiv]
          show some (Value.long _) = some (Value.long (if gA (s_kd S j) v = true then wOf S j v else 0))
          rw [if_pos hga]
        · refine zm_callU (x := ⟨"PropStore$Prop", "worthBy", "(I)J"⟩) (As := [.int (nI v)]) (rest := []) hx hb hml hts hown hE hA hM hS hc rfl (c_X2_worthBy l G A B S _ j v hI hR hj hk (g2 hk)) cd_X2_worthBy ⟨rfl, rfl, rfl⟩ mu_X5_95_2 rfl rfl hl.1 (Nat.le_of_ble_eq_true rfl) ⟨Nat.le_of_ble_eq_true rfl, Nat.le_of_ble_eq_true rfl⟩ ⟨Nat.le_of_ble_eq_true rfl, Nat.le_of_ble_eq_true rfl⟩ dX5_worth_29 ?_
          rintro r M1 H locs ⟨rfl, e1⟩ hM hS
          rw [e1] at hM
          clear e1 M1
          rw [← wOf_pc (g2 hk)]
          refine W.eq (g2 := F0 m 32 ls [.long (wOf S j v)]) rfl ?_
          refine zm_lret hx hb hr hlk hM hS ?_ ⟨Nat.le_refl _, Nat.le_refl _⟩ dX5_worth_32
          refine ⟨?_, rfl⟩
          unfold sp_worth
          rw [hix, hiv]
          show some (Value.long _) = some (Value.long (if gA (s_kd S j) v = true then wOf S j v else 0))
          rw [if_pos hga]
        · simp only [isRw, Bool.and_eq_true, decide_eq_true_eq] at hk
          by_cases h12 : s_kd S j ≤ 12
          · refine zm_callU (x := ⟨"PropStore$Prop", "worthBy", "(I)J"⟩) (As := [.int (nI v)]) (rest := []) hx hb hml hts hown hE hA hM hS hc rfl (c_X4_worthBy1 l G A B S _ j v hI hR hj hk.1 h12 (g3 hk.1 h12).1 (g3 hk.1 h12).2) cd_X4_worthBy ⟨rfl, rfl, rfl⟩ mu_X5_95_3 rfl rfl hl.1 (Nat.le_of_ble_eq_true rfl) ⟨Nat.le_of_ble_eq_true rfl, Nat.le_of_ble_eq_true rfl⟩ ⟨Nat.le_of_ble_eq_true rfl, Nat.le_of_ble_eq_true rfl⟩ dX5_worth_29 ?_
            rintro r M1 H locs ⟨rfl, e1⟩ hM hS
            rw [e1] at hM
            clear e1 M1
            rw [show zsum (fun i => wAt (fun t => wOne S t (inn v)) (s_th S j i)) (s_sz S j) = wOf S j v from (wOf_r1 (g3 hk.1 h12).1 (g3 hk.1 h12).2).symm]
            refine W.eq (g2 := F0 m 32 ls [.long (wOf S j v)]) rfl ?_
            refine zm_lret hx hb hr hlk hM hS ?_ ⟨Nat.le_refl _, Nat.le_refl _⟩ dX5_worth_32
            refine ⟨?_, rfl⟩
            unfold sp_worth
            rw [hix, hiv]
            show some (Value.long _) = some (Value.long (if gA (s_kd S j) v = true then wOf S j v else 0))
            rw [if_pos hga]
          · refine zm_callU (x := ⟨"PropStore$Prop", "worthBy", "(I)J"⟩) (As := [.int (nI v)]) (rest := []) hx hb hml hts hown hE hA hM hS hc rfl (c_X4_worthBy2 l G A B S _ j v hI hR hj (by omega) (by omega) (g4 (by omega)).1 (g4 (by omega)).2) cd_X4_worthBy ⟨rfl, rfl, rfl⟩ mu_X5_95_3 rfl rfl hl.1 (Nat.le_of_ble_eq_true rfl) ⟨Nat.le_of_ble_eq_true rfl, Nat.le_of_ble_eq_true rfl⟩ ⟨Nat.le_of_ble_eq_true rfl, Nat.le_of_ble_eq_true rfl⟩ dX5_worth_29 ?_
            rintro r M1 H locs ⟨rfl, e1⟩ hM hS
            rw [e1] at hM
            clear e1 M1
            rw [← wOf_r2 (g4 (by omega)).1 (g4 (by omega)).2]
            refine W.eq (g2 := F0 m 32 ls [.long (wOf S j v)]) rfl ?_
            refine zm_lret hx hb hr hlk hM hS ?_ ⟨Nat.le_refl _, Nat.le_refl _⟩ dX5_worth_32
            refine ⟨?_, rfl⟩
            unfold sp_worth
            rw [hix, hiv]
            show some (Value.long _) = some (Value.long (if gA (s_kd S j) v = true then wOf S j v else 0))
            rw [if_pos hga]
      · rw [bI_0] at c22
        refine lv_lconst (v := 0) hx hb dX5_worth_25 (by decide) ?_
        refine zm_lret hx hb hr hlk hM hS ?_ ⟨Nat.le_refl _, Nat.le_refl _⟩ dX5_worth_26
        refine ⟨?_, rfl⟩
        unfold sp_worth
        first | (rw [hix, hiv]; show some (Value.long 0) = some (Value.long (if gA (s_kd S j) v = true then wOf S j v else 0)); rw [if_neg (by rw [show gA (s_kd S j) v = false from c22]; decide)]; done) | (rw [hix, isS_f c14]; done) | (rw [hix]; done)
set_option maxRecDepth 100000 in
set_option maxHeartbeats 4000000 in
theorem c_X5_showProp (l : Launch) (G : zm_G) (A : Nat → Prop) (B : zB) (S : zS) (M : zm_M) (o : Option Nat) (v : Nat) (hv17 : v < 17) (ho : ∀ j, o = some j → j < s_np S) (hgo : goS S o v = true) (hI : zInv S) (hR : RepC G B S M) : Met l yX5_showProp (zm_W yX5_showProp cX5_showProp 3 (some .int)) (zm_rm 4 0 0) (zm_Pc G [.ref B.1.1, va_rf (oA B o), .int (nI v)] A M) (zm_Q G (fun r M' => (o = none ∧ r = some (.int (-4)) ∧ RepC G B S M') ∨ ∃ j, o = some j ∧ r = some (.int 0) ∧ RepC G B (w_po S (s_po S + wOf S j v)) M') A) 0 0 A := by
  refine zm_start (by decide) (by generalize (oA B o) = z; cases z <;> exact Nat.le_of_ble_eq_true rfl) ?_
  intro p e s m below meth c hx hb hml hr hts hown hlk hnm hE hA ls hl hM hS
  have hl : lv_has ls 3 [(0, .ref B.1.1), (1, va_rf (oA B o)), (2, .int (nI v))] := by revert hl; generalize (oA B o) = z; cases z <;> exact id
  refine zq_aload_n hx hb dX5_showProp_0 rfl (lv_at hl 1 rfl) ?_
  refine zq_ifnonnull (tgt := 7) hx hb dX5_showProp_1 (by decide) (fun a1 c1 => ?_) (fun c1 => ?_)
  · obtain ⟨j, rfl, rfl⟩ := oA_some c1
    have hj := ho j rfl
    have hga : gA (s_kd S j) v = true := hgo
    have hl : lv_has ls 3 [(0, .ref B.1.1), (1, .ref (B.2.1 j)), (2, .int (nI v))] := hl
    refine lv_aload_n hx hb dX5_showProp_7 rfl (lv_at hl 0 rfl) ?_
    refine lv_dup hx hb dX5_showProp_8 rfl ?_
    refine zm_get hx hb hts hown hE hM hR.1 fl_X5_87_4 rfl dX5_showProp_9 ?_
    refine lv_aload_n hx hb dX5_showProp_12 rfl (lv_at hl 1 rfl) ?_
    refine lv_iload_n hx hb dX5_showProp_13 rfl (lv_at hl 2 rfl) ?_
    obtain ⟨g1, g2, g3, g4⟩ := gA_lv0 _ (hI.2.2.1 j hj).1 _ hv17 hga; rcases hR.at hI hj with ⟨hk, hc⟩ | ⟨hk, hc⟩ | ⟨hk, hc⟩
    · refine zm_callU (x := ⟨"PropStore$Prop", "worthBy", "(I)J"⟩) (As := [.int (nI v)]) (rest := [.long (s_po S), .ref B.1.1]) hx hb hml hts hown hE hA hM hS hc rfl (c_X1_worthBy l G A B S _ j v hI hR hj hk) cd_X1_worthBy ⟨rfl, rfl, rfl⟩ mu_X5_95_1 rfl rfl hl.1 (Nat.le_of_ble_eq_true rfl) ⟨Nat.le_of_ble_eq_true rfl, Nat.le_of_ble_eq_true rfl⟩ ⟨Nat.le_of_ble_eq_true rfl, Nat.le_of_ble_eq_true rfl⟩ dX5_showProp_14 ?_
      rintro r M1 H locs ⟨rfl, e1⟩ hM hS
      rw [e1] at hM
      clear e1 M1
      rw [← wOf_nu (g1 hk)]
      refine W.eq (g2 := F0 m 17 ls [.long (wOf S j v), .long (s_po S), .ref B.1.1]) rfl ?_
      refine lv_ladd hx hb dX5_showProp_17 ?_
      refine zm_put hx hb hts hown hE hM hS hR.1 fp_X5_87_4 rfl rfl (Nat.le_of_ble_eq_true rfl) dX5_showProp_18 (fun H locs hM hS => ?_)
      have hR2 := hR.fld (S' := w_po S (s_po S + wOf S j v)) rfl rfl rfl rfl (Nat.le_refl _) rfl
      refine lv_iconst (v := 0) hx hb dX5_showProp_21 (by decide) ?_
      refine zm_iret hx hb hr hlk hM hS ?_ ⟨Nat.le_refl _, Nat.le_refl _⟩ dX5_showProp_22
      exact Or.inr ⟨j, rfl, rfl, hR2⟩
    · refine zm_callU (x := ⟨"PropStore$Prop", "worthBy", "(I)J"⟩) (As := [.int (nI v)]) (rest := [.long (s_po S), .ref B.1.1]) hx hb hml hts hown hE hA hM hS hc rfl (c_X2_worthBy l G A B S _ j v hI hR hj hk (g2 hk)) cd_X2_worthBy ⟨rfl, rfl, rfl⟩ mu_X5_95_2 rfl rfl hl.1 (Nat.le_of_ble_eq_true rfl) ⟨Nat.le_of_ble_eq_true rfl, Nat.le_of_ble_eq_true rfl⟩ ⟨Nat.le_of_ble_eq_true rfl, Nat.le_of_ble_eq_true rfl⟩ dX5_showProp_14 ?_
      rintro r M1 H locs ⟨rfl, e1⟩ hM hS
      rw [e1] at hM
      clear e1 M1
      rw [← wOf_pc (g2 hk)]
      refine W.eq (g2 := F0 m 17 ls [.long (wOf S j v), .long (s_po S), .ref B.1.1]) rfl ?_
      refine lv_ladd hx hb dX5_showProp_17 ?_
      refine zm_put hx hb hts hown hE hM hS hR.1 fp_X5_87_4 rfl rfl (Nat.le_of_ble_eq_true rfl) dX5_showProp_18 (fun H locs hM hS => ?_)
      have hR2 := hR.fld (S' := w_po S (s_po S + wOf S j v)) rfl rfl rfl rfl (Nat.le_refl _) rfl
      refine lv_iconst (v := 0) hx hb dX5_showProp_21 (by decide) ?_
      refine zm_iret hx hb hr hlk hM hS ?_ ⟨Nat.le_refl _, Nat.le_refl _⟩ dX5_showProp_22
      exact Or.inr ⟨j, rfl, rfl, hR2⟩
    · simp only [isRw, Bool.and_eq_true, decide_eq_true_eq] at hk
      by_cases h12 : s_kd S j ≤ 12
      · refine zm_callU (x := ⟨"PropStore$Prop", "worthBy", "(I)J"⟩) (As := [.int (nI v)]) (rest := [.long (s_po S), .ref B.1.1]) hx hb hml hts hown hE hA hM hS hc rfl (c_X4_worthBy1 l G A B S _ j v hI hR hj hk.1 h12 (g3 hk.1 h12).1 (g3 hk.1 h12).2) cd_X4_worthBy ⟨rfl, rfl, rfl⟩ mu_X5_95_3 rfl rfl hl.1 (Nat.le_of_ble_eq_true rfl) ⟨Nat.le_of_ble_eq_true rfl, Nat.le_of_ble_eq_true rfl⟩ ⟨Nat.le_of_ble_eq_true rfl, Nat.le_of_ble_eq_true rfl⟩ dX5_showProp_14 ?_
        rintro r M1 H locs ⟨rfl, e1⟩ hM hS
        rw [e1] at hM
        clear e1 M1
        rw [show zsum (fun i => wAt (fun t => wOne S t (inn v)) (s_th S j i)) (s_sz S j) = wOf S j v from (wOf_r1 (g3 hk.1 h12).1 (g3 hk.1 h12).2).symm]
        refine W.eq (g2 := F0 m 17 ls [.long (wOf S j v), .long (s_po S), .ref B.1.1]) rfl ?_
        refine lv_ladd hx hb dX5_showProp_17 ?_
        refine zm_put hx hb hts hown hE hM hS hR.1 fp_X5_87_4 rfl rfl (Nat.le_of_ble_eq_true rfl) dX5_showProp_18 (fun H locs hM hS => ?_)
        have hR2 := hR.fld (S' := w_po S (s_po S + wOf S j v)) rfl rfl rfl rfl (Nat.le_refl _) rfl
        refine lv_iconst (v := 0) hx hb dX5_showProp_21 (by decide) ?_
        refine zm_iret hx hb hr hlk hM hS ?_ ⟨Nat.le_refl _, Nat.le_refl _⟩ dX5_showProp_22
        exact Or.inr ⟨j, rfl, rfl, hR2⟩
      · refine zm_callU (x := ⟨"PropStore$Prop", "worthBy", "(I)J"⟩) (As := [.int (nI v)]) (rest := [.long (s_po S), .ref B.1.1]) hx hb hml hts hown hE hA hM hS hc rfl (c_X4_worthBy2 l G A B S _ j v hI hR hj (by omega) (by omega) (g4 (by omega)).1 (g4 (by omega)).2) cd_X4_worthBy ⟨rfl, rfl, rfl⟩ mu_X5_95_3 rfl rfl hl.1 (Nat.le_of_ble_eq_true rfl) ⟨Nat.le_of_ble_eq_true rfl, Nat.le_of_ble_eq_true rfl⟩ ⟨Nat.le_of_ble_eq_true rfl, Nat.le_of_ble_eq_true rfl⟩ dX5_showProp_14 ?_
        rintro r M1 H locs ⟨rfl, e1⟩ hM hS
        rw [e1] at hM
        clear e1 M1
        rw [← wOf_r2 (g4 (by omega)).1 (g4 (by omega)).2]
        refine W.eq (g2 := F0 m 17 ls [.long (wOf S j v), .long (s_po S), .ref B.1.1]) rfl ?_
        refine lv_ladd hx hb dX5_showProp_17 ?_
        refine zm_put hx hb hts hown hE hM hS hR.1 fp_X5_87_4 rfl rfl (Nat.le_of_ble_eq_true rfl) dX5_showProp_18 (fun H locs hM hS => ?_)
        have hR2 := hR.fld (S' := w_po S (s_po S + wOf S j v)) rfl rfl rfl rfl (Nat.le_refl _) rfl
        refine lv_iconst (v := 0) hx hb dX5_showProp_21 (by decide) ?_
        refine zm_iret hx hb hr hlk hM hS ?_ ⟨Nat.le_refl _, Nat.le_refl _⟩ dX5_showProp_22
        exact Or.inr ⟨j, rfl, rfl, hR2⟩
  · obtain rfl := oA_none c1
    refine lv_bipush (v := (-4)) hx hb dX5_showProp_4 (by decide) ?_
    refine zm_iret hx hb hr hlk hM hS ?_ ⟨Nat.le_refl _, Nat.le_refl _⟩ dX5_showProp_6
    exact Or.inl ⟨rfl, rfl, hR⟩
set_option maxRecDepth 100000 in
set_option maxHeartbeats 4000000 in
theorem c_X5_wearProp (l : Launch) (G : zm_G) (A : Nat → Prop) (B : zB) (S : zS) (M : zm_M) (o : Option Nat) (v : Nat) (hv17 : v < 17) (ho : ∀ j, o = some j → j < s_np S) (hgo : goS S o v = true) (hhas : hasV 1 v = true) (hI : zInv S) (hR : RepC G B S M) : Met l yX5_wearProp (zm_W yX5_wearProp cX5_wearProp 2 (some .int)) (zm_rm 4 0 0) (zm_Pc G [va_rf (oA B o), .int (nI v)] A M) (zm_Q G (fun r M' => (o = none ∧ r = some (.int (-4)) ∧ RepC G B S M') ∨ ∃ j, o = some j ∧ r = some (.int 0) ∧ RepC G B (w_wr S (wAll S j)) M') A) 0 0 A := by
  refine zm_start (by decide) (by generalize (oA B o) = z; cases z <;> exact Nat.le_of_ble_eq_true rfl) ?_
  intro p e s m below meth c hx hb hml hr hts hown hlk hnm hE hA ls hl hM hS
  have hl : lv_has ls 2 [(0, va_rf (oA B o)), (1, .int (nI v))] := by revert hl; generalize (oA B o) = z; cases z <;> exact id
  refine zq_aload_n hx hb dX5_wearProp_0 rfl (lv_at hl 0 rfl) ?_
  refine zq_ifnonnull (tgt := 7) hx hb dX5_wearProp_1 (by decide) (fun a1 c1 => ?_) (fun c1 => ?_)
  · obtain ⟨j, rfl, rfl⟩ := oA_some c1
    have hj := ho j rfl
    have hga : gA (s_kd S j) v = true := hgo
    have hl : lv_has ls 2 [(0, .ref (B.2.1 j)), (1, .int (nI v))] := hl
    refine lv_aload_n hx hb dX5_wearProp_7 rfl (lv_at hl 0 rfl) ?_
    refine lv_iload_n hx hb dX5_wearProp_8 rfl (lv_at hl 1 rfl) ?_
    obtain ⟨g1, g2, g3, g4⟩ := gA_lv0 _ (hI.2.2.1 j hj).1 _ hv17 hga; rcases hR.at hI hj with ⟨hk, hc⟩ | ⟨hk, hc⟩ | ⟨hk, hc⟩
    · exact absurd (g1 hk) (has1 v hv17 hhas)
    · refine zm_callU (x := ⟨"PropStore$Prop", "putOn", "(I)V"⟩) (As := [.int (nI v)]) (rest := []) hx hb hml hts hown hE hA hM hS hc rfl (c_X2_putOn l G A B S _ j v hI hR hj hk) cd_X2_putOn ⟨rfl, rfl, rfl⟩ mu_X5_141_2 rfl rfl hl.1 (Nat.le_of_ble_eq_true rfl) ⟨Nat.le_of_ble_eq_true rfl, Nat.le_of_ble_eq_true rfl⟩ ⟨Nat.le_of_ble_eq_true rfl, Nat.le_of_ble_eq_true rfl⟩ dX5_wearProp_9 ?_
      rintro r M1 H locs ⟨rfl, hR1⟩ hM hS
      rw [← wAll_pc hk] at hR1
      refine W.eq (g2 := F0 m 12 ls []) rfl ?_
      refine lv_iconst (v := 0) hx hb dX5_wearProp_12 (by decide) ?_
      refine zm_iret hx hb hr hlk hM hS ?_ ⟨Nat.le_refl _, Nat.le_refl _⟩ dX5_wearProp_13
      exact Or.inr ⟨j, rfl, rfl, hR1⟩
    · simp only [isRw, Bool.and_eq_true, decide_eq_true_eq] at hk
      by_cases h12 : s_kd S j ≤ 12
      · refine zm_callU (x := ⟨"PropStore$Prop", "putOn", "(I)V"⟩) (As := [.int (nI v)]) (rest := []) hx hb hml hts hown hE hA hM hS hc rfl (c_X4_putOn1 l G A B S _ j v hI hR hj hk.1 h12 (g3 hk.1 h12).1 (g3 hk.1 h12).2) cd_X4_putOn ⟨rfl, rfl, rfl⟩ mu_X5_141_3 rfl rfl hl.1 (Nat.le_of_ble_eq_true rfl) ⟨Nat.le_of_ble_eq_true rfl, Nat.le_of_ble_eq_true rfl⟩ ⟨Nat.le_of_ble_eq_true rfl, Nat.le_of_ble_eq_true rfl⟩ dX5_wearProp_9 ?_
        rintro r M1 H locs ⟨rfl, hR1⟩ hM hS
        rw [← wAll_r1 hk.1 h12] at hR1
        refine W.eq (g2 := F0 m 12 ls []) rfl ?_
        refine lv_iconst (v := 0) hx hb dX5_wearProp_12 (by decide) ?_
        refine zm_iret hx hb hr hlk hM hS ?_ ⟨Nat.le_refl _, Nat.le_refl _⟩ dX5_wearProp_13
        exact Or.inr ⟨j, rfl, rfl, hR1⟩
      · refine zm_callU (x := ⟨"PropStore$Prop", "putOn", "(I)V"⟩) (As := [.int (nI v)]) (rest := []) hx hb hml hts hown hE hA hM hS hc rfl (c_X4_putOn2 l G A B S _ j v hI hR hj (by omega) (by omega) (g4 (by omega)).1 (g4 (by omega)).2) cd_X4_putOn ⟨rfl, rfl, rfl⟩ mu_X5_141_3 rfl rfl hl.1 (Nat.le_of_ble_eq_true rfl) ⟨Nat.le_of_ble_eq_true rfl, Nat.le_of_ble_eq_true rfl⟩ ⟨Nat.le_of_ble_eq_true rfl, Nat.le_of_ble_eq_true rfl⟩ dX5_wearProp_9 ?_
        rintro r M1 H locs ⟨rfl, hR1⟩ hM hS
        rw [← wAll_r2 (by omega)] at hR1
        refine W.eq (g2 := F0 m 12 ls []) rfl ?_
        refine lv_iconst (v := 0) hx hb dX5_wearProp_12 (by decide) ?_
        refine zm_iret hx hb hr hlk hM hS ?_ ⟨Nat.le_refl _, Nat.le_refl _⟩ dX5_wearProp_13
        exact Or.inr ⟨j, rfl, rfl, hR1⟩
  · obtain rfl := oA_none c1
    refine lv_bipush (v := (-4)) hx hb dX5_wearProp_4 (by decide) ?_
    refine zm_iret hx hb hr hlk hM hS ?_ ⟨Nat.le_refl _, Nat.le_refl _⟩ dX5_wearProp_6
    exact Or.inl ⟨rfl, rfl, hR⟩
