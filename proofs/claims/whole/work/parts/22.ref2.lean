set_option maxRecDepth 100000 in
set_option maxHeartbeats 4000000 in
theorem c_X6_hand (l : Launch) (G : zm_G) (A : Nat → Prop) (q : Nat → Nat) (S : zS) (M : zm_M) (hI : zInv S) (hR : RepR G q S M) : Met l yX6_hand (zm_W yX6_hand cX6_hand 1 (some .int)) (zm_rm 0 0 0) (zm_Pc G [.ref (q 0)] A M) (zm_Q G (fun r M' => r = some (.int (oI (s_hd S))) ∧ M' = M) A) 0 0 A := by
  refine zm_start (by decide) (Nat.le_of_ble_eq_true rfl) ?_
  intro p e s m below meth c hx hb hml hr hts hown hlk hnm hE hA ls hl hM hS
  have hl : lv_has ls 1 [(0, .ref (q 0))] := hl
  obtain ⟨f, g, hZ, hAb⟩ := hR
  have hnp := hI.1
  have hncc := hI.2.1
  refine lv_aload_n hx hb dX6_hand_0 rfl (lv_at hl 0 rfl) ?_
  refine zm_get hx hb hts hown hE hM hZ.2.1 fl_X6_29_5 rfl dX6_hand_1 ?_
  refine zm_iret hx hb hr hlk hM hS ?_ ⟨Nat.le_refl _, Nat.le_refl _⟩ dX6_hand_4
  exact ⟨rfl, rfl⟩
set_option maxRecDepth 100000 in
set_option maxHeartbeats 4000000 in
theorem c_X6_points (l : Launch) (G : zm_G) (A : Nat → Prop) (q : Nat → Nat) (S : zS) (M : zm_M) (hI : zInv S) (hR : RepR G q S M) : Met l yX6_points (zm_W yX6_points cX6_points 1 (some .long)) (zm_rm 0 0 0) (zm_Pc G [.ref (q 0)] A M) (zm_Q G (fun r M' => r = some (.long (s_po S)) ∧ M' = M) A) 0 0 A := by
  refine zm_start (by decide) (Nat.le_of_ble_eq_true rfl) ?_
  intro p e s m below meth c hx hb hml hr hts hown hlk hnm hE hA ls hl hM hS
  have hl : lv_has ls 1 [(0, .ref (q 0))] := hl
  obtain ⟨f, g, hZ, hAb⟩ := hR
  have hnp := hI.1
  have hncc := hI.2.1
  refine lv_aload_n hx hb dX6_points_0 rfl (lv_at hl 0 rfl) ?_
  refine zm_get hx hb hts hown hE hM hZ.2.1 fl_X6_113_5 rfl dX6_points_1 ?_
  refine zm_lret hx hb hr hlk hM hS ?_ ⟨Nat.le_refl _, Nat.le_refl _⟩ dX6_points_4
  exact ⟨rfl, rfl⟩
set_option maxRecDepth 100000 in
set_option maxHeartbeats 4000000 in
theorem c_X6_held (l : Launch) (G : zm_G) (A : Nat → Prop) (q : Nat → Nat) (S : zS) (M : zm_M) (x : Int32) (hI : zInv S) (hR : RepR G q S M) : Met l yX6_held (zm_W yX6_held cX6_held 2 (some .int)) (zm_rm 2 0 0) (zm_Pc G [.ref (q 0), .int x] A M) (zm_Q G (fun r M' => r = some (.int (sp_held S x)) ∧ M' = M) A) 0 0 A := by
  refine zm_start (by decide) (Nat.le_of_ble_eq_true rfl) ?_
  intro p e s m below meth c hx hb hml hr hts hown hlk hnm hE hA ls hl hM hS
  have hl : lv_has ls 2 [(0, .ref (q 0)), (1, .int x)] := hl
  obtain ⟨f, g, hZ, hAb⟩ := hR
  have hnp := hI.1
  have hncc := hI.2.1
  refine lv_iload_n hx hb dX6_held_0 rfl (lv_at hl 1 rfl) ?_
  refine zm_callS (As := [.int x]) (rest := []) hx hb hml hts hown hE hA hM hS (c_X6_isSlot l G A _ x) cd_X6_isSlot ml_X6_71 rfl rfl hl.1 (Nat.le_of_ble_eq_true rfl) ⟨Nat.le_of_ble_eq_true rfl, Nat.le_of_ble_eq_true rfl⟩ ⟨Nat.le_of_ble_eq_true rfl, Nat.le_of_ble_eq_true rfl⟩ dX6_held_1 ?_
  rintro r M1 H locs ⟨rfl, e1⟩ hM hS
  rw [e1] at hM
  clear e1 M1
  refine W.eq (g2 := F0 m 4 ls [.int (bI ((ix 10 x).isSome))]) rfl ?_
  refine lv_if_eq (tgt := 16) hx hb dX6_held_4 (by decide) (fun c4 => ?_) (fun c4 => ?_)
  · rw [bI_0] at c4
    have hix := isS_f c4
    refine lv_bipush (v := (-2)) hx hb dX6_held_16 (by decide) ?_
    refine zm_iret hx hb hr hlk hM hS ?_ ⟨Nat.le_refl _, Nat.le_refl _⟩ dX6_held_18
    refine ⟨?_, rfl⟩
    unfold sp_held
    rw [hix]
  · rw [bI_n] at c4
    obtain ⟨j, hix⟩ := isS_t c4
    obtain ⟨hj, rfl⟩ := ix_some (by omega) hix
    refine lv_aload_n hx hb dX6_held_7 rfl (lv_at hl 0 rfl) ?_
    refine zm_get hx hb hts hown hE hM hZ.2.1 fl_X6_26_5 rfl dX6_held_8 ?_
    refine lv_iload_n hx hb dX6_held_11 rfl (lv_at hl 1 rfl) ?_
    refine zm_iald hx hb hE hM (hZ.ar 6) (vp_in_nI (show j < 10 by omega) (by decide)) dX6_held_12 ?_
    refine zt_eq (v' := .int (oI (s_sl S j))) (by rw [nI_clamp (by omega)]; exact congrArg Value.int (hAb.2.2.2.1 j hj)) ?_
    refine lv_goto (tgt := 18) hx hb dX6_held_13 (by decide) ?_
    refine zm_iret hx hb hr hlk hM hS ?_ ⟨Nat.le_refl _, Nat.le_refl _⟩ dX6_held_18
    refine ⟨?_, rfl⟩
    unfold sp_held
    rw [hix]
set_option maxRecDepth 100000 in
set_option maxHeartbeats 4000000 in
theorem c_X6_slot (l : Launch) (G : zm_G) (A : Nat → Prop) (q : Nat → Nat) (S : zS) (M : zm_M) (x p0 : Int32) (hI : zInv S) (hR : RepR G q S M) : Met l yX6_slot (zm_W yX6_slot cX6_slot 4 (some .int)) (zm_rm 2 0 0) (zm_Pc G [.ref (q 0), .int x, .int p0] A M) (zm_Q G (fun r M' => r = some (.int (sp_slot S x p0).1) ∧ RepR G q (sp_slot S x p0).2 M') A) 0 0 A := by
  refine zm_start (by decide) (Nat.le_of_ble_eq_true rfl) ?_
  intro p e s m below meth c hx hb hml hr hts hown hlk hnm hE hA ls hl hM hS
  have hl : lv_has ls 4 [(0, .ref (q 0)), (1, .int x), (2, .int p0)] := hl
  obtain ⟨f, g, hZ, hAb⟩ := hR
  have hnp := hI.1
  have hncc := hI.2.1
  refine lv_iload_n hx hb dX6_slot_0 rfl (lv_at hl 1 rfl) ?_
  refine zm_callS (As := [.int x]) (rest := []) hx hb hml hts hown hE hA hM hS (c_X6_isSlot l G A _ x) cd_X6_isSlot ml_X6_71 rfl rfl hl.1 (Nat.le_of_ble_eq_true rfl) ⟨Nat.le_of_ble_eq_true rfl, Nat.le_of_ble_eq_true rfl⟩ ⟨Nat.le_of_ble_eq_true rfl, Nat.le_of_ble_eq_true rfl⟩ dX6_slot_1 ?_
  rintro r M1 H locs ⟨rfl, e1⟩ hM hS
  rw [e1] at hM
  clear e1 M1
  refine W.eq (g2 := F0 m 4 ls [.int (bI ((ix 10 x).isSome))]) rfl ?_
  refine lv_if_eq (tgt := 20) hx hb dX6_slot_4 (by decide) (fun c4 => ?_) (fun c4 => ?_)
  · rw [bI_0] at c4
    have hix := isS_f c4
    refine lv_bipush (v := (-2)) hx hb dX6_slot_20 (by decide) ?_
    refine zm_iret hx hb hr hlk hM hS ?_ ⟨Nat.le_refl _, Nat.le_refl _⟩ dX6_slot_22
    first | exact ⟨by rw [slot_bad1 hix], by rw [slot_bad1 hix]; exact ⟨f, g, hZ, hAb⟩⟩ | exact ⟨by rw [slot_bad2 (px_bad c9 hpn)], by rw [slot_bad2 (px_bad c9 hpn)]; exact ⟨f, g, hZ, hAb⟩⟩
  · rw [bI_n] at c4
    obtain ⟨j, hix⟩ := isS_t c4
    obtain ⟨hj, rfl⟩ := ix_some (by omega) hix
    refine lv_iload_n hx hb dX6_slot_7 rfl (lv_at hl 2 rfl) ?_
    refine lv_iconst (v := (-1)) hx hb dX6_slot_8 (by decide) ?_
    refine lv_icmp_eq (tgt := 23) hx hb dX6_slot_9 (by decide) (fun c9 => ?_) (fun c9 => ?_)
    · obtain ⟨o, ho, hpx⟩ : ∃ o, p0 = oI o ∧ px S p0 = some o := ⟨none, c9, by rw [px_m1 c9, c9, ix_lt (by decide)]⟩
      subst ho
      refine lv_aload_n hx hb dX6_slot_23 rfl (lv_at hl 0 rfl) ?_
      refine zm_get hx hb hts hown hE hM hZ.2.1 fl_X6_26_5 rfl dX6_slot_24 ?_
      refine lv_iload_n hx hb dX6_slot_27 rfl (lv_at hl 1 rfl) ?_
      refine zm_iald hx hb hE hM (hZ.ar 6) (vp_in_nI (show j < 10 by omega) (by decide)) dX6_slot_28 ?_
      refine zt_eq (v' := .int (oI (s_sl S j))) (by rw [nI_clamp (by omega)]; exact congrArg Value.int (hAb.2.2.2.1 j hj)) ?_
      refine lv_istore_n (lv' := [(3, .int (oI (s_sl S j))), (0, .ref (q 0)), (1, .int (nI j)), (2, .int (oI o))]) hx hb dX6_slot_29 rfl hl (by decide) rfl (fun ls hl => ?_)
      refine lv_aload_n hx hb dX6_slot_30 rfl (lv_at hl 1 rfl) ?_
      refine zm_get hx hb hts hown hE hM hZ.2.1 fl_X6_26_5 rfl dX6_slot_31 ?_
      refine lv_iload_n hx hb dX6_slot_34 rfl (lv_at hl 2 rfl) ?_
      refine lv_iload_n hx hb dX6_slot_35 rfl (lv_at hl 3 rfl) ?_
      refine zm_iast hx hb hE hM hS (hZ.ar 6) (vp_in_nI (show j < 10 by omega) (by decide)) dX6_slot_36 (fun H locs hM hS => ?_)
      rw [nI_clamp (by omega)] at hM
      have hZ2 := hZ.arr 6 (upd (f 6) j (oI o))
      have hR2 : RepR G q (w_sl S (va_up (s_sl S) j o)) _ := ⟨_, _, hZ2, abs_sl hAb j o⟩
      refine lv_iload_n hx hb dX6_slot_37 rfl (lv_at hl 0 rfl) ?_
      refine zm_iret hx hb hr hlk hM hS ?_ ⟨Nat.le_refl _, Nat.le_refl _⟩ dX6_slot_38
      have hs : sp_slot S (nI j) (oI o) = (oI (s_sl S j), w_sl S (va_up (s_sl S) j o)) := by unfold sp_slot; rw [hix, hpx]
      exact ⟨by rw [hs], by rw [hs]; exact hR2⟩
    · refine lv_aload_n hx hb dX6_slot_12 rfl (lv_at hl 0 rfl) ?_
      refine lv_iload_n hx hb dX6_slot_13 rfl (lv_at hl 2 rfl) ?_
      refine zm_callV (As := [.int p0]) (rest := []) hx hb hml hts hown hE hA hM hS hZ.2.1 rfl (c_X6_isProp l G A q S _ p0 hI ⟨f, g, hZ, hAb⟩) cd_X6_isProp ml_X6_63 rfl rfl hl.1 (Nat.le_of_ble_eq_true rfl) ⟨Nat.le_of_ble_eq_true rfl, Nat.le_of_ble_eq_true rfl⟩ ⟨Nat.le_of_ble_eq_true rfl, Nat.le_of_ble_eq_true rfl⟩ dX6_slot_14 ?_
      rintro r M1 H locs ⟨rfl, e1⟩ hM hS
      rw [e1] at hM
      clear e1 M1
      refine W.eq (g2 := F0 m 17 ls [.int (bI (ix (s_np S) p0).isSome)]) rfl ?_
      refine lv_if_ne (tgt := 23) hx hb dX6_slot_17 (by decide) (fun c17 => ?_) (fun c17 => ?_)
      · rw [bI_n] at c17
        obtain ⟨k, hk⟩ := isS_t c17
        obtain ⟨o, ho, hpx⟩ : ∃ o, p0 = oI o ∧ px S p0 = some o := ⟨some k, (ix_some (by omega) hk).2, by rw [px_some hI hk, hk]⟩
        subst ho
        refine lv_aload_n hx hb dX6_slot_23 rfl (lv_at hl 0 rfl) ?_
        refine zm_get hx hb hts hown hE hM hZ.2.1 fl_X6_26_5 rfl dX6_slot_24 ?_
        refine lv_iload_n hx hb dX6_slot_27 rfl (lv_at hl 1 rfl) ?_
        refine zm_iald hx hb hE hM (hZ.ar 6) (vp_in_nI (show j < 10 by omega) (by decide)) dX6_slot_28 ?_
        refine zt_eq (v' := .int (oI (s_sl S j))) (by rw [nI_clamp (by omega)]; exact congrArg Value.int (hAb.2.2.2.1 j hj)) ?_
        refine lv_istore_n (lv' := [(3, .int (oI (s_sl S j))), (0, .ref (q 0)), (1, .int (nI j)), (2, .int (oI o))]) hx hb dX6_slot_29 rfl hl (by decide) rfl (fun ls hl => ?_)
        refine lv_aload_n hx hb dX6_slot_30 rfl (lv_at hl 1 rfl) ?_
        refine zm_get hx hb hts hown hE hM hZ.2.1 fl_X6_26_5 rfl dX6_slot_31 ?_
        refine lv_iload_n hx hb dX6_slot_34 rfl (lv_at hl 2 rfl) ?_
        refine lv_iload_n hx hb dX6_slot_35 rfl (lv_at hl 3 rfl) ?_
        refine zm_iast hx hb hE hM hS (hZ.ar 6) (vp_in_nI (show j < 10 by omega) (by decide)) dX6_slot_36 (fun H locs hM hS => ?_)
        rw [nI_clamp (by omega)] at hM
        have hZ2 := hZ.arr 6 (upd (f 6) j (oI o))
        have hR2 : RepR G q (w_sl S (va_up (s_sl S) j o)) _ := ⟨_, _, hZ2, abs_sl hAb j o⟩
        refine lv_iload_n hx hb dX6_slot_37 rfl (lv_at hl 0 rfl) ?_
        refine zm_iret hx hb hr hlk hM hS ?_ ⟨Nat.le_refl _, Nat.le_refl _⟩ dX6_slot_38
        have hs : sp_slot S (nI j) (oI o) = (oI (s_sl S j), w_sl S (va_up (s_sl S) j o)) := by unfold sp_slot; rw [hix, hpx]
        exact ⟨by rw [hs], by rw [hs]; exact hR2⟩
      · rw [bI_0] at c17
        have hpn := isS_f c17
        refine lv_bipush (v := (-2)) hx hb dX6_slot_20 (by decide) ?_
        refine zm_iret hx hb hr hlk hM hS ?_ ⟨Nat.le_refl _, Nat.le_refl _⟩ dX6_slot_22
        first | exact ⟨by rw [slot_bad1 hix], by rw [slot_bad1 hix]; exact ⟨f, g, hZ, hAb⟩⟩ | exact ⟨by rw [slot_bad2 (px_bad c9 hpn)], by rw [slot_bad2 (px_bad c9 hpn)]; exact ⟨f, g, hZ, hAb⟩⟩
set_option maxRecDepth 100000 in
set_option maxHeartbeats 4000000 in
theorem c_X6_set (l : Launch) (G : zm_G) (A : Nat → Prop) (q : Nat → Nat) (S : zS) (M : zm_M) (p0 i v : Int32) (hI : zInv S) (hR : RepR G q S M) : Met l yX6_set (zm_W yX6_set cX6_set 4 (some .int)) (zm_rm 2 0 0) (zm_Pc G [.ref (q 0), .int p0, .int i, .int v] A M) (zm_Q G (fun r M' => r = some (.int (sp_set S p0 i v).1) ∧ RepR G q (sp_set S p0 i v).2 M') A) 0 0 A := by
  refine zm_start (by decide) (Nat.le_of_ble_eq_true rfl) ?_
  intro p e s m below meth c hx hb hml hr hts hown hlk hnm hE hA ls hl hM hS
  have hl : lv_has ls 4 [(0, .ref (q 0)), (1, .int p0), (2, .int i), (3, .int v)] := hl
  obtain ⟨f, g, hZ, hAb⟩ := hR
  have hnp := hI.1
  have hncc := hI.2.1
  refine lv_aload_n hx hb dX6_set_0 rfl (lv_at hl 0 rfl) ?_
  refine lv_iload_n hx hb dX6_set_1 rfl (lv_at hl 1 rfl) ?_
  refine zm_callV (As := [.int p0]) (rest := []) hx hb hml hts hown hE hA hM hS hZ.2.1 rfl (c_X6_isProp l G A q S _ p0 hI ⟨f, g, hZ, hAb⟩) cd_X6_isProp ml_X6_63 rfl rfl hl.1 (Nat.le_of_ble_eq_true rfl) ⟨Nat.le_of_ble_eq_true rfl, Nat.le_of_ble_eq_true rfl⟩ ⟨Nat.le_of_ble_eq_true rfl, Nat.le_of_ble_eq_true rfl⟩ dX6_set_2 ?_
  rintro r M1 H locs ⟨rfl, e1⟩ hM hS
  rw [e1] at hM
  clear e1 M1
  refine W.eq (g2 := F0 m 5 ls [.int (bI (ix (s_np S) p0).isSome)]) rfl ?_
  refine lv_if_ne (tgt := 11) hx hb dX6_set_5 (by decide) (fun c5 => ?_) (fun c5 => ?_)
  · rw [bI_n] at c5
    obtain ⟨j, hix⟩ := isS_t c5
    obtain ⟨hj, rfl⟩ := ix_some (by omega) hix
    refine lv_aload_n hx hb dX6_set_11 rfl (lv_at hl 0 rfl) ?_
    refine zm_get hx hb hts hown hE hM hZ.2.1 fl_X6_7_5 rfl dX6_set_12 ?_
    refine lv_iload_n hx hb dX6_set_15 rfl (lv_at hl 1 rfl) ?_
    refine zm_iald hx hb hE hM (hZ.ar 1) (vp_in_nI (show j < 50 by omega) (by decide)) dX6_set_16 ?_
    refine zt_eq (v' := .int (nI (s_kd S j))) (by rw [nI_clamp (by omega)]; exact congrArg Value.int ((hAb.1 j hj).1)) ?_
    refine lv_iconst (v := 3) hx hb dX6_set_17 (by decide) ?_
    refine lv_icmp_le (tgt := 24) hx hb dX6_set_18 (by decide) (fun c18 => ?_) (fun c18 => ?_)
    · have h16 := (hI.2.2.1 j hj).1
      have hk4 : s_kd S j < 4 := by rw [show (3 : Int32) = nI 3 from rfl, nI_leI (by omega) (by omega)] at c18; omega
      have hm := many15 hI hj hk4
      refine lv_iload_n hx hb dX6_set_24 rfl (lv_at hl 2 rfl) ?_
      refine lv_iconst (v := 0) hx hb dX6_set_25 (by decide) ?_
      refine lv_aload_n hx hb dX6_set_26 rfl (lv_at hl 0 rfl) ?_
      refine lv_iload_n hx hb dX6_set_27 rfl (lv_at hl 1 rfl) ?_
      refine zm_callV (As := [.int (nI j)]) (rest := [.int 0, .int i]) hx hb hml hts hown hE hA hM hS hZ.2.1 rfl (c_X6_many l G A q S _ j hj hI ⟨f, g, hZ, hAb⟩) cd_X6_many ml_X6_66 rfl rfl hl.1 (Nat.le_of_ble_eq_true rfl) ⟨Nat.le_of_ble_eq_true rfl, Nat.le_of_ble_eq_true rfl⟩ ⟨Nat.le_of_ble_eq_true rfl, Nat.le_of_ble_eq_true rfl⟩ dX6_set_28 ?_
      rintro r M1 H locs ⟨rfl, e1⟩ hM hS
      rw [e1] at hM
      clear e1 M1
      refine W.eq (g2 := F0 m 31 ls [.int (nI (many S j)), .int 0, .int i]) rfl ?_
      refine lv_iconst (v := 1) hx hb dX6_set_31 (by decide) ?_
      refine lv_isub hx hb dX6_set_32 ?_
      refine zm_callS (As := [.int i, .int 0, .int ((nI (many S j)) - 1)]) (rest := []) hx hb hml hts hown hE hA hM hS (c_X6_isIn l G A _ i 0 ((nI (many S j)) - 1)) cd_X6_isIn ml_X6_51 rfl rfl hl.1 (Nat.le_of_ble_eq_true rfl) ⟨Nat.le_of_ble_eq_true rfl, Nat.le_of_ble_eq_true rfl⟩ ⟨Nat.le_of_ble_eq_true rfl, Nat.le_of_ble_eq_true rfl⟩ dX6_set_33 ?_
      rintro r M1 H locs ⟨rfl, e1⟩ hM hS
      rw [e1] at hM
      clear e1 M1
      refine W.eq (g2 := F0 m 36 ls [.int (bI (zbt 0 ((nI (many S j)) - 1) i))]) rfl ?_
      refine lv_if_ne (tgt := 42) hx hb dX6_set_36 (by decide) (fun c36 => ?_) (fun c36 => ?_)
      · rw [zbt_np (by omega), bI_n] at c36
        obtain ⟨ii, hii⟩ := isS_t c36
        obtain ⟨hi, rfl⟩ := ix_some (by omega) hii
        refine lv_aload_n hx hb dX6_set_42 rfl (lv_at hl 0 rfl) ?_
        refine zm_get hx hb hts hown hE hM hZ.2.1 fl_X6_19_5 rfl dX6_set_43 ?_
        refine lv_bipush (v := 15) hx hb dX6_set_46 (by decide) ?_
        refine lv_iload_n hx hb dX6_set_48 rfl (lv_at hl 1 rfl) ?_
        refine lv_imul hx hb dX6_set_49 ?_
        refine lv_iload_n hx hb dX6_set_50 rfl (lv_at hl 2 rfl) ?_
        refine lv_iadd hx hb dX6_set_51 ?_
        refine lv_aload_n hx hb dX6_set_52 rfl (lv_at hl 0 rfl) ?_
        refine zm_get hx hb hts hown hE hM hZ.2.1 fl_X6_7_5 rfl dX6_set_53 ?_
        refine lv_iload_n hx hb dX6_set_56 rfl (lv_at hl 1 rfl) ?_
        refine zm_iald hx hb hE hM (hZ.ar 1) (vp_in_nI (show j < 50 by omega) (by decide)) dX6_set_57 ?_
        refine zt_eq (v' := .int (nI (s_kd S j))) (by rw [nI_clamp (by omega)]; exact congrArg Value.int ((hAb.1 j hj).1)) ?_
        refine lv_if_ne (tgt := 69) hx hb dX6_set_58 (by decide) (fun c58 => ?_) (fun c58 => ?_)
        · have n0 : ¬ s_kd S j = 0 := fun e => c58 (by rw [e]; rfl)
          refine lv_aload_n hx hb dX6_set_69 rfl (lv_at hl 0 rfl) ?_
          refine zm_get hx hb hts hown hE hM hZ.2.1 fl_X6_7_5 rfl dX6_set_70 ?_
          refine lv_iload_n hx hb dX6_set_73 rfl (lv_at hl 1 rfl) ?_
          refine zm_iald hx hb hE hM (hZ.ar 1) (vp_in_nI (show j < 50 by omega) (by decide)) dX6_set_74 ?_
          refine zt_eq (v' := .int (nI (s_kd S j))) (by rw [nI_clamp (by omega)]; exact congrArg Value.int ((hAb.1 j hj).1)) ?_
          refine lv_iconst (v := 1) hx hb dX6_set_75 (by decide) ?_
          refine lv_icmp_ne (tgt := 85) hx hb dX6_set_76 (by decide) (fun c76 => ?_) (fun c76 => ?_)
          · have n1 : ¬ s_kd S j = 1 := fun e => c76 (by rw [e]; rfl)
            refine lv_aload_n hx hb dX6_set_85 rfl (lv_at hl 0 rfl) ?_
            refine zm_get hx hb hts hown hE hM hZ.2.1 fl_X6_7_5 rfl dX6_set_86 ?_
            refine lv_iload_n hx hb dX6_set_89 rfl (lv_at hl 1 rfl) ?_
            refine zm_iald hx hb hE hM (hZ.ar 1) (vp_in_nI (show j < 50 by omega) (by decide)) dX6_set_90 ?_
            refine zt_eq (v' := .int (nI (s_kd S j))) (by rw [nI_clamp (by omega)]; exact congrArg Value.int ((hAb.1 j hj).1)) ?_
            refine lv_iconst (v := 2) hx hb dX6_set_91 (by decide) ?_
            refine lv_icmp_ne (tgt := 100) hx hb dX6_set_92 (by decide) (fun c92 => ?_) (fun c92 => ?_)
            · have n2 : ¬ s_kd S j = 2 := fun e => c92 (by rw [e]; rfl)
              have h3 : s_kd S j = 3 := by omega
              refine lv_iload_n hx hb dX6_set_100 rfl (lv_at hl 3 rfl) ?_
              refine lv_i2b hx hb dX6_set_101 rfl ?_
              refine lv_i2l hx hb dX6_set_102 rfl ?_
              refine W.eq (g2 := F0 m 103 ls (.long v.toInt8.toInt32.toInt64 :: .int (nI (15 * j + ii)) :: .ref (q 4) :: [])) (by rw [idx15]) ?_
              refine zm_last hx hb hE hM hS hZ.2.2.2 (vp_in_nI (show 15 * j + ii < 750 by omega) (by decide)) dX6_set_103 (fun H locs hM hS => ?_)
              rw [nI_clamp (by omega)] at hM
              have hcv : v.toInt8.toInt32.toInt64 = cutV (s_kd S j) v := by first | (rw [h0]; rfl) | (rw [h1]; rfl) | (rw [h2]; rfl) | (rw [h3]; rfl)
              rw [hcv] at hM
              have hR2 : RepR G q (w_nu S (up2 (s_nu S) j ii (cutV (s_kd S j) v))) _ := ⟨_, _, hZ.num _, abs_nu hAb j ii (cutV (s_kd S j) v) (by omega)⟩
              refine lv_iconst (v := 1) hx hb dX6_set_104 (by decide) ?_
              refine zm_iret hx hb hr hlk hM hS ?_ ⟨Nat.le_refl _, Nat.le_refl _⟩ dX6_set_105
              exact ⟨by rw [set_ok hix hk4 hii], by rw [set_ok hix hk4 hii]; exact hR2⟩
            · have h2 : s_kd S j = 2 := (nI_eq (b := 2) (by omega) (by omega)).mp c92
              refine lv_iload_n hx hb dX6_set_95 rfl (lv_at hl 3 rfl) ?_
              refine lv_i2l hx hb dX6_set_96 rfl ?_
              refine lv_goto (tgt := 103) hx hb dX6_set_97 (by decide) ?_
              refine W.eq (g2 := F0 m 103 ls (.long v.toInt64 :: .int (nI (15 * j + ii)) :: .ref (q 4) :: [])) (by rw [idx15]) ?_
              refine zm_last hx hb hE hM hS hZ.2.2.2 (vp_in_nI (show 15 * j + ii < 750 by omega) (by decide)) dX6_set_103 (fun H locs hM hS => ?_)
              rw [nI_clamp (by omega)] at hM
              have hcv : v.toInt64 = cutV (s_kd S j) v := by first | (rw [h0]; rfl) | (rw [h1]; rfl) | (rw [h2]; rfl) | (rw [h3]; rfl)
              rw [hcv] at hM
              have hR2 : RepR G q (w_nu S (up2 (s_nu S) j ii (cutV (s_kd S j) v))) _ := ⟨_, _, hZ.num _, abs_nu hAb j ii (cutV (s_kd S j) v) (by omega)⟩
              refine lv_iconst (v := 1) hx hb dX6_set_104 (by decide) ?_
              refine zm_iret hx hb hr hlk hM hS ?_ ⟨Nat.le_refl _, Nat.le_refl _⟩ dX6_set_105
              exact ⟨by rw [set_ok hix hk4 hii], by rw [set_ok hix hk4 hii]; exact hR2⟩
          · have h1 : s_kd S j = 1 := (nI_eq (b := 1) (by omega) (by omega)).mp c76
            refine lv_iload_n hx hb dX6_set_79 rfl (lv_at hl 3 rfl) ?_
            refine lv_i2s hx hb dX6_set_80 rfl ?_
            refine lv_i2l hx hb dX6_set_81 rfl ?_
            refine lv_goto (tgt := 103) hx hb dX6_set_82 (by decide) ?_
            refine W.eq (g2 := F0 m 103 ls (.long v.toInt16.toInt32.toInt64 :: .int (nI (15 * j + ii)) :: .ref (q 4) :: [])) (by rw [idx15]) ?_
            refine zm_last hx hb hE hM hS hZ.2.2.2 (vp_in_nI (show 15 * j + ii < 750 by omega) (by decide)) dX6_set_103 (fun H locs hM hS => ?_)
            rw [nI_clamp (by omega)] at hM
            have hcv : v.toInt16.toInt32.toInt64 = cutV (s_kd S j) v := by first | (rw [h0]; rfl) | (rw [h1]; rfl) | (rw [h2]; rfl) | (rw [h3]; rfl)
            rw [hcv] at hM
            have hR2 : RepR G q (w_nu S (up2 (s_nu S) j ii (cutV (s_kd S j) v))) _ := ⟨_, _, hZ.num _, abs_nu hAb j ii (cutV (s_kd S j) v) (by omega)⟩
            refine lv_iconst (v := 1) hx hb dX6_set_104 (by decide) ?_
            refine zm_iret hx hb hr hlk hM hS ?_ ⟨Nat.le_refl _, Nat.le_refl _⟩ dX6_set_105
            exact ⟨by rw [set_ok hix hk4 hii], by rw [set_ok hix hk4 hii]; exact hR2⟩
        · have h0 : s_kd S j = 0 := (nI_eq (b := 0) (by omega) (by omega)).mp c58
          refine lv_iload_n hx hb dX6_set_61 rfl (lv_at hl 3 rfl) ?_
          refine lv_ldc (v := 65535) hx hb hown (hts _ cst_X6_70) dX6_set_62 ?_
          refine lv_iand hx hb dX6_set_64 ?_
          refine lv_i2l hx hb dX6_set_65 rfl ?_
          refine lv_goto (tgt := 103) hx hb dX6_set_66 (by decide) ?_
          refine W.eq (g2 := F0 m 103 ls (.long ((v &&& 65535).toInt64) :: .int (nI (15 * j + ii)) :: .ref (q 4) :: [])) (by rw [idx15]) ?_
          refine zm_last hx hb hE hM hS hZ.2.2.2 (vp_in_nI (show 15 * j + ii < 750 by omega) (by decide)) dX6_set_103 (fun H locs hM hS => ?_)
          rw [nI_clamp (by omega)] at hM
          have hcv : (v &&& 65535).toInt64 = cutV (s_kd S j) v := by first | (rw [h0]; rfl) | (rw [h1]; rfl) | (rw [h2]; rfl) | (rw [h3]; rfl)
          rw [hcv] at hM
          have hR2 : RepR G q (w_nu S (up2 (s_nu S) j ii (cutV (s_kd S j) v))) _ := ⟨_, _, hZ.num _, abs_nu hAb j ii (cutV (s_kd S j) v) (by omega)⟩
          refine lv_iconst (v := 1) hx hb dX6_set_104 (by decide) ?_
          refine zm_iret hx hb hr hlk hM hS ?_ ⟨Nat.le_refl _, Nat.le_refl _⟩ dX6_set_105
          exact ⟨by rw [set_ok hix hk4 hii], by rw [set_ok hix hk4 hii]; exact hR2⟩
      · rw [zbt_np (by omega), bI_0] at c36
        have hii := isS_f c36
        refine lv_bipush (v := (-6)) hx hb dX6_set_39 (by decide) ?_
        refine zm_iret hx hb hr hlk hM hS ?_ ⟨Nat.le_refl _, Nat.le_refl _⟩ dX6_set_41
        exact ⟨by rw [set_ix hix hk4 hii], by rw [set_ix hix hk4 hii]; exact ⟨f, g, hZ, hAb⟩⟩
    · have h16 := (hI.2.2.1 j hj).1
      have h3k : 3 < s_kd S j := by rw [show (3 : Int32) = nI 3 from rfl, nI_leI (by omega) (by omega)] at c18; omega
      refine lv_bipush (v := (-5)) hx hb dX6_set_21 (by decide) ?_
      refine zm_iret hx hb hr hlk hM hS ?_ ⟨Nat.le_refl _, Nat.le_refl _⟩ dX6_set_23
      exact ⟨by rw [set_cast hix h3k], by rw [set_cast hix h3k]; exact ⟨f, g, hZ, hAb⟩⟩
  · rw [bI_0] at c5
    have hix := isS_f c5
    refine lv_bipush (v := (-2)) hx hb dX6_set_8 (by decide) ?_
    refine zm_iret hx hb hr hlk hM hS ?_ ⟨Nat.le_refl _, Nat.le_refl _⟩ dX6_set_10
    exact ⟨by rw [set_bad hix], by rw [set_bad hix]; exact ⟨f, g, hZ, hAb⟩⟩
theorem zbt_n {a b v : Nat} (ha : a < 1000) (hb : b < 1000) (hv : v < 1000) : zbt (nI a) (nI b) (nI v) = (decide (a ≤ v) && decide (v ≤ b)) := by
  unfold zbt
  congr 1 <;> exact decide_eq_decide.mpr (by rw [nI_ltI (by omega) (by omega)]; omega)
set_option maxRecDepth 100000 in
set_option maxHeartbeats 4000000 in
theorem c_X6_has (l : Launch) (G : zm_G) (A : Nat → Prop) (M : zm_M) (k v : Nat) (hk : k < 6) (hv : v < 17) : Met l yX6_has (zm_W yX6_has cX6_has 2 (some .boolean)) (zm_rm 2 0 0) (zm_Pc G [.int (nI k), .int (nI v)] A M) (zm_Q G (fun r M' => r = some (.int (bI (hasV k v))) ∧ M' = M) A) 0 0 A := by
  refine zm_start (by decide) (Nat.le_of_ble_eq_true rfl) ?_
  intro p e s m below meth c hx hb hml hr hts hown hlk hnm hE hA ls hl hM hS
  have hl : lv_has ls 2 [(0, .int (nI k)), (1, .int (nI v))] := hl
  refine lv_iload_n hx hb dX6_has_0 rfl (lv_at hl 0 rfl) ?_
  rcases (show k = 0 ∨ k = 1 ∨ k = 2 ∨ k = 3 ∨ k = 4 ∨ k = 5 by omega) with rfl | rfl | rfl | rfl | rfl | rfl
  · refine lv_tableOut (tgt := 71) hx hb dX6_has_1 (by decide) (by decide) ?_
    refine lv_iconst (v := 1) hx hb dX6_has_71 (by decide) ?_
    refine zm_zret hx hb hr hlk hM hS (by first | exact Or.inl rfl | exact Or.inr rfl | exact bI_01 _) ?_ ⟨Nat.le_refl _, Nat.le_refl _⟩ dX6_has_72
    exact ⟨rfl, rfl⟩
  · refine lv_tableIn (off := 27) (tgt := 28) hx hb dX6_has_1 (by decide) (by decide) rfl (by decide) ?_
    refine lv_iload_n hx hb dX6_has_28 rfl (lv_at hl 1 rfl) ?_
    refine lv_iconst (v := 4) hx hb dX6_has_29 (by decide) ?_
    refine lv_bipush (v := 6) hx hb dX6_has_30 (by decide) ?_
    refine zm_callS (As := [.int (nI v), .int 4, .int 6]) (rest := []) hx hb hml hts hown hE hA hM hS (c_X6_isIn l G A _ (nI v) 4 6) cd_X6_isIn ml_X6_51 rfl rfl hl.1 (Nat.le_of_ble_eq_true rfl) ⟨Nat.le_of_ble_eq_true rfl, Nat.le_of_ble_eq_true rfl⟩ ⟨Nat.le_of_ble_eq_true rfl, Nat.le_of_ble_eq_true rfl⟩ dX6_has_32 ?_
    rintro r M1 H locs ⟨rfl, e1⟩ hM hS
    rw [e1] at hM
    clear e1 M1
    refine W.eq (g2 := F0 m 35 ls [.int (bI (zbt 4 6 (nI v)))]) rfl ?_
    refine lv_if_ne (tgt := 60) hx hb dX6_has_35 (by decide) (fun c35 => ?_) (fun c35 => ?_)
    · rw [show zbt 4 6 (nI v) = (decide (4 ≤ v) && decide (v ≤ 6)) from zbt_n (a := 4) (b := 6) (by decide) (by decide) (by omega)] at c35
      rw [bI_n] at c35
      refine lv_iconst (v := 1) hx hb dX6_has_60 (by decide) ?_
      refine lv_goto (tgt := 65) hx hb dX6_has_61 (by decide) ?_
      refine zm_zret hx hb hr hlk hM hS (by first | exact Or.inl rfl | exact Or.inr rfl | exact bI_01 _) ?_ ⟨Nat.le_refl _, Nat.le_refl _⟩ dX6_has_65
      refine ⟨?_, rfl⟩
      simp only [hasV]
      first | (rw [c35]; rfl) | (rw [c35, c46]; rfl) | (rw [c35, c46, c57]; rfl)
    · rw [show zbt 4 6 (nI v) = (decide (4 ≤ v) && decide (v ≤ 6)) from zbt_n (a := 4) (b := 6) (by decide) (by decide) (by omega)] at c35
      rw [bI_0] at c35
      refine lv_iload_n hx hb dX6_has_38 rfl (lv_at hl 1 rfl) ?_
      refine lv_bipush (v := 8) hx hb dX6_has_39 (by decide) ?_
      refine lv_bipush (v := 10) hx hb dX6_has_41 (by decide) ?_
      refine zm_callS (As := [.int (nI v), .int 8, .int 10]) (rest := []) hx hb hml hts hown hE hA hM hS (c_X6_isIn l G A _ (nI v) 8 10) cd_X6_isIn ml_X6_51 rfl rfl hl.1 (Nat.le_of_ble_eq_true rfl) ⟨Nat.le_of_ble_eq_true rfl, Nat.le_of_ble_eq_true rfl⟩ ⟨Nat.le_of_ble_eq_true rfl, Nat.le_of_ble_eq_true rfl⟩ dX6_has_43 ?_
      rintro r M1 H locs ⟨rfl, e1⟩ hM hS
      rw [e1] at hM
      clear e1 M1
      refine W.eq (g2 := F0 m 46 ls [.int (bI (zbt 8 10 (nI v)))]) rfl ?_
      refine lv_if_ne (tgt := 60) hx hb dX6_has_46 (by decide) (fun c46 => ?_) (fun c46 => ?_)
      · rw [show zbt 8 10 (nI v) = (decide (8 ≤ v) && decide (v ≤ 10)) from zbt_n (a := 8) (b := 10) (by decide) (by decide) (by omega)] at c46
        rw [bI_n] at c46
        refine lv_iconst (v := 1) hx hb dX6_has_60 (by decide) ?_
        refine lv_goto (tgt := 65) hx hb dX6_has_61 (by decide) ?_
        refine zm_zret hx hb hr hlk hM hS (by first | exact Or.inl rfl | exact Or.inr rfl | exact bI_01 _) ?_ ⟨Nat.le_refl _, Nat.le_refl _⟩ dX6_has_65
        refine ⟨?_, rfl⟩
        simp only [hasV]
        first | (rw [c35]; rfl) | (rw [c35, c46]; rfl) | (rw [c35, c46, c57]; rfl)
      · rw [show zbt 8 10 (nI v) = (decide (8 ≤ v) && decide (v ≤ 10)) from zbt_n (a := 8) (b := 10) (by decide) (by decide) (by omega)] at c46
        rw [bI_0] at c46
        refine lv_iload_n hx hb dX6_has_49 rfl (lv_at hl 1 rfl) ?_
        refine lv_bipush (v := 13) hx hb dX6_has_50 (by decide) ?_
        refine lv_bipush (v := 14) hx hb dX6_has_52 (by decide) ?_
        refine zm_callS (As := [.int (nI v), .int 13, .int 14]) (rest := []) hx hb hml hts hown hE hA hM hS (c_X6_isIn l G A _ (nI v) 13 14) cd_X6_isIn ml_X6_51 rfl rfl hl.1 (Nat.le_of_ble_eq_true rfl) ⟨Nat.le_of_ble_eq_true rfl, Nat.le_of_ble_eq_true rfl⟩ ⟨Nat.le_of_ble_eq_true rfl, Nat.le_of_ble_eq_true rfl⟩ dX6_has_54 ?_
        rintro r M1 H locs ⟨rfl, e1⟩ hM hS
        rw [e1] at hM
        clear e1 M1
        refine W.eq (g2 := F0 m 57 ls [.int (bI (zbt 13 14 (nI v)))]) rfl ?_
        refine lv_if_eq (tgt := 64) hx hb dX6_has_57 (by decide) (fun c57 => ?_) (fun c57 => ?_)
        · rw [show zbt 13 14 (nI v) = (decide (13 ≤ v) && decide (v ≤ 14)) from zbt_n (a := 13) (b := 14) (by decide) (by decide) (by omega)] at c57
          rw [bI_0] at c57
          refine lv_iconst (v := 0) hx hb dX6_has_64 (by decide) ?_
          refine zm_zret hx hb hr hlk hM hS (by first | exact Or.inl rfl | exact Or.inr rfl | exact bI_01 _) ?_ ⟨Nat.le_refl _, Nat.le_refl _⟩ dX6_has_65
          refine ⟨?_, rfl⟩
          simp only [hasV]
          first | (rw [c35]; rfl) | (rw [c35, c46]; rfl) | (rw [c35, c46, c57]; rfl)
        · rw [show zbt 13 14 (nI v) = (decide (13 ≤ v) && decide (v ≤ 14)) from zbt_n (a := 13) (b := 14) (by decide) (by decide) (by omega)] at c57
          rw [bI_n] at c57
          refine lv_iconst (v := 1) hx hb dX6_has_60 (by decide) ?_
          refine lv_goto (tgt := 65) hx hb dX6_has_61 (by decide) ?_
          refine zm_zret hx hb hr hlk hM hS (by first | exact Or.inl rfl | exact Or.inr rfl | exact bI_01 _) ?_ ⟨Nat.le_refl _, Nat.le_refl _⟩ dX6_has_65
          refine ⟨?_, rfl⟩
          simp only [hasV]
          first | (rw [c35]; rfl) | (rw [c35, c46]; rfl) | (rw [c35, c46, c57]; rfl)
  · refine lv_tableIn (off := 65) (tgt := 66) hx hb dX6_has_1 (by decide) (by decide) rfl (by decide) ?_
    refine lv_iload_n hx hb dX6_has_66 rfl (lv_at hl 1 rfl) ?_
    refine zm_callS (As := [.int (nI v)]) (rest := []) hx hb hml hts hown hE hA hM hS (c_X6_isRow l G A _ (nI v)) cd_X6_isRow ml_X6_74 rfl rfl hl.1 (Nat.le_of_ble_eq_true rfl) ⟨Nat.le_of_ble_eq_true rfl, Nat.le_of_ble_eq_true rfl⟩ ⟨Nat.le_of_ble_eq_true rfl, Nat.le_of_ble_eq_true rfl⟩ dX6_has_67 ?_
    rintro r M1 H locs ⟨rfl, e1⟩ hM hS
    rw [e1] at hM
    clear e1 M1
    refine W.eq (g2 := F0 m 70 ls [.int (bI (zbt 8 15 (nI v)))]) rfl ?_
    refine zm_zret hx hb hr hlk hM hS (by first | exact Or.inl rfl | exact Or.inr rfl | exact bI_01 _) ?_ ⟨Nat.le_refl _, Nat.le_refl _⟩ dX6_has_70
    exact ⟨by rw [zbt_rw v (by omega)]; rfl, rfl⟩
  · refine lv_tableIn (off := 65) (tgt := 66) hx hb dX6_has_1 (by decide) (by decide) rfl (by decide) ?_
    refine lv_iload_n hx hb dX6_has_66 rfl (lv_at hl 1 rfl) ?_
    refine zm_callS (As := [.int (nI v)]) (rest := []) hx hb hml hts hown hE hA hM hS (c_X6_isRow l G A _ (nI v)) cd_X6_isRow ml_X6_74 rfl rfl hl.1 (Nat.le_of_ble_eq_true rfl) ⟨Nat.le_of_ble_eq_true rfl, Nat.le_of_ble_eq_true rfl⟩ ⟨Nat.le_of_ble_eq_true rfl, Nat.le_of_ble_eq_true rfl⟩ dX6_has_67 ?_
    rintro r M1 H locs ⟨rfl, e1⟩ hM hS
    rw [e1] at hM
    clear e1 M1
    refine W.eq (g2 := F0 m 70 ls [.int (bI (zbt 8 15 (nI v)))]) rfl ?_
    refine zm_zret hx hb hr hlk hM hS (by first | exact Or.inl rfl | exact Or.inr rfl | exact bI_01 _) ?_ ⟨Nat.le_refl _, Nat.le_refl _⟩ dX6_has_70
    exact ⟨by rw [zbt_rw v (by omega)]; rfl, rfl⟩
  · refine lv_tableOut (tgt := 71) hx hb dX6_has_1 (by decide) (by decide) ?_
    refine lv_iconst (v := 1) hx hb dX6_has_71 (by decide) ?_
    refine zm_zret hx hb hr hlk hM hS (by first | exact Or.inl rfl | exact Or.inr rfl | exact bI_01 _) ?_ ⟨Nat.le_refl _, Nat.le_refl _⟩ dX6_has_72
    exact ⟨rfl, rfl⟩
  · refine lv_tableOut (tgt := 71) hx hb dX6_has_1 (by decide) (by decide) ?_
    refine lv_iconst (v := 1) hx hb dX6_has_71 (by decide) ?_
    refine zm_zret hx hb hr hlk hM hS (by first | exact Or.inl rfl | exact Or.inr rfl | exact bI_01 _) ?_ ⟨Nat.le_refl _, Nat.le_refl _⟩ dX6_has_72
    exact ⟨rfl, rfl⟩
theorem cue_has2 {S : zS} {a x v i : Int32} {aa xx vv : Nat} (h1 : ix 6 a = some aa) (h2 : ix 10 x = some xx) (h3 : ix 17 v = some vv) (h : hasV aa vv = false) : sp_cue S a x v i = (-2, S) := by
  cases h4 : ix 10 i with
  | none => exact cue_bad (Or.inr (Or.inr (Or.inr h4)))
  | some ii => exact cue_has h1 h2 h3 h4 h
set_option maxRecDepth 100000 in
set_option maxHeartbeats 4000000 in
theorem c_X6_cue (l : Launch) (G : zm_G) (A : Nat → Prop) (q : Nat → Nat) (S : zS) (M : zm_M) (a x v i : Int32) (hI : zInv S) (hR : RepR G q S M) : Met l yX6_cue (zm_W yX6_cue cX6_cue 5 (some .int)) (zm_rm 3 0 0) (zm_Pc G [.ref (q 0), .int a, .int x, .int v, .int i] A M) (zm_Q G (fun r M' => r = some (.int (sp_cue S a x v i).1) ∧ RepR G q (sp_cue S a x v i).2 M') A) 0 0 A := by
  refine zm_start (by decide) (Nat.le_of_ble_eq_true rfl) ?_
  intro p e s m below meth c hx hb hml hr hts hown hlk hnm hE hA ls hl hM hS
  have hl : lv_has ls 5 [(0, .ref (q 0)), (1, .int a), (2, .int x), (3, .int v), (4, .int i)] := hl
  obtain ⟨f, g, hZ, hAb⟩ := hR
  have hnp := hI.1
  have hncc := hI.2.1
  refine lv_iload_n hx hb dX6_cue_0 rfl (lv_at hl 1 rfl) ?_
  refine lv_iconst (v := 0) hx hb dX6_cue_1 (by decide) ?_
  refine lv_iconst (v := 5) hx hb dX6_cue_2 (by decide) ?_
  refine zm_callS (As := [.int a, .int 0, .int 5]) (rest := []) hx hb hml hts hown hE hA hM hS (c_X6_isIn l G A _ a 0 5) cd_X6_isIn ml_X6_51 rfl rfl hl.1 (Nat.le_of_ble_eq_true rfl) ⟨Nat.le_of_ble_eq_true rfl, Nat.le_of_ble_eq_true rfl⟩ ⟨Nat.le_of_ble_eq_true rfl, Nat.le_of_ble_eq_true rfl⟩ dX6_cue_3 ?_
  rintro r M1 H locs ⟨rfl, e1⟩ hM hS
  rw [e1] at hM
  clear e1 M1
  refine W.eq (g2 := F0 m 6 ls [.int (bI (zbt 0 5 a))]) rfl ?_
  refine lv_if_eq (tgt := 42) hx hb dX6_cue_6 (by decide) (fun c6 => ?_) (fun c6 => ?_)
  · rw [zbt_a] at c6
    rw [bI_0] at c6
    have hn6 := isS_f c6
    refine lv_bipush (v := (-2)) hx hb dX6_cue_42 (by decide) ?_
    refine zm_iret hx hb hr hlk hM hS ?_ ⟨Nat.le_refl _, Nat.le_refl _⟩ dX6_cue_44
    have hs : sp_cue S a x v i = (-2, S) := by first | exact cue_bad (Or.inl hn6) | exact cue_bad (Or.inr (Or.inl hn13)) | exact cue_bad (Or.inr (Or.inr (Or.inl hn20))) | exact cue_has2 hia hxi hvi c28 | exact cue_bad (Or.inr (Or.inr (Or.inr hn39)))
    exact ⟨by rw [hs], by rw [hs]; exact ⟨f, g, hZ, hAb⟩⟩
  · rw [zbt_a] at c6
    rw [bI_n] at c6
    obtain ⟨aa, hia⟩ := isS_t c6
    obtain ⟨haa, rfl⟩ := ix_some (by omega) hia
    refine lv_iload_n hx hb dX6_cue_9 rfl (lv_at hl 2 rfl) ?_
    refine zm_callS (As := [.int x]) (rest := []) hx hb hml hts hown hE hA hM hS (c_X6_isSlot l G A _ x) cd_X6_isSlot ml_X6_71 rfl rfl hl.1 (Nat.le_of_ble_eq_true rfl) ⟨Nat.le_of_ble_eq_true rfl, Nat.le_of_ble_eq_true rfl⟩ ⟨Nat.le_of_ble_eq_true rfl, Nat.le_of_ble_eq_true rfl⟩ dX6_cue_10 ?_
    rintro r M1 H locs ⟨rfl, e1⟩ hM hS
    rw [e1] at hM
    clear e1 M1
    refine W.eq (g2 := F0 m 13 ls [.int (bI ((ix 10 x).isSome))]) rfl ?_
    refine lv_if_eq (tgt := 42) hx hb dX6_cue_13 (by decide) (fun c13 => ?_) (fun c13 => ?_)
    · rw [bI_0] at c13
      have hn13 := isS_f c13
      refine lv_bipush (v := (-2)) hx hb dX6_cue_42 (by decide) ?_
      refine zm_iret hx hb hr hlk hM hS ?_ ⟨Nat.le_refl _, Nat.le_refl _⟩ dX6_cue_44
      have hs : sp_cue S (nI aa) x v i = (-2, S) := by first | exact cue_bad (Or.inl hn6) | exact cue_bad (Or.inr (Or.inl hn13)) | exact cue_bad (Or.inr (Or.inr (Or.inl hn20))) | exact cue_has2 hia hxi hvi c28 | exact cue_bad (Or.inr (Or.inr (Or.inr hn39)))
      exact ⟨by rw [hs], by rw [hs]; exact ⟨f, g, hZ, hAb⟩⟩
    · rw [bI_n] at c13
      obtain ⟨xx, hxi⟩ := isS_t c13
      obtain ⟨hxx, rfl⟩ := ix_some (by omega) hxi
      refine lv_iload_n hx hb dX6_cue_16 rfl (lv_at hl 3 rfl) ?_
      refine zm_callS (As := [.int v]) (rest := []) hx hb hml hts hown hE hA hM hS (c_X6_isView l G A _ v) cd_X6_isView ml_X6_77 rfl rfl hl.1 (Nat.le_of_ble_eq_true rfl) ⟨Nat.le_of_ble_eq_true rfl, Nat.le_of_ble_eq_true rfl⟩ ⟨Nat.le_of_ble_eq_true rfl, Nat.le_of_ble_eq_true rfl⟩ dX6_cue_17 ?_
      rintro r M1 H locs ⟨rfl, e1⟩ hM hS
      rw [e1] at hM
      clear e1 M1
      refine W.eq (g2 := F0 m 20 ls [.int (bI ((ix 17 v).isSome))]) rfl ?_
      refine lv_if_eq (tgt := 42) hx hb dX6_cue_20 (by decide) (fun c20 => ?_) (fun c20 => ?_)
      · rw [bI_0] at c20
        have hn20 := isS_f c20
        refine lv_bipush (v := (-2)) hx hb dX6_cue_42 (by decide) ?_
        refine zm_iret hx hb hr hlk hM hS ?_ ⟨Nat.le_refl _, Nat.le_refl _⟩ dX6_cue_44
        have hs : sp_cue S (nI aa) (nI xx) v i = (-2, S) := by first | exact cue_bad (Or.inl hn6) | exact cue_bad (Or.inr (Or.inl hn13)) | exact cue_bad (Or.inr (Or.inr (Or.inl hn20))) | exact cue_has2 hia hxi hvi c28 | exact cue_bad (Or.inr (Or.inr (Or.inr hn39)))
        exact ⟨by rw [hs], by rw [hs]; exact ⟨f, g, hZ, hAb⟩⟩
      · rw [bI_n] at c20
        obtain ⟨vv, hvi⟩ := isS_t c20
        obtain ⟨hvv, rfl⟩ := ix_some (by omega) hvi
        refine lv_iload_n hx hb dX6_cue_23 rfl (lv_at hl 1 rfl) ?_
        refine lv_iload_n hx hb dX6_cue_24 rfl (lv_at hl 3 rfl) ?_
        refine zm_callS (As := [.int (nI aa), .int (nI vv)]) (rest := []) hx hb hml hts hown hE hA hM hS (c_X6_has l G A _ aa vv haa hvv) cd_X6_has ml_X6_80 rfl rfl hl.1 (Nat.le_of_ble_eq_true rfl) ⟨Nat.le_of_ble_eq_true rfl, Nat.le_of_ble_eq_true rfl⟩ ⟨Nat.le_of_ble_eq_true rfl, Nat.le_of_ble_eq_true rfl⟩ dX6_cue_25 ?_
        rintro r M1 H locs ⟨rfl, e1⟩ hM hS
        rw [e1] at hM
        clear e1 M1
        refine W.eq (g2 := F0 m 28 ls [.int (bI (hasV aa vv))]) rfl ?_
        refine lv_if_eq (tgt := 42) hx hb dX6_cue_28 (by decide) (fun c28 => ?_) (fun c28 => ?_)
        · rw [bI_0] at c28
          refine lv_bipush (v := (-2)) hx hb dX6_cue_42 (by decide) ?_
          refine zm_iret hx hb hr hlk hM hS ?_ ⟨Nat.le_refl _, Nat.le_refl _⟩ dX6_cue_44
          have hs : sp_cue S (nI aa) (nI xx) (nI vv) i = (-2, S) := by first | exact cue_bad (Or.inl hn6) | exact cue_bad (Or.inr (Or.inl hn13)) | exact cue_bad (Or.inr (Or.inr (Or.inl hn20))) | exact cue_has2 hia hxi hvi c28 | exact cue_bad (Or.inr (Or.inr (Or.inr hn39)))
          exact ⟨by rw [hs], by rw [hs]; exact ⟨f, g, hZ, hAb⟩⟩
        · rw [bI_n] at c28
          refine lv_iload hx hb dX6_cue_31 (lv_at hl 4 rfl) ?_
          refine lv_iconst (v := 0) hx hb dX6_cue_33 (by decide) ?_
          refine lv_bipush (v := 9) hx hb dX6_cue_34 (by decide) ?_
          refine zm_callS (As := [.int i, .int 0, .int 9]) (rest := []) hx hb hml hts hown hE hA hM hS (c_X6_isIn l G A _ i 0 9) cd_X6_isIn ml_X6_51 rfl rfl hl.1 (Nat.le_of_ble_eq_true rfl) ⟨Nat.le_of_ble_eq_true rfl, Nat.le_of_ble_eq_true rfl⟩ ⟨Nat.le_of_ble_eq_true rfl, Nat.le_of_ble_eq_true rfl⟩ dX6_cue_36 ?_
          rintro r M1 H locs ⟨rfl, e1⟩ hM hS
          rw [e1] at hM
          clear e1 M1
          refine W.eq (g2 := F0 m 39 ls [.int (bI (zbt 0 9 i))]) rfl ?_
          refine lv_if_ne (tgt := 45) hx hb dX6_cue_39 (by decide) (fun c39 => ?_) (fun c39 => ?_)
          · rw [zbt_s] at c39
            rw [bI_n] at c39
            obtain ⟨ii, hii⟩ := isS_t c39
            obtain ⟨hii, rfl⟩ := ix_some (by omega) hii
            refine lv_aload_n hx hb dX6_cue_45 rfl (lv_at hl 0 rfl) ?_
            refine zm_get hx hb hts hown hE hM hZ.2.1 fl_X6_83_5 rfl dX6_cue_46 ?_
            refine lv_bipush (v := 30) hx hb dX6_cue_49 (by decide) ?_
            refine lv_icmp_ne (tgt := 57) hx hb dX6_cue_51 (by decide) (fun c51 => ?_) (fun c51 => ?_)
            · have hnc : ¬ s_nc S = 30 := fun e => c51 (by rw [e]; rfl)
              refine lv_aload_n hx hb dX6_cue_57 rfl (lv_at hl 0 rfl) ?_
              refine zm_get hx hb hts hown hE hM hZ.2.1 fl_X6_33_5 rfl dX6_cue_58 ?_
              refine lv_aload_n hx hb dX6_cue_61 rfl (lv_at hl 0 rfl) ?_
              refine zm_get hx hb hts hown hE hM hZ.2.1 fl_X6_83_5 rfl dX6_cue_62 ?_
              refine lv_iload_n hx hb dX6_cue_65 rfl (lv_at hl 1 rfl) ?_
              refine zm_iast hx hb hE hM hS (hZ.ar 7) (vp_in_nI (show s_nc S < 30 by omega) (by decide)) dX6_cue_66 (fun H locs hM hS => ?_)
              rw [nI_clamp (by omega)] at hM
              have hM : zm_P G A (zm_up _ (q 7) (zm_I G 30 (upd (f 7) (s_nc S) (nI aa)))) H := hM
              have hZ := hZ.arr 7 (upd (f 7) (s_nc S) (nI aa))
              refine lv_aload_n hx hb dX6_cue_67 rfl (lv_at hl 0 rfl) ?_
              refine zm_get hx hb hts hown hE hM hZ.2.1 fl_X6_36_5 rfl dX6_cue_68 ?_
              refine lv_aload_n hx hb dX6_cue_71 rfl (lv_at hl 0 rfl) ?_
              refine zm_get hx hb hts hown hE hM hZ.2.1 fl_X6_83_5 rfl dX6_cue_72 ?_
              refine lv_iload_n hx hb dX6_cue_75 rfl (lv_at hl 2 rfl) ?_
              refine zm_iast hx hb hE hM hS (hZ.ar 8) (vp_in_nI (show s_nc S < 30 by omega) (by decide)) dX6_cue_76 (fun H locs hM hS => ?_)
              rw [nI_clamp (by omega)] at hM
              have hM : zm_P G A (zm_up _ (q 8) (zm_I G 30 (upd (f 8) (s_nc S) (nI xx)))) H := hM
              have hZ := hZ.arr 8 (upd (f 8) (s_nc S) (nI xx))
              refine lv_aload_n hx hb dX6_cue_77 rfl (lv_at hl 0 rfl) ?_
              refine zm_get hx hb hts hown hE hM hZ.2.1 fl_X6_39_5 rfl dX6_cue_78 ?_
              refine lv_aload_n hx hb dX6_cue_81 rfl (lv_at hl 0 rfl) ?_
              refine zm_get hx hb hts hown hE hM hZ.2.1 fl_X6_83_5 rfl dX6_cue_82 ?_
              refine lv_iload_n hx hb dX6_cue_85 rfl (lv_at hl 3 rfl) ?_
              refine zm_iast hx hb hE hM hS (hZ.ar 9) (vp_in_nI (show s_nc S < 30 by omega) (by decide)) dX6_cue_86 (fun H locs hM hS => ?_)
              rw [nI_clamp (by omega)] at hM
              have hM : zm_P G A (zm_up _ (q 9) (zm_I G 30 (upd (f 9) (s_nc S) (nI vv)))) H := hM
              have hZ := hZ.arr 9 (upd (f 9) (s_nc S) (nI vv))
              refine lv_aload_n hx hb dX6_cue_87 rfl (lv_at hl 0 rfl) ?_
              refine zm_get hx hb hts hown hE hM hZ.2.1 fl_X6_42_5 rfl dX6_cue_88 ?_
              refine lv_aload_n hx hb dX6_cue_91 rfl (lv_at hl 0 rfl) ?_
              refine zm_get hx hb hts hown hE hM hZ.2.1 fl_X6_83_5 rfl dX6_cue_92 ?_
              refine lv_iload hx hb dX6_cue_95 (lv_at hl 4 rfl) ?_
              refine zm_iast hx hb hE hM hS (hZ.ar 10) (vp_in_nI (show s_nc S < 30 by omega) (by decide)) dX6_cue_97 (fun H locs hM hS => ?_)
              rw [nI_clamp (by omega)] at hM
              have hM : zm_P G A (zm_up _ (q 10) (zm_I G 30 (upd (f 10) (s_nc S) (nI ii)))) H := hM
              have hZ := hZ.arr 10 (upd (f 10) (s_nc S) (nI ii))
              refine lv_aload_n hx hb dX6_cue_98 rfl (lv_at hl 0 rfl) ?_
              refine lv_dup hx hb dX6_cue_99 rfl ?_
              refine zm_get hx hb hts hown hE hM hZ.2.1 fl_X6_83_5 rfl dX6_cue_100 ?_
              refine lv_iconst (v := 1) hx hb dX6_cue_103 (by decide) ?_
              refine lv_iadd hx hb dX6_cue_104 ?_
              refine zm_put hx hb hts hown hE hM hS hZ.2.1 fp_X6_83_5 rfl rfl (Nat.le_of_ble_eq_true rfl) dX6_cue_105 (fun H locs hM hS => ?_)
              have hZ := hZ.fld (objR q (w_cu S (s_nc S + 1) (va_up (s_cu S) (s_nc S) (aa, xx, vv, ii))))
              rw [show (objR q S).set 8 (.int (nI (s_nc S) + 1)) = objR q (w_cu S (s_nc S + 1) (va_up (s_cu S) (s_nc S) (aa, xx, vv, ii))) by rw [nI_1]; rfl] at hM
              refine lv_aload_n hx hb dX6_cue_108 rfl (lv_at hl 0 rfl) ?_
              refine zm_get hx hb hts hown hE hM hZ.2.1 fl_X6_83_5 rfl dX6_cue_109 ?_
              refine lv_iconst (v := 1) hx hb dX6_cue_112 (by decide) ?_
              refine lv_isub hx hb dX6_cue_113 ?_
              refine zm_iret hx hb hr hlk hM hS ?_ ⟨Nat.le_refl _, Nat.le_refl _⟩ dX6_cue_114
              rw [cue_ok hia hxi hvi hii c28 hnc]
              exact ⟨by rw [nI_pred], _, _, hZ, abs_cu hAb aa xx vv ii⟩
            · refine lv_bipush (v := (-3)) hx hb dX6_cue_54 (by decide) ?_
              refine zm_iret hx hb hr hlk hM hS ?_ ⟨Nat.le_refl _, Nat.le_refl _⟩ dX6_cue_56
              have h3 : s_nc S = 30 := (nI_eq (b := 30) (by omega) (by omega)).mp c51
              exact ⟨by rw [cue_full hia hxi hvi hii c28 h3], by rw [cue_full hia hxi hvi hii c28 h3]; exact ⟨f, g, hZ, hAb⟩⟩
          · rw [zbt_s] at c39
            rw [bI_0] at c39
            have hn39 := isS_f c39
            refine lv_bipush (v := (-2)) hx hb dX6_cue_42 (by decide) ?_
            refine zm_iret hx hb hr hlk hM hS ?_ ⟨Nat.le_refl _, Nat.le_refl _⟩ dX6_cue_44
            have hs : sp_cue S (nI aa) (nI xx) (nI vv) i = (-2, S) := by first | exact cue_bad (Or.inl hn6) | exact cue_bad (Or.inr (Or.inl hn13)) | exact cue_bad (Or.inr (Or.inr (Or.inl hn20))) | exact cue_has2 hia hxi hvi c28 | exact cue_bad (Or.inr (Or.inr (Or.inr hn39)))
            exact ⟨by rw [hs], by rw [hs]; exact ⟨f, g, hZ, hAb⟩⟩
set_option maxRecDepth 100000 in
set_option maxHeartbeats 4000000 in
theorem c_X6_strike (l : Launch) (G : zm_G) (A : Nat → Prop) (q : Nat → Nat) (S : zS) (M : zm_M) (hI : zInv S) (hR : RepR G q S M) : Met l yX6_strike (zm_W yX6_strike cX6_strike 2 (some .int)) (zm_rm 0 0 0) (zm_Pc G [.ref (q 0)] A M) (zm_Q G (fun r M' => r = some (.int (nI (s_nc S))) ∧ RepR G q (w_nc S 0) M') A) 0 0 A := by
  refine zm_start (by decide) (Nat.le_of_ble_eq_true rfl) ?_
  intro p e s m below meth c hx hb hml hr hts hown hlk hnm hE hA ls hl hM hS
  have hl : lv_has ls 2 [(0, .ref (q 0))] := hl
  obtain ⟨f, g, hZ, hAb⟩ := hR
  have hnp := hI.1
  have hncc := hI.2.1
  refine lv_aload_n hx hb dX6_strike_0 rfl (lv_at hl 0 rfl) ?_
  refine zm_get hx hb hts hown hE hM hZ.2.1 fl_X6_83_5 rfl dX6_strike_1 ?_
  refine lv_istore_n (lv' := [(1, .int (nI (s_nc S))), (0, .ref (q 0))]) hx hb dX6_strike_4 rfl hl (by decide) rfl (fun ls hl => ?_)
  refine lv_aload_n hx hb dX6_strike_5 rfl (lv_at hl 1 rfl) ?_
  refine lv_iconst (v := 0) hx hb dX6_strike_6 (by decide) ?_
  refine zm_put hx hb hts hown hE hM hS hZ.2.1 fp_X6_83_5 rfl rfl (Nat.le_of_ble_eq_true rfl) dX6_strike_7 (fun H locs hM hS => ?_)
  have hZ2 := hZ.fld (objR q (w_nc S 0))
  refine lv_iload_n hx hb dX6_strike_10 rfl (lv_at hl 0 rfl) ?_
  refine zm_iret hx hb hr hlk hM hS ?_ ⟨Nat.le_refl _, Nat.le_refl _⟩ dX6_strike_11
  exact ⟨rfl, _, _, hZ2, abs_nc hAb⟩
set_option maxRecDepth 100000 in
set_option maxHeartbeats 4000000 in
theorem c_X6_miscue (l : Launch) (G : zm_G) (A : Nat → Prop) (q : Nat → Nat) (S : zS) (M : zm_M) (w : Int32) (hI : zInv S) (hR : RepR G q S M) : Met l yX6_miscue (zm_W yX6_miscue cX6_miscue 2 (some .int)) (zm_rm 0 0 0) (zm_Pc G [.ref (q 0), .int w] A M) (zm_Q G (fun r M' => r = some (.int (sp_miscue S w)) ∧ M' = M) A) 0 0 A := by
  refine zm_start (by decide) (Nat.le_of_ble_eq_true rfl) ?_
  intro p e s m below meth c hx hb hml hr hts hown hlk hnm hE hA ls hl hM hS
  have hl : lv_has ls 2 [(0, .ref (q 0)), (1, .int w)] := hl
  obtain ⟨f, g, hZ, hAb⟩ := hR
  have hnp := hI.1
  have hncc := hI.2.1
  refine lv_iload_n hx hb dX6_miscue_0 rfl (lv_at hl 1 rfl) ?_
  refine lv_if_ne (tgt := 11) hx hb dX6_miscue_1 (by decide) (fun c1 => ?_) (fun c1 => ?_)
  · refine lv_iload_n hx hb dX6_miscue_11 rfl (lv_at hl 1 rfl) ?_
    refine lv_iconst (v := 1) hx hb dX6_miscue_12 (by decide) ?_
    refine lv_icmp_ne (tgt := 23) hx hb dX6_miscue_13 (by decide) (fun c13 => ?_) (fun c13 => ?_)
    · refine lv_iload_n hx hb dX6_miscue_23 rfl (lv_at hl 1 rfl) ?_
      refine lv_iconst (v := 2) hx hb dX6_miscue_24 (by decide) ?_
      refine lv_icmp_ne (tgt := 35) hx hb dX6_miscue_25 (by decide) (fun c25 => ?_) (fun c25 => ?_)
      · refine lv_bipush (v := (-2)) hx hb dX6_miscue_35 (by decide) ?_
        refine zm_iret hx hb hr hlk hM hS ?_ ⟨Nat.le_refl _, Nat.le_refl _⟩ dX6_miscue_37
        refine ⟨?_, rfl⟩
        unfold sp_miscue
        first | (rw [if_pos c1]; done) | (rw [if_neg c1, if_pos c13]; done) | (rw [if_neg c1, if_neg c13, if_pos c25]; done) | (rw [if_neg c1, if_neg c13, if_neg c25]; done)
      · refine lv_aload_n hx hb dX6_miscue_28 rfl (lv_at hl 0 rfl) ?_
        refine zm_get hx hb hts hown hE hM hZ.2.1 fl_X6_137_5 rfl dX6_miscue_29 ?_
        refine lv_goto (tgt := 37) hx hb dX6_miscue_32 (by decide) ?_
        refine zm_iret hx hb hr hlk hM hS ?_ ⟨Nat.le_refl _, Nat.le_refl _⟩ dX6_miscue_37
        refine ⟨?_, rfl⟩
        unfold sp_miscue
        first | (rw [if_pos c1]; done) | (rw [if_neg c1, if_pos c13]; done) | (rw [if_neg c1, if_neg c13, if_pos c25]; done) | (rw [if_neg c1, if_neg c13, if_neg c25]; done)
    · refine lv_aload_n hx hb dX6_miscue_16 rfl (lv_at hl 0 rfl) ?_
      refine zm_get hx hb hts hown hE hM hZ.2.1 fl_X6_45_5 rfl dX6_miscue_17 ?_
      refine lv_goto (tgt := 37) hx hb dX6_miscue_20 (by decide) ?_
      refine zm_iret hx hb hr hlk hM hS ?_ ⟨Nat.le_refl _, Nat.le_refl _⟩ dX6_miscue_37
      refine ⟨?_, rfl⟩
      unfold sp_miscue
      first | (rw [if_pos c1]; done) | (rw [if_neg c1, if_pos c13]; done) | (rw [if_neg c1, if_neg c13, if_pos c25]; done) | (rw [if_neg c1, if_neg c13, if_neg c25]; done)
  · refine lv_aload_n hx hb dX6_miscue_4 rfl (lv_at hl 0 rfl) ?_
    refine zm_get hx hb hts hown hE hM hZ.2.1 fl_X6_131_5 rfl dX6_miscue_5 ?_
    refine lv_goto (tgt := 37) hx hb dX6_miscue_8 (by decide) ?_
    refine zm_iret hx hb hr hlk hM hS ?_ ⟨Nat.le_refl _, Nat.le_refl _⟩ dX6_miscue_37
    refine ⟨?_, rfl⟩
    unfold sp_miscue
    first | (rw [if_pos c1]; done) | (rw [if_neg c1, if_pos c13]; done) | (rw [if_neg c1, if_neg c13, if_pos c25]; done) | (rw [if_neg c1, if_neg c13, if_neg c25]; done)
set_option maxRecDepth 100000 in
set_option maxHeartbeats 4000000 in
theorem c_X6_count (l : Launch) (G : zm_G) (A : Nat → Prop) (q : Nat → Nat) (S : zS) (M : zm_M) (w : Int32) (hI : zInv S) (hR : RepR G q S M) : Met l yX6_count (zm_W yX6_count cX6_count 2 (some .int)) (zm_rm 0 0 0) (zm_Pc G [.ref (q 0), .int w] A M) (zm_Q G (fun r M' => r = some (.int (sp_count S w)) ∧ M' = M) A) 0 0 A := by
  refine zm_start (by decide) (Nat.le_of_ble_eq_true rfl) ?_
  intro p e s m below meth c hx hb hml hr hts hown hlk hnm hE hA ls hl hM hS
  have hl : lv_has ls 2 [(0, .ref (q 0)), (1, .int w)] := hl
  obtain ⟨f, g, hZ, hAb⟩ := hR
  have hnp := hI.1
  have hncc := hI.2.1
  refine lv_iload_n hx hb dX6_count_0 rfl (lv_at hl 1 rfl) ?_
  refine lv_if_ne (tgt := 11) hx hb dX6_count_1 (by decide) (fun c1 => ?_) (fun c1 => ?_)
  · refine lv_iload_n hx hb dX6_count_11 rfl (lv_at hl 1 rfl) ?_
    refine lv_iconst (v := 1) hx hb dX6_count_12 (by decide) ?_
    refine lv_icmp_ne (tgt := 23) hx hb dX6_count_13 (by decide) (fun c13 => ?_) (fun c13 => ?_)
    · refine lv_bipush (v := (-2)) hx hb dX6_count_23 (by decide) ?_
      refine zm_iret hx hb hr hlk hM hS ?_ ⟨Nat.le_refl _, Nat.le_refl _⟩ dX6_count_25
      refine ⟨?_, rfl⟩
      unfold sp_count
      first | (rw [if_pos c1]; done) | (rw [if_neg c1, if_pos c13]; done) | (rw [if_neg c1, if_neg c13]; done)
    · refine lv_aload_n hx hb dX6_count_16 rfl (lv_at hl 0 rfl) ?_
      refine zm_get hx hb hts hown hE hM hZ.2.1 fl_X6_83_5 rfl dX6_count_17 ?_
      refine lv_goto (tgt := 25) hx hb dX6_count_20 (by decide) ?_
      refine zm_iret hx hb hr hlk hM hS ?_ ⟨Nat.le_refl _, Nat.le_refl _⟩ dX6_count_25
      refine ⟨?_, rfl⟩
      unfold sp_count
      first | (rw [if_pos c1]; done) | (rw [if_neg c1, if_pos c13]; done) | (rw [if_neg c1, if_neg c13]; done)
  · refine lv_aload_n hx hb dX6_count_4 rfl (lv_at hl 0 rfl) ?_
    refine zm_get hx hb hts hown hE hM hZ.2.1 fl_X6_48_5 rfl dX6_count_5 ?_
    refine lv_goto (tgt := 25) hx hb dX6_count_8 (by decide) ?_
    refine zm_iret hx hb hr hlk hM hS ?_ ⟨Nat.le_refl _, Nat.le_refl _⟩ dX6_count_25
    refine ⟨?_, rfl⟩
    unfold sp_count
    first | (rw [if_pos c1]; done) | (rw [if_neg c1, if_pos c13]; done) | (rw [if_neg c1, if_neg c13]; done)
