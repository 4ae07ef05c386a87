theorem isS_t {α : Type} {o : Option α} (h : o.isSome = true) : ∃ j, o = some j := Option.isSome_iff_exists.mp h
theorem isS_f {α : Type} {o : Option α} (h : o.isSome = false) : o = none := by cases o with | none => rfl | some j => cases h
theorem ix_ho {S : zS} {x : Int32} (hI : zInv S) : ∀ j, ix (s_np S) x = some j → j < s_np S := fun j h => (ix_some (by have := hI.1; omega) h).1
theorem RepC.cls {G : zm_G} {B : zB} {S : zS} {M : zm_M} (h : RepC G B S M) {o : Option Nat} (ho : ∀ j, o = some j → j < s_np S) : ∀ v, oA B o = some v → ∃ ci fs, M v = some (.inr (ci, fs)) ∧ (ci = 1 ∨ ci = 2 ∨ ci = 3) := by
  intro v hv
  cases o with
  | none => cases hv
  | some j =>
    cases hv
    obtain ⟨ci, fs, e, hc⟩ := pcell_cls B S j
    exact ⟨ci, fs, by rw [← e]; exact h.2.2.2.2.2.1 j (ho j rfl), hc⟩
theorem oA_some {B : zB} {o : Option Nat} {a : Nat} (h : oA B o = some a) : ∃ j, o = some j ∧ B.2.1 j = a := by cases o with | none => cases h | some j => exact ⟨j, rfl, Option.some.inj h⟩
theorem oA_none {B : zB} {o : Option Nat} (h : oA B o = none) : o = none := by cases o with | none => rfl | some j => cases h
set_option maxRecDepth 100000 in
set_option maxHeartbeats 4000000 in
theorem c_X5_hand (l : Launch) (G : zm_G) (A : Nat → Prop) (B : zB) (S : zS) (M : zm_M) (hI : zInv S) (hR : RepC G B S M) : Met l yX5_hand (zm_W yX5_hand cX5_hand 1 (some .int)) (zm_rm 1 0 0) (zm_Pc G [.ref B.1.1] A M) (zm_Q G (fun r M' => r = some (.int (oI (s_hd S))) ∧ M' = M) A) 0 0 A := by
  refine zm_start (by decide) (Nat.le_of_ble_eq_true rfl) ?_
  intro p e s m below meth c hx hb hml hr hts hown hlk hnm hE hA ls hl hM hS
  have hl : lv_has ls 1 [(0, .ref B.1.1)] := hl
  refine lv_aload_n hx hb dX5_hand_0 rfl (lv_at hl 0 rfl) ?_
  refine zm_get hx hb hts hown hE hM hR.1 fl_X5_57_4 rfl dX5_hand_1 ?_
  refine zm_callS (As := [va_rf (oA B (s_hd S))]) (rest := []) hx hb hml hts hown hE hA hM hS (c_X5_numberOf l G A B S _ (s_hd S) hR (hI.2.2.2.2.2.1)) cd_X5_numberOf ml_X5_53 rfl rfl hl.1 (Nat.le_of_ble_eq_true rfl) ⟨Nat.le_of_ble_eq_true rfl, Nat.le_of_ble_eq_true rfl⟩ ⟨Nat.le_of_ble_eq_true rfl, Nat.le_of_ble_eq_true rfl⟩ dX5_hand_4 ?_
  rintro r M1 H locs ⟨rfl, e1⟩ hM hS
  rw [e1] at hM
  clear e1 M1
  refine W.eq (g2 := F0 m 7 ls [.int (oI (s_hd S))]) rfl ?_
  refine zm_iret hx hb hr hlk hM hS ?_ ⟨Nat.le_refl _, Nat.le_refl _⟩ dX5_hand_7
  exact ⟨rfl, rfl⟩
set_option maxRecDepth 100000 in
set_option maxHeartbeats 4000000 in
theorem c_X5_held (l : Launch) (G : zm_G) (A : Nat → Prop) (B : zB) (S : zS) (M : zm_M) (x : Int32) (hI : zInv S) (hR : RepC G B S M) : Met l yX5_held (zm_W yX5_held cX5_held 2 (some .int)) (zm_rm 1 0 0) (zm_Pc G [.ref B.1.1, .int x] A M) (zm_Q G (fun r M' => r = some (.int (sp_held S x)) ∧ M' = M) A) 0 0 A := by
  refine zm_start (by decide) (Nat.le_of_ble_eq_true rfl) ?_
  intro p e s m below meth c hx hb hml hr hts hown hlk hnm hE hA ls hl hM hS
  have hl : lv_has ls 2 [(0, .ref B.1.1), (1, .int x)] := hl
  refine lv_iload_n hx hb dX5_held_0 rfl (lv_at hl 1 rfl) ?_
  refine zm_callS (As := [.int x]) (rest := []) hx hb hml hts hown hE hA hM hS (c_X5_isSlot l G A _ x) cd_X5_isSlot ml_X5_49 rfl rfl hl.1 (Nat.le_of_ble_eq_true rfl) ⟨Nat.le_of_ble_eq_true rfl, Nat.le_of_ble_eq_true rfl⟩ ⟨Nat.le_of_ble_eq_true rfl, Nat.le_of_ble_eq_true rfl⟩ dX5_held_1 ?_
  rintro r M1 H locs ⟨rfl, e1⟩ hM hS
  rw [e1] at hM
  clear e1 M1
  refine W.eq (g2 := F0 m 4 ls [.int (bI ((ix 10 x).isSome))]) rfl ?_
  refine lv_if_eq (tgt := 19) hx hb dX5_held_4 (by decide) (fun c4 => ?_) (fun c4 => ?_)
  · rw [bI_0] at c4
    have hix := isS_f c4
    refine lv_bipush (v := (-2)) hx hb dX5_held_19 (by decide) ?_
    refine zm_iret hx hb hr hlk hM hS ?_ ⟨Nat.le_refl _, Nat.le_refl _⟩ dX5_held_21
    refine ⟨?_, rfl⟩
    unfold sp_held
    rw [hix]
  · rw [bI_n] at c4
    obtain ⟨j, hix⟩ := isS_t c4
    obtain ⟨hj, rfl⟩ := ix_some (by decide) hix
    obtain ⟨f2, h2, e2⟩ := hR.2.2.1
    refine lv_aload_n hx hb dX5_held_7 rfl (lv_at hl 0 rfl) ?_
    refine zm_get hx hb hts hown hE hM hR.1 fl_X5_15_4 rfl dX5_held_8 ?_
    refine lv_iload_n hx hb dX5_held_11 rfl (lv_at hl 1 rfl) ?_
    refine zm_aldR hx hb hE hM h2 (vp_in_nI hj (by decide)) dX5_held_12 ?_
    refine zt_eq (v' := va_rf (oA B (s_sl S j))) (by rw [nI_clamp (by omega), e2 j hj]) ?_
    refine zm_callS (As := [va_rf (oA B (s_sl S j))]) (rest := []) hx hb hml hts hown hE hA hM hS (c_X5_numberOf l G A B S _ (s_sl S j) hR (fun t ht => hI.2.2.2.2.1 j t hj ht)) cd_X5_numberOf ml_X5_53 rfl rfl hl.1 (Nat.le_of_ble_eq_true rfl) ⟨Nat.le_of_ble_eq_true rfl, Nat.le_of_ble_eq_true rfl⟩ ⟨Nat.le_of_ble_eq_true rfl, Nat.le_of_ble_eq_true rfl⟩ dX5_held_13 ?_
    rintro r M1 H locs ⟨rfl, e1⟩ hM hS
    rw [e1] at hM
    clear e1 M1
    refine W.eq (g2 := F0 m 16 ls [.int (oI (s_sl S j))]) rfl ?_
    refine lv_goto (tgt := 21) hx hb dX5_held_16 (by decide) ?_
    refine zm_iret hx hb hr hlk hM hS ?_ ⟨Nat.le_refl _, Nat.le_refl _⟩ dX5_held_21
    refine ⟨?_, rfl⟩
    unfold sp_held
    rw [hix]
theorem slot_bad1 {S : zS} {x p : Int32} (h : ix 10 x = none) : sp_slot S x p = (-2, S) := by unfold sp_slot; rw [h]
theorem slot_bad2 {S : zS} {x p : Int32} (h : px S p = none) : sp_slot S x p = (-2, S) := by unfold sp_slot; rw [h]; cases ix 10 x <;> rfl
theorem px_some {S : zS} {p : Int32} {k : Nat} (hI : zInv S) (h : ix (s_np S) p = some k) : px S p = some (ix (s_np S) p) := by
  have hn := hI.1
  obtain ⟨h1, rfl⟩ := ix_some (by omega) h
  unfold px
  rw [if_neg (oI_nI (by omega)), h]; rfl
theorem px_m1 {S : zS} {p : Int32} (h : p = -1) : px S p = some (ix (s_np S) p) := by subst h; unfold px; rw [if_pos rfl, ix_lt (by decide)]
theorem px_bad {S : zS} {p : Int32} (h : ¬ p = -1) (h2 : ix (s_np S) p = none) : px S p = none := by unfold px; rw [if_neg h, h2]; rfl
set_option maxRecDepth 100000 in
set_option maxHeartbeats 4000000 in
theorem c_X5_slot (l : Launch) (G : zm_G) (A : Nat → Prop) (B : zB) (S : zS) (M : zm_M) (x q : Int32) (hI : zInv S) (hR : RepC G B S M) : Met l yX5_slot (zm_W yX5_slot cX5_slot 5 (some .int)) (zm_rm 1 0 0) (zm_Pc G [.ref B.1.1, .int x, .int q] A M) (zm_Q G (fun r M' => ∃ B', B'.1 = B.1 ∧ r = some (.int (sp_slot S x q).1) ∧ RepC G B' (sp_slot S x q).2 M') A) 0 0 A := by
  refine zm_start (by decide) (Nat.le_of_ble_eq_true rfl) ?_
  intro p e s m below meth c hx hb hml hr hts hown hlk hnm hE hA ls hl hM hS
  have hl : lv_has ls 5 [(0, .ref B.1.1), (1, .int x), (2, .int q)] := hl
  refine lv_aload_n hx hb dX5_slot_0 rfl (lv_at hl 0 rfl) ?_
  refine lv_iload_n hx hb dX5_slot_1 rfl (lv_at hl 2 rfl) ?_
  refine zm_callV (As := [.int q]) (rest := []) hx hb hml hts hown hE hA hM hS hR.1 rfl (c_X5_find l G A B S _ q hI hR) cd_X5_find ml_X5_39 rfl rfl hl.1 (Nat.le_of_ble_eq_true rfl) ⟨Nat.le_of_ble_eq_true rfl, Nat.le_of_ble_eq_true rfl⟩ ⟨Nat.le_of_ble_eq_true rfl, Nat.le_of_ble_eq_true rfl⟩ dX5_slot_2 ?_
  rintro r M1 H locs ⟨rfl, e1⟩ hM hS
  rw [e1] at hM
  clear e1 M1
  refine W.eq (g2 := F0 m 5 ls [va_rf (oA B (ix (s_np S) q))]) rfl ?_
  refine zq_astore_n (lv' := [(3, va_rf (oA B (ix (s_np S) q))), (0, .ref B.1.1), (1, .int x), (2, .int q)]) hx hb dX5_slot_5 rfl hl (by decide) rfl (fun ls hl => ?_)
  refine lv_iload_n hx hb dX5_slot_6 rfl (lv_at hl 2 rfl) ?_
  refine zm_callS (As := [.int x]) (rest := []) hx hb hml hts hown hE hA hM hS (c_X5_isSlot l G A _ x) cd_X5_isSlot ml_X5_49 rfl rfl hl.1 (Nat.le_of_ble_eq_true rfl) ⟨Nat.le_of_ble_eq_true rfl, Nat.le_of_ble_eq_true rfl⟩ ⟨Nat.le_of_ble_eq_true rfl, Nat.le_of_ble_eq_true rfl⟩ dX5_slot_7 ?_
  rintro r M1 H locs ⟨rfl, e1⟩ hM hS
  rw [e1] at hM
  clear e1 M1
  refine W.eq (g2 := F0 m 10 ls [.int (bI ((ix 10 x).isSome))]) rfl ?_
  refine lv_if_eq (tgt := 22) hx hb dX5_slot_10 (by decide) (fun c10 => ?_) (fun c10 => ?_)
  · rw [bI_0] at c10
    have hix := isS_f c10
    refine lv_bipush (v := (-2)) hx hb dX5_slot_22 (by decide) ?_
    refine zm_iret hx hb hr hlk hM hS ?_ ⟨Nat.le_refl _, Nat.le_refl _⟩ dX5_slot_24
    first | exact ⟨B, rfl, by rw [slot_bad1 hix], by rw [slot_bad1 hix]; exact hR⟩ | exact ⟨B, rfl, by rw [slot_bad2 (px_bad c19 (oA_none c14))], by rw [slot_bad2 (px_bad c19 (oA_none c14))]; exact hR⟩
  · rw [bI_n] at c10
    obtain ⟨j, hix⟩ := isS_t c10
    obtain ⟨hj, rfl⟩ := ix_some (by decide) hix
    obtain ⟨f2, h2, e2⟩ := hR.2.2.1
    refine zq_aload_n hx hb dX5_slot_13 rfl (lv_at hl 0 rfl) ?_
    refine zq_ifnonnull (tgt := 25) hx hb dX5_slot_14 (by decide) (fun a14 c14 => ?_) (fun c14 => ?_)
    · obtain ⟨k, hk, -⟩ := oA_some c14
      have hpx := px_some hI hk
      refine lv_aload_n hx hb dX5_slot_25 rfl (lv_at hl 1 rfl) ?_
      refine zm_get hx hb hts hown hE hM hR.1 fl_X5_15_4 rfl dX5_slot_26 ?_
      refine lv_iload_n hx hb dX5_slot_29 rfl (lv_at hl 2 rfl) ?_
      refine zm_aldR hx hb hE hM h2 (vp_in_nI hj (by decide)) dX5_slot_30 ?_
      refine zt_eq (v' := va_rf (oA B (s_sl S j))) (by rw [nI_clamp (by omega), e2 j hj]) ?_
      refine zq_astore (lv' := [(4, va_rf (oA B (s_sl S j))), (3, va_rf (oA B (ix (s_np S) q))), (0, .ref B.1.1), (1, .int (nI j)), (2, .int q)]) hx hb dX5_slot_31 hl (by decide) (by simp [List.filter, zq_cat]) (fun ls hl => ?_)
      refine lv_aload_n hx hb dX5_slot_33 rfl (lv_at hl 2 rfl) ?_
      refine zm_get hx hb hts hown hE hM hR.1 fl_X5_15_4 rfl dX5_slot_34 ?_
      refine lv_iload_n hx hb dX5_slot_37 rfl (lv_at hl 3 rfl) ?_
      refine zq_aload_n hx hb dX5_slot_38 rfl (lv_at hl 1 rfl) ?_
      refine zm_astO hx hb hE hM hS h2 (hR.cls (ix_ho hI)) (vp_in_nI hj (by decide)) dX5_slot_39 (fun H locs hM hS => ?_)
      rw [nI_clamp (by omega)] at hM
      have hR2 := hR.slot hI (i := j) (o := ix (s_np S) q) h2 e2
      refine zq_aload hx hb dX5_slot_40 (lv_at hl 0 rfl) ?_
      refine zm_callS (As := [va_rf (oA B (s_sl S j))]) (rest := []) hx hb hml hts hown hE hA hM hS (c_X5_numberOf l G A B (w_sl S (va_up (s_sl S) j (ix (s_np S) q))) _ (s_sl S j) hR2 (fun t ht => hI.2.2.2.2.1 j t hj ht)) cd_X5_numberOf ml_X5_53 rfl rfl hl.1 (Nat.le_of_ble_eq_true rfl) ⟨Nat.le_of_ble_eq_true rfl, Nat.le_of_ble_eq_true rfl⟩ ⟨Nat.le_of_ble_eq_true rfl, Nat.le_of_ble_eq_true rfl⟩ dX5_slot_42 ?_
      rintro r M1 H locs ⟨rfl, e1⟩ hM hS
      rw [e1] at hM
      clear e1 M1
      refine W.eq (g2 := F0 m 45 ls [.int (oI (s_sl S j))]) rfl ?_
      refine zm_iret hx hb hr hlk hM hS ?_ ⟨Nat.le_refl _, Nat.le_refl _⟩ dX5_slot_45
      have hs : sp_slot S (nI j) q = (oI (s_sl S j), w_sl S (va_up (s_sl S) j (ix (s_np S) q))) := by unfold sp_slot; rw [hix, hpx]
      exact ⟨B, rfl, by rw [hs], by rw [hs]; exact hR2⟩
    · refine lv_iload_n hx hb dX5_slot_17 rfl (lv_at hl 3 rfl) ?_
      refine lv_iconst (v := (-1)) hx hb dX5_slot_18 (by decide) ?_
      refine lv_icmp_eq (tgt := 25) hx hb dX5_slot_19 (by decide) (fun c19 => ?_) (fun c19 => ?_)
      · have hpx := px_m1 (S := S) c19
        refine lv_aload_n hx hb dX5_slot_25 rfl (lv_at hl 1 rfl) ?_
        refine zm_get hx hb hts hown hE hM hR.1 fl_X5_15_4 rfl dX5_slot_26 ?_
        refine lv_iload_n hx hb dX5_slot_29 rfl (lv_at hl 2 rfl) ?_
        refine zm_aldR hx hb hE hM h2 (vp_in_nI hj (by decide)) dX5_slot_30 ?_
        refine zt_eq (v' := va_rf (oA B (s_sl S j))) (by rw [nI_clamp (by omega), e2 j hj]) ?_
        refine zq_astore (lv' := [(4, va_rf (oA B (s_sl S j))), (3, va_rf (oA B (ix (s_np S) q))), (0, .ref B.1.1), (1, .int (nI j)), (2, .int q)]) hx hb dX5_slot_31 hl (by decide) (by simp [List.filter, zq_cat]) (fun ls hl => ?_)
        refine lv_aload_n hx hb dX5_slot_33 rfl (lv_at hl 2 rfl) ?_
        refine zm_get hx hb hts hown hE hM hR.1 fl_X5_15_4 rfl dX5_slot_34 ?_
        refine lv_iload_n hx hb dX5_slot_37 rfl (lv_at hl 3 rfl) ?_
        refine zq_aload_n hx hb dX5_slot_38 rfl (lv_at hl 1 rfl) ?_
        refine zm_astO hx hb hE hM hS h2 (hR.cls (ix_ho hI)) (vp_in_nI hj (by decide)) dX5_slot_39 (fun H locs hM hS => ?_)
        rw [nI_clamp (by omega)] at hM
        have hR2 := hR.slot hI (i := j) (o := ix (s_np S) q) h2 e2
        refine zq_aload hx hb dX5_slot_40 (lv_at hl 0 rfl) ?_
        refine zm_callS (As := [va_rf (oA B (s_sl S j))]) (rest := []) hx hb hml hts hown hE hA hM hS (c_X5_numberOf l G A B (w_sl S (va_up (s_sl S) j (ix (s_np S) q))) _ (s_sl S j) hR2 (fun t ht => hI.2.2.2.2.1 j t hj ht)) cd_X5_numberOf ml_X5_53 rfl rfl hl.1 (Nat.le_of_ble_eq_true rfl) ⟨Nat.le_of_ble_eq_true rfl, Nat.le_of_ble_eq_true rfl⟩ ⟨Nat.le_of_ble_eq_true rfl, Nat.le_of_ble_eq_true rfl⟩ dX5_slot_42 ?_
        rintro r M1 H locs ⟨rfl, e1⟩ hM hS
        rw [e1] at hM
        clear e1 M1
        refine W.eq (g2 := F0 m 45 ls [.int (oI (s_sl S j))]) rfl ?_
        refine zm_iret hx hb hr hlk hM hS ?_ ⟨Nat.le_refl _, Nat.le_refl _⟩ dX5_slot_45
        have hs : sp_slot S (nI j) q = (oI (s_sl S j), w_sl S (va_up (s_sl S) j (ix (s_np S) q))) := by unfold sp_slot; rw [hix, hpx]
        exact ⟨B, rfl, by rw [hs], by rw [hs]; exact hR2⟩
      · refine lv_bipush (v := (-2)) hx hb dX5_slot_22 (by decide) ?_
        refine zm_iret hx hb hr hlk hM hS ?_ ⟨Nat.le_refl _, Nat.le_refl _⟩ dX5_slot_24
        first | exact ⟨B, rfl, by rw [slot_bad1 hix], by rw [slot_bad1 hix]; exact hR⟩ | exact ⟨B, rfl, by rw [slot_bad2 (px_bad c19 (oA_none c14))], by rw [slot_bad2 (px_bad c19 (oA_none c14))]; exact hR⟩
theorem cut_char (v : Int32) : (v.toUInt32 % 65536).toInt32 = v &&& 65535 := by rw [pk_char, pk_and v (m := 65535) 16 (by decide)]
set_option maxRecDepth 100000 in
set_option maxHeartbeats 4000000 in
theorem c_X1_cut (l : Launch) (G : zm_G) (A : Nat → Prop) (M : zm_M) (a q k : Nat) (n v : Int32) (hk : k < 4) (h0 : M a = some (.inr (1, [.int n, .int (nI k), .ref q]))) : Met l yX1_cut (zm_W yX1_cut cX1_cut 2 (some .long)) (zm_rm 0 0 0) (zm_Pc G [.ref a, .int v] A M) (zm_Q G (fun r M' => r = some (.long (cutV k v)) ∧ M' = M) A) 0 0 A := by
  refine zm_start (by decide) (Nat.le_of_ble_eq_true rfl) ?_
  intro p e s m below meth c hx hb hml hr hts hown hlk hnm hE hA ls hl hM hS
  have hl : lv_has ls 2 [(0, .ref a), (1, .int v)] := hl
  refine lv_aload_n hx hb dX1_cut_0 rfl (lv_at hl 0 rfl) ?_
  refine zm_get hx hb hts hown hE hM h0 fl_X1_19_1 rfl dX1_cut_1 ?_
  obtain rfl | rfl | rfl | rfl : k = 0 ∨ k = 1 ∨ k = 2 ∨ k = 3 := by omega
  · refine lv_tableIn (off := 32) (tgt := 36) hx hb dX1_cut_4 (by decide) (by decide) rfl (by decide) ?_
    refine lv_iload_n hx hb dX1_cut_36 rfl (lv_at hl 1 rfl) ?_
    refine lv_i2c hx hb dX1_cut_37 rfl ?_
    refine lv_i2l hx hb dX1_cut_38 rfl ?_
    refine zm_lret hx hb hr hlk hM hS ?_ ⟨Nat.le_refl _, Nat.le_refl _⟩ dX1_cut_39
    refine ⟨?_, rfl⟩
    rw [cut_char]; rfl
  · refine lv_tableIn (off := 36) (tgt := 40) hx hb dX1_cut_4 (by decide) (by decide) rfl (by decide) ?_
    refine lv_iload_n hx hb dX1_cut_40 rfl (lv_at hl 1 rfl) ?_
    refine lv_i2s hx hb dX1_cut_41 rfl ?_
    refine lv_i2l hx hb dX1_cut_42 rfl ?_
    refine zm_lret hx hb hr hlk hM hS ?_ ⟨Nat.le_refl _, Nat.le_refl _⟩ dX1_cut_43
    exact ⟨rfl, rfl⟩
  · refine lv_tableIn (off := 44) (tgt := 48) hx hb dX1_cut_4 (by decide) (by decide) rfl (by decide) ?_
    refine lv_iload_n hx hb dX1_cut_48 rfl (lv_at hl 1 rfl) ?_
    refine lv_i2l hx hb dX1_cut_49 rfl ?_
    refine zm_lret hx hb hr hlk hM hS ?_ ⟨Nat.le_refl _, Nat.le_refl _⟩ dX1_cut_50
    exact ⟨rfl, rfl⟩
  · refine lv_tableIn (off := 40) (tgt := 44) hx hb dX1_cut_4 (by decide) (by decide) rfl (by decide) ?_
    refine lv_iload_n hx hb dX1_cut_44 rfl (lv_at hl 1 rfl) ?_
    refine lv_i2b hx hb dX1_cut_45 rfl ?_
    refine lv_i2l hx hb dX1_cut_46 rfl ?_
    refine zm_lret hx hb hr hlk hM hS ?_ ⟨Nat.le_refl _, Nat.le_refl _⟩ dX1_cut_47
    exact ⟨rfl, rfl⟩
set_option maxRecDepth 100000 in
set_option maxHeartbeats 4000000 in
theorem c_X1_put (l : Launch) (G : zm_G) (A : Nat → Prop) (M : zm_M) (a q k len : Nat) (n i v : Int32) (f : Nat → Int64) (hk : k < 4) (hlen : len < 1000) (h0 : M a = some (.inr (1, [.int n, .int (nI k), .ref q]))) (h1 : M q = some (zm_J G len f)) : Met l yX1_put (zm_W yX1_put cX1_put 3 (some .boolean)) (zm_rm 1 0 0) (zm_Pc G [.ref a, .int i, .int v] A M) (zm_Q G (fun r M' => (ix len i = none ∧ r = some (.int 0) ∧ M' = M) ∨ ∃ j, ix len i = some j ∧ r = some (.int 1) ∧ M' = zm_up M q (zm_J G len (vp_updL f j (cutV k v)))) A) 0 0 A := by
  refine zm_start (by decide) (Nat.le_of_ble_eq_true rfl) ?_
  intro p e s m below meth c hx hb hml hr hts hown hlk hnm hE hA ls hl hM hS
  have hl : lv_has ls 3 [(0, .ref a), (1, .int i), (2, .int v)] := hl
  refine lv_iload_n hx hb dX1_put_0 rfl (lv_at hl 1 rfl) ?_
  refine lv_if_lt (tgt := 13) hx hb dX1_put_1 (by decide) (fun c1 => ?_) (fun c1 => ?_)
  · refine lv_iconst (v := 0) hx hb dX1_put_13 (by decide) ?_
    refine zm_zret hx hb hr hlk hM hS (by first | exact Or.inl rfl | exact Or.inr rfl | exact bI_01 _) ?_ ⟨Nat.le_refl _, Nat.le_refl _⟩ dX1_put_14
    first | exact Or.inl ⟨ix_lt c1, rfl, rfl⟩ | exact Or.inl ⟨ix_ge (by rw [Int32.not_lt] at c10; exact c10), rfl, rfl⟩
  · refine lv_iload_n hx hb dX1_put_4 rfl (lv_at hl 1 rfl) ?_
    refine lv_aload_n hx hb dX1_put_5 rfl (lv_at hl 0 rfl) ?_
    refine zm_get hx hb hts hown hE hM h0 fl_X1_9_1 rfl dX1_put_6 ?_
    refine zm_alenJ hx hb hE hM h1 dX1_put_9 ?_
    refine lv_icmp_lt (tgt := 15) hx hb dX1_put_10 (by decide) (fun c10 => ?_) (fun c10 => ?_)
    · obtain ⟨j, hj, rfl, hix⟩ := ix_in (n := len) (by omega) c1 (by rw [Int32.not_le]; exact c10)
      refine lv_aload_n hx hb dX1_put_15 rfl (lv_at hl 0 rfl) ?_
      refine zm_get hx hb hts hown hE hM h0 fl_X1_9_1 rfl dX1_put_16 ?_
      refine lv_iload_n hx hb dX1_put_19 rfl (lv_at hl 1 rfl) ?_
      refine lv_aload_n hx hb dX1_put_20 rfl (lv_at hl 0 rfl) ?_
      refine lv_iload_n hx hb dX1_put_21 rfl (lv_at hl 2 rfl) ?_
      refine zm_callV (As := [.int v]) (rest := [.int (nI j), .ref q]) hx hb hml hts hown hE hA hM hS h0 rfl (c_X1_cut l G A _ a q k n v hk h0) cd_X1_cut ml_X1_15 rfl rfl hl.1 (Nat.le_of_ble_eq_true rfl) ⟨Nat.le_of_ble_eq_true rfl, Nat.le_of_ble_eq_true rfl⟩ ⟨Nat.le_of_ble_eq_true rfl, Nat.le_of_ble_eq_true rfl⟩ dX1_put_22 ?_
      rintro r M1 H locs ⟨rfl, e1⟩ hM hS
      rw [e1] at hM
      clear e1 M1
      refine W.eq (g2 := F0 m 25 ls [.long (cutV k v), .int (nI j), .ref q]) rfl ?_
      refine zm_last hx hb hE hM hS h1 (vp_in_nI hj (by omega)) dX1_put_25 (fun H locs hM hS => ?_)
      rw [nI_clamp (by omega)] at hM
      refine lv_iconst (v := 1) hx hb dX1_put_26 (by decide) ?_
      refine zm_zret hx hb hr hlk hM hS (by first | exact Or.inl rfl | exact Or.inr rfl | exact bI_01 _) ?_ ⟨Nat.le_refl _, Nat.le_refl _⟩ dX1_put_27
      exact Or.inr ⟨j, hix, rfl, rfl⟩
    · refine lv_iconst (v := 0) hx hb dX1_put_13 (by decide) ?_
      refine zm_zret hx hb hr hlk hM hS (by first | exact Or.inl rfl | exact Or.inr rfl | exact bI_01 _) ?_ ⟨Nat.le_refl _, Nat.le_refl _⟩ dX1_put_14
      first | exact Or.inl ⟨ix_lt c1, rfl, rfl⟩ | exact Or.inl ⟨ix_ge (by rw [Int32.not_lt] at c10; exact c10), rfl, rfl⟩
theorem RepC.at {G : zm_G} {B : zB} {S : zS} {M : zm_M} (h : RepC G B S M) (hI : zInv S) {j : Nat} (hj : j < s_np S) : (s_kd S j < 4 ∧ M (B.2.1 j) = some (.inr (1, [.int (nI j), .int (nI (s_kd S j)), .ref (B.2.2.1 j)]))) ∨ (isPc (s_kd S j) = true ∧ M (B.2.1 j) = some (.inr (2, [.int (nI j), .int (nI (s_kd S j)), .int (nI (s_sz S j)), .int (s_wr S j)]))) ∨ (isRw (s_kd S j) = true ∧ M (B.2.1 j) = some (.inr (3, [.int (nI j), .int (nI (s_kd S j)), .ref (B.2.2.1 j)]))) := by
  have h5 := h.2.2.2.2.2.1 j hj
  have hk := (hI.2.2.1 j hj).1
  by_cases h1 : s_kd S j < 4
  · exact Or.inl ⟨h1, by rw [← pcell_nu h1]; exact h5⟩
  · by_cases h2 : isPc (s_kd S j) = true
    · exact Or.inr (Or.inl ⟨h2, by rw [← pcell_pc h2]; exact h5⟩)
    · have h3 : isRw (s_kd S j) = true := by
        simp only [isRw, isPc, Bool.and_eq_true, decide_eq_true_eq] at *
        omega
      exact Or.inr (Or.inr ⟨h3, by rw [← pcell_rw h3]; exact h5⟩)
theorem set_bad {S : zS} {p i v : Int32} (h : ix (s_np S) p = none) : sp_set S p i v = (-2, S) := by unfold sp_set; rw [h]
theorem set_cast {S : zS} {p i v : Int32} {j : Nat} (h : ix (s_np S) p = some j) (hk : 3 < s_kd S j) : sp_set S p i v = (-5, S) := by unfold sp_set; rw [h]; simp only [if_pos hk]
theorem set_ix {S : zS} {p i v : Int32} {j : Nat} (h : ix (s_np S) p = some j) (hk : s_kd S j < 4) (hi : ix (many S j) i = none) : sp_set S p i v = (-6, S) := by unfold sp_set; rw [h]; simp only [if_neg (show ¬ 3 < s_kd S j by omega), hi]
theorem set_ok {S : zS} {p i v : Int32} {j ii : Nat} (h : ix (s_np S) p = some j) (hk : s_kd S j < 4) (hi : ix (many S j) i = some ii) : sp_set S p i v = (1, w_nu S (up2 (s_nu S) j ii (cutV (s_kd S j) v))) := by unfold sp_set; rw [h]; simp only [if_neg (show ¬ 3 < s_kd S j by omega), hi]
theorem pc3 {k : Nat} (h : isPc k = true) : 3 < k := by simp [isPc] at h; omega
theorem rw3 {k : Nat} (h : isRw k = true) : 3 < k := by simp [isRw] at h; omega
set_option maxRecDepth 100000 in
set_option maxHeartbeats 4000000 in
theorem c_X5_set (l : Launch) (G : zm_G) (A : Nat → Prop) (B : zB) (S : zS) (M : zm_M) (q i v : Int32) (hI : zInv S) (hR : RepC G B S M) : Met l yX5_set (zm_W yX5_set cX5_set 6 (some .int)) (zm_rm 2 0 0) (zm_Pc G [.ref B.1.1, .int q, .int i, .int v] A M) (zm_Q G (fun r M' => ∃ B', B'.1 = B.1 ∧ r = some (.int (sp_set S q i v).1) ∧ RepC G B' (sp_set S q i v).2 M') A) 0 0 A := by
  refine zm_start (by decide) (Nat.le_of_ble_eq_true rfl) ?_
  intro p e s m below meth c hx hb hml hr hts hown hlk hnm hE hA ls hl hM hS
  have hl : lv_has ls 6 [(0, .ref B.1.1), (1, .int q), (2, .int i), (3, .int v)] := hl
  refine lv_aload_n hx hb dX5_set_0 rfl (lv_at hl 0 rfl) ?_
  refine lv_iload_n hx hb dX5_set_1 rfl (lv_at hl 1 rfl) ?_
  refine zm_callV (As := [.int q]) (rest := []) hx hb hml hts hown hE hA hM hS hR.1 rfl (c_X5_find l G A B S _ q hI hR) cd_X5_find ml_X5_39 rfl rfl hl.1 (Nat.le_of_ble_eq_true rfl) ⟨Nat.le_of_ble_eq_true rfl, Nat.le_of_ble_eq_true rfl⟩ ⟨Nat.le_of_ble_eq_true rfl, Nat.le_of_ble_eq_true rfl⟩ dX5_set_2 ?_
  rintro r M1 H locs ⟨rfl, e1⟩ hM hS
  rw [e1] at hM
  clear e1 M1
  refine W.eq (g2 := F0 m 5 ls [va_rf (oA B (ix (s_np S) q))]) rfl ?_
  refine zq_astore (lv' := [(4, va_rf (oA B (ix (s_np S) q))), (0, .ref B.1.1), (1, .int q), (2, .int i), (3, .int v)]) hx hb dX5_set_5 hl (by decide) rfl (fun ls hl => ?_)
  refine zq_aload hx hb dX5_set_7 (lv_at hl 0 rfl) ?_
  refine zq_ifnonnull (tgt := 15) hx hb dX5_set_9 (by decide) (fun a9 c9 => ?_) (fun c9 => ?_)
  · obtain ⟨j, hix, rfl⟩ := oA_some c9
    have hj := ix_ho hI j hix
    rw [hix] at hl
    have hl : lv_has ls 6 [(4, .ref (B.2.1 j)), (0, .ref B.1.1), (1, .int q), (2, .int i), (3, .int v)] := hl
    refine lv_aload hx hb dX5_set_15 (lv_at hl 0 rfl) ?_
    rcases hR.at hI hj with ⟨hk, hc⟩ | ⟨hk, hc⟩ | ⟨hk, hc⟩
    · refine zm_instY hx hb hts hown hE hM hc rfl (by decide) clk_X5_43 dX5_set_17 ?_
      refine lv_if_eq (tgt := 33) hx hb dX5_set_20 (by decide) (fun c20 => ?_) (fun c20 => ?_)
      · exact absurd c20 (by decide)
      · refine lv_aload hx hb dX5_set_23 (lv_at hl 0 rfl) ?_
        refine zm_cast hx hb hts hown hE hM hc rfl (by decide) clk_X5_43 dX5_set_25 ?_
        refine lv_astore (lv' := [(5, .ref (B.2.1 j)), (4, .ref (B.2.1 j)), (0, .ref B.1.1), (1, .int q), (2, .int i), (3, .int v)]) hx hb dX5_set_28 hl (by decide) rfl (fun ls hl => ?_)
        refine lv_goto (tgt := 36) hx hb dX5_set_30 (by decide) ?_
        refine lv_aload hx hb dX5_set_36 (lv_at hl 0 rfl) ?_
        refine lv_iload_n hx hb dX5_set_38 rfl (lv_at hl 4 rfl) ?_
        refine lv_iload_n hx hb dX5_set_39 rfl (lv_at hl 5 rfl) ?_
        obtain ⟨f7, h7, e7⟩ := hR.2.2.2.2.2.2.2.1 j hj hk
        have hm := many15 hI hj hk
        refine zm_callV (As := [.int i, .int v]) (rest := []) hx hb hml hts hown hE hA hM hS hc rfl (c_X1_put l G A _ _ _ (s_kd S j) (many S j) (nI j) i v f7 hk (by omega) hc h7) cd_X1_put ml_X5_45 rfl rfl hl.1 (Nat.le_of_ble_eq_true rfl) ⟨Nat.le_of_ble_eq_true rfl, Nat.le_of_ble_eq_true rfl⟩ ⟨Nat.le_of_ble_eq_true rfl, Nat.le_of_ble_eq_true rfl⟩ dX5_set_40 ?_
        rintro r M1 H locs (⟨hii, rfl, rfl⟩ | ⟨ii, hii, rfl, rfl⟩) hM hS
        · refine W.eq (g2 := F0 m 43 ls [.int 0]) rfl ?_
          refine lv_if_eq (tgt := 50) hx hb dX5_set_43 (by decide) (fun c43 => ?_) (fun c43 => ?_)
          · refine lv_bipush (v := (-6)) hx hb dX5_set_50 (by decide) ?_
            refine zm_iret hx hb hr hlk hM hS ?_ ⟨Nat.le_refl _, Nat.le_refl _⟩ dX5_set_52
            exact ⟨B, rfl, by rw [set_ix hix hk hii], by rw [set_ix hix hk hii]; exact hR⟩
          · exact absurd rfl c43
        · refine W.eq (g2 := F0 m 43 ls [.int 1]) rfl ?_
          have hR2 := hR.num hI (i := ii) (v := cutV (s_kd S j) v) hj hk h7 e7
          refine lv_if_eq (tgt := 50) hx hb dX5_set_43 (by decide) (fun c43 => ?_) (fun c43 => ?_)
          · exact absurd c43 (by decide)
          · refine lv_iconst (v := 1) hx hb dX5_set_46 (by decide) ?_
            refine lv_goto (tgt := 52) hx hb dX5_set_47 (by decide) ?_
            refine zm_iret hx hb hr hlk hM hS ?_ ⟨Nat.le_refl _, Nat.le_refl _⟩ dX5_set_52
            exact ⟨B, rfl, by rw [set_ok hix hk hii], by rw [set_ok hix hk hii]; exact hR2⟩
    · refine zm_instN (nm := "PropStore$Numbers") hx hb hts hown hE hM hc rfl (by decide) clk_X5_43 dX5_set_17 ?_
      refine lv_if_eq (tgt := 33) hx hb dX5_set_20 (by decide) (fun c20 => ?_) (fun c20 => ?_)
      · refine lv_bipush (v := (-5)) hx hb dX5_set_33 (by decide) ?_
        refine zm_iret hx hb hr hlk hM hS ?_ ⟨Nat.le_refl _, Nat.le_refl _⟩ dX5_set_35
        first | exact ⟨B, rfl, by rw [set_cast hix (pc3 hk)], by rw [set_cast hix (pc3 hk)]; exact hR⟩ | exact ⟨B, rfl, by rw [set_cast hix (rw3 hk)], by rw [set_cast hix (rw3 hk)]; exact hR⟩
      · exact absurd rfl c20
    · refine zm_instN (nm := "PropStore$Numbers") hx hb hts hown hE hM hc rfl (by decide) clk_X5_43 dX5_set_17 ?_
      refine lv_if_eq (tgt := 33) hx hb dX5_set_20 (by decide) (fun c20 => ?_) (fun c20 => ?_)
      · refine lv_bipush (v := (-5)) hx hb dX5_set_33 (by decide) ?_
        refine zm_iret hx hb hr hlk hM hS ?_ ⟨Nat.le_refl _, Nat.le_refl _⟩ dX5_set_35
        first | exact ⟨B, rfl, by rw [set_cast hix (pc3 hk)], by rw [set_cast hix (pc3 hk)]; exact hR⟩ | exact ⟨B, rfl, by rw [set_cast hix (rw3 hk)], by rw [set_cast hix (rw3 hk)]; exact hR⟩
      · exact absurd rfl c20
  · have hix := oA_none c9
    refine lv_bipush (v := (-2)) hx hb dX5_set_12 (by decide) ?_
    refine zm_iret hx hb hr hlk hM hS ?_ ⟨Nat.le_refl _, Nat.le_refl _⟩ dX5_set_14
    exact ⟨B, rfl, by rw [set_bad hix], by rw [set_bad hix]; exact hR⟩
set_option maxRecDepth 100000 in
set_option maxHeartbeats 4000000 in
theorem c_X4_hasPlace (l : Launch) (G : zm_G) (A : Nat → Prop) (M : zm_M) (a q len : Nat) (n k i : Int32) (f : Nat → Option Nat) (hlen : len < 1000) (h0 : M a = some (.inr (3, [.int n, .int k, .ref q]))) (h1 : M q = some (zm_R G len f)) : Met l yX4_hasPlace (zm_W yX4_hasPlace cX4_hasPlace 2 (some .boolean)) (zm_rm 0 0 0) (zm_Pc G [.ref a, .int i] A M) (zm_Q G (fun r M' => r = some (.int (bI (ix len i).isSome)) ∧ M' = M) A) 0 0 A := by
  refine zm_start (by decide) (Nat.le_of_ble_eq_true rfl) ?_
  intro p e s m below meth c hx hb hml hr hts hown hlk hnm hE hA ls hl hM hS
  have hl : lv_has ls 2 [(0, .ref a), (1, .int i)] := hl
  refine lv_iload_n hx hb dX4_hasPlace_0 rfl (lv_at hl 1 rfl) ?_
  refine lv_if_lt (tgt := 17) hx hb dX4_hasPlace_1 (by decide) (fun c1 => ?_) (fun c1 => ?_)
  · refine lv_iconst (v := 0) hx hb dX4_hasPlace_17 (by decide) ?_
    refine zm_zret hx hb hr hlk hM hS (by first | exact Or.inl rfl | exact Or.inr rfl | exact bI_01 _) ?_ ⟨Nat.le_refl _, Nat.le_refl _⟩ dX4_hasPlace_18
    refine ⟨?_, rfl⟩
    first | (rw [ix_lt c1]; rfl) | (rw [ix_ge c10]; rfl) | (obtain ⟨j, -, -, e⟩ := ix_in (n := len) (by omega) c1 c10; rw [e]; rfl)
  · refine lv_iload_n hx hb dX4_hasPlace_4 rfl (lv_at hl 1 rfl) ?_
    refine lv_aload_n hx hb dX4_hasPlace_5 rfl (lv_at hl 0 rfl) ?_
    refine zm_get hx hb hts hown hE hM h0 fl_X4_7_3 rfl dX4_hasPlace_6 ?_
    refine zm_alenR hx hb hE hM h1 dX4_hasPlace_9 ?_
    refine lv_icmp_ge (tgt := 17) hx hb dX4_hasPlace_10 (by decide) (fun c10 => ?_) (fun c10 => ?_)
    · refine lv_iconst (v := 0) hx hb dX4_hasPlace_17 (by decide) ?_
      refine zm_zret hx hb hr hlk hM hS (by first | exact Or.inl rfl | exact Or.inr rfl | exact bI_01 _) ?_ ⟨Nat.le_refl _, Nat.le_refl _⟩ dX4_hasPlace_18
      refine ⟨?_, rfl⟩
      first | (rw [ix_lt c1]; rfl) | (rw [ix_ge c10]; rfl) | (obtain ⟨j, -, -, e⟩ := ix_in (n := len) (by omega) c1 c10; rw [e]; rfl)
    · refine lv_iconst (v := 1) hx hb dX4_hasPlace_13 (by decide) ?_
      refine lv_goto (tgt := 18) hx hb dX4_hasPlace_14 (by decide) ?_
      refine zm_zret hx hb hr hlk hM hS (by first | exact Or.inl rfl | exact Or.inr rfl | exact bI_01 _) ?_ ⟨Nat.le_refl _, Nat.le_refl _⟩ dX4_hasPlace_18
      refine ⟨?_, rfl⟩
      first | (rw [ix_lt c1]; rfl) | (rw [ix_ge c10]; rfl) | (obtain ⟨j, -, -, e⟩ := ix_in (n := len) (by omega) c1 c10; rw [e]; rfl)
set_option maxRecDepth 100000 in
set_option maxHeartbeats 4000000 in
theorem c_X5_is (l : Launch) (G : zm_G) (A : Nat → Prop) (B : zB) (S : zS) (M : zm_M) (q x : Int32) (hI : zInv S) (hR : RepC G B S M) : Met l yX5_is (zm_W yX5_is cX5_is 4 (some .int)) (zm_rm 2 0 0) (zm_Pc G [.ref B.1.1, .int q, .int x] A M) (zm_Q G (fun r M' => r = some (.int (sp_is S q x)) ∧ M' = M) A) 0 0 A := by
  refine zm_start (by decide) (Nat.le_of_ble_eq_true rfl) ?_
  intro p e s m below meth c hx hb hml hr hts hown hlk hnm hE hA ls hl hM hS
  have hl : lv_has ls 4 [(0, .ref B.1.1), (1, .int q), (2, .int x)] := hl
  refine lv_aload_n hx hb dX5_is_0 rfl (lv_at hl 0 rfl) ?_
  refine lv_iload_n hx hb dX5_is_1 rfl (lv_at hl 1 rfl) ?_
  refine zm_callV (As := [.int q]) (rest := []) hx hb hml hts hown hE hA hM hS hR.1 rfl (c_X5_find l G A B S _ q hI hR) cd_X5_find ml_X5_39 rfl rfl hl.1 (Nat.le_of_ble_eq_true rfl) ⟨Nat.le_of_ble_eq_true rfl, Nat.le_of_ble_eq_true rfl⟩ ⟨Nat.le_of_ble_eq_true rfl, Nat.le_of_ble_eq_true rfl⟩ dX5_is_2 ?_
  rintro r M1 H locs ⟨rfl, e1⟩ hM hS
  rw [e1] at hM
  clear e1 M1
  refine W.eq (g2 := F0 m 5 ls [va_rf (oA B (ix (s_np S) q))]) rfl ?_
  refine zq_astore_n (lv' := [(3, va_rf (oA B (ix (s_np S) q))), (0, .ref B.1.1), (1, .int q), (2, .int x)]) hx hb dX5_is_5 rfl hl (by decide) rfl (fun ls hl => ?_)
  refine zq_aload_n hx hb dX5_is_6 rfl (lv_at hl 0 rfl) ?_
  refine zq_ifnull (tgt := 17) hx hb dX5_is_7 (by decide) (fun c7 => ?_) (fun a7 c7 => ?_)
  · have hix := oA_none c7
    refine lv_bipush (v := (-2)) hx hb dX5_is_17 (by decide) ?_
    refine zm_iret hx hb hr hlk hM hS ?_ ⟨Nat.le_refl _, Nat.le_refl _⟩ dX5_is_19
    refine ⟨?_, rfl⟩
    unfold sp_is
    first | (rw [hix, isS_f c14]; done) | (rw [hix]; done)
  · obtain ⟨j, hix, rfl⟩ := oA_some c7
    have hj := ix_ho hI j hix
    rw [hix] at hl
    refine lv_iload_n hx hb dX5_is_10 rfl (lv_at hl 3 rfl) ?_
    refine zm_callS (As := [.int x]) (rest := []) hx hb hml hts hown hE hA hM hS (c_X5_isView l G A _ x) cd_X5_isView ml_X5_61 rfl rfl hl.1 (Nat.le_of_ble_eq_true rfl) ⟨Nat.le_of_ble_eq_true rfl, Nat.le_of_ble_eq_true rfl⟩ ⟨Nat.le_of_ble_eq_true rfl, Nat.le_of_ble_eq_true rfl⟩ dX5_is_11 ?_
    rintro r M1 H locs ⟨rfl, e1⟩ hM hS
    rw [e1] at hM
    clear e1 M1
    refine W.eq (g2 := F0 m 14 ls [.int (bI ((ix 17 x).isSome))]) rfl ?_
    refine lv_if_ne (tgt := 20) hx hb dX5_is_14 (by decide) (fun c14 => ?_) (fun c14 => ?_)
    · rw [bI_n] at c14
      obtain ⟨v, hiv⟩ := isS_t c14
      obtain ⟨hv, rfl⟩ := ix_some (by decide) hiv
      refine zq_aload_n hx hb dX5_is_20 rfl (lv_at hl 0 rfl) ?_
      refine lv_iload_n hx hb dX5_is_21 rfl (lv_at hl 3 rfl) ?_
      refine zm_callS (As := [va_rf (oA B (some j)), .int (nI v)]) (rest := []) hx hb hml hts hown hE hA hM hS (c_X5_goesAs l G A B S _ (some j) v (hv) hI hR (fun t ht => by cases ht; exact hj)) cd_X5_goesAs ml_X5_91 rfl rfl hl.1 (Nat.le_of_ble_eq_true rfl) ⟨Nat.le_of_ble_eq_true rfl, Nat.le_of_ble_eq_true rfl⟩ ⟨Nat.le_of_ble_eq_true rfl, Nat.le_of_ble_eq_true rfl⟩ dX5_is_22 ?_
      rintro r M1 H locs ⟨rfl, e1⟩ hM hS
      rw [e1] at hM
      clear e1 M1
      refine W.eq (g2 := F0 m 25 ls [.int (bI (goS S (some j) v))]) rfl ?_
      refine lv_if_eq (tgt := 32) hx hb dX5_is_25 (by decide) (fun c25 => ?_) (fun c25 => ?_)
      · rw [bI_0] at c25
        refine lv_iconst (v := 0) hx hb dX5_is_32 (by decide) ?_
        refine zm_iret hx hb hr hlk hM hS ?_ ⟨Nat.le_refl _, Nat.le_refl _⟩ dX5_is_33
        refine ⟨?_, rfl⟩
        unfold sp_is
        rw [hix, hiv]
        show some (Value.int _) = some (Value.int (bI (gA (s_kd S j) v)))
        first | (rw [show gA (s_kd S j) v = true from c25]; rfl) | (rw [show gA (s_kd S j) v = false from c25]; rfl)
      · rw [bI_n] at c25
        refine lv_iconst (v := 1) hx hb dX5_is_28 (by decide) ?_
        refine lv_goto (tgt := 33) hx hb dX5_is_29 (by decide) ?_
        refine zm_iret hx hb hr hlk hM hS ?_ ⟨Nat.le_refl _, Nat.le_refl _⟩ dX5_is_33
        refine ⟨?_, rfl⟩
        unfold sp_is
        rw [hix, hiv]
        show some (Value.int _) = some (Value.int (bI (gA (s_kd S j) v)))
        first | (rw [show gA (s_kd S j) v = true from c25]; rfl) | (rw [show gA (s_kd S j) v = false from c25]; rfl)
    · rw [bI_0] at c14
      refine lv_bipush (v := (-2)) hx hb dX5_is_17 (by decide) ?_
      refine zm_iret hx hb hr hlk hM hS ?_ ⟨Nat.le_refl _, Nat.le_refl _⟩ dX5_is_19
      refine ⟨?_, rfl⟩
      unfold sp_is
      first | (rw [hix, isS_f c14]; done) | (rw [hix]; done)
set_option maxRecDepth 100000 in
set_option maxHeartbeats 4000000 in
theorem c_X5_wear (l : Launch) (G : zm_G) (A : Nat → Prop) (B : zB) (S : zS) (M : zm_M) (q : Int32) (hI : zInv S) (hR : RepC G B S M) : Met l yX5_wear (zm_W yX5_wear cX5_wear 4 (some .int)) (zm_rm 1 0 0) (zm_Pc G [.ref B.1.1, .int q] A M) (zm_Q G (fun r M' => r = some (.int (sp_wear S q)) ∧ M' = M) A) 0 0 A := by
  refine zm_start (by decide) (Nat.le_of_ble_eq_true rfl) ?_
  intro p e s m below meth c hx hb hml hr hts hown hlk hnm hE hA ls hl hM hS
  have hl : lv_has ls 4 [(0, .ref B.1.1), (1, .int q)] := hl
  refine lv_aload_n hx hb dX5_wear_0 rfl (lv_at hl 0 rfl) ?_
  refine lv_iload_n hx hb dX5_wear_1 rfl (lv_at hl 1 rfl) ?_
  refine zm_callV (As := [.int q]) (rest := []) hx hb hml hts hown hE hA hM hS hR.1 rfl (c_X5_find l G A B S _ q hI hR) cd_X5_find ml_X5_39 rfl rfl hl.1 (Nat.le_of_ble_eq_true rfl) ⟨Nat.le_of_ble_eq_true rfl, Nat.le_of_ble_eq_true rfl⟩ ⟨Nat.le_of_ble_eq_true rfl, Nat.le_of_ble_eq_true rfl⟩ dX5_wear_2 ?_
  rintro r M1 H locs ⟨rfl, e1⟩ hM hS
  rw [e1] at hM
  clear e1 M1
  refine W.eq (g2 := F0 m 5 ls [va_rf (oA B (ix (s_np S) q))]) rfl ?_
  refine zq_astore_n (lv' := [(2, va_rf (oA B (ix (s_np S) q))), (0, .ref B.1.1), (1, .int q)]) hx hb dX5_wear_5 rfl hl (by decide) rfl (fun ls hl => ?_)
  refine zq_aload_n hx hb dX5_wear_6 rfl (lv_at hl 0 rfl) ?_
  refine zq_ifnonnull (tgt := 13) hx hb dX5_wear_7 (by decide) (fun a7 c7 => ?_) (fun c7 => ?_)
  · obtain ⟨j, hix, rfl⟩ := oA_some c7
    have hj := ix_ho hI j hix
    rw [hix] at hl
    have hl : lv_has ls 4 [(2, .ref (B.2.1 j)), (0, .ref B.1.1), (1, .int q)] := hl
    refine lv_aload_n hx hb dX5_wear_13 rfl (lv_at hl 0 rfl) ?_
    rcases hR.at hI hj with ⟨hk, hc⟩ | ⟨hk, hc⟩ | ⟨hk, hc⟩
    · refine zm_instN (nm := "PropStore$Piece") hx hb hts hown hE hM hc rfl (by decide) clk_X5_99 dX5_wear_14 ?_
      refine lv_if_eq (tgt := 34) hx hb dX5_wear_17 (by decide) (fun c17 => ?_) (fun c17 => ?_)
      · refine lv_bipush (v := (-5)) hx hb dX5_wear_34 (by decide) ?_
        refine zm_iret hx hb hr hlk hM hS ?_ ⟨Nat.le_refl _, Nat.le_refl _⟩ dX5_wear_36
        refine ⟨?_, rfl⟩
        unfold sp_wear
        rw [hix]
        skip
        first | (have h7 : s_kd S j = 7 := (nI_eq (b := 7) (by omega) (by omega)).mp c31; simp only [if_neg (show ¬ (4 ≤ s_kd S j ∧ s_kd S j ≤ 6) by omega)]) | simp only [if_neg (show ¬ (4 ≤ s_kd S j ∧ s_kd S j ≤ 6) by omega)]
      · exact absurd rfl c17
    · refine zm_instY hx hb hts hown hE hM hc rfl (by decide) clk_X5_99 dX5_wear_14 ?_
      refine lv_if_eq (tgt := 34) hx hb dX5_wear_17 (by decide) (fun c17 => ?_) (fun c17 => ?_)
      · exact absurd c17 (by decide)
      · refine lv_aload_n hx hb dX5_wear_20 rfl (lv_at hl 0 rfl) ?_
        refine zm_cast hx hb hts hown hE hM hc rfl (by decide) clk_X5_99 dX5_wear_21 ?_
        refine lv_astore_n (lv' := [(3, .ref (B.2.1 j)), (2, .ref (B.2.1 j)), (0, .ref B.1.1), (1, .int q)]) hx hb dX5_wear_24 rfl hl (by decide) rfl (fun ls hl => ?_)
        refine lv_aload_n hx hb dX5_wear_25 rfl (lv_at hl 0 rfl) ?_
        refine zm_get hx hb hts hown hE hM hc fl_X5_101_2 rfl dX5_wear_26 ?_
        refine lv_bipush (v := 7) hx hb dX5_wear_29 (by decide) ?_
        refine lv_icmp_ne (tgt := 37) hx hb dX5_wear_31 (by decide) (fun c31 => ?_) (fun c31 => ?_)
        · refine lv_aload_n hx hb dX5_wear_37 rfl (lv_at hl 0 rfl) ?_
          refine zm_get hx hb hts hown hE hM hc fl_X5_104_2 rfl dX5_wear_38 ?_
          refine zm_iret hx hb hr hlk hM hS ?_ ⟨Nat.le_refl _, Nat.le_refl _⟩ dX5_wear_41
          refine ⟨?_, rfl⟩
          unfold sp_wear
          rw [hix]
          simp only [isPc, Bool.and_eq_true, decide_eq_true_eq] at hk
          have h7 : s_kd S j ≠ 7 := fun q => c31 (by rw [q]; rfl)
          simp only [if_pos (show 4 ≤ s_kd S j ∧ s_kd S j ≤ 6 by omega)]
        · refine lv_bipush (v := (-5)) hx hb dX5_wear_34 (by decide) ?_
          refine zm_iret hx hb hr hlk hM hS ?_ ⟨Nat.le_refl _, Nat.le_refl _⟩ dX5_wear_36
          refine ⟨?_, rfl⟩
          unfold sp_wear
          rw [hix]
          simp only [isPc, isRw, Bool.and_eq_true, decide_eq_true_eq] at hk
          first | (have h7 : s_kd S j = 7 := (nI_eq (b := 7) (by omega) (by omega)).mp c31; simp only [if_neg (show ¬ (4 ≤ s_kd S j ∧ s_kd S j ≤ 6) by omega)]) | simp only [if_neg (show ¬ (4 ≤ s_kd S j ∧ s_kd S j ≤ 6) by omega)]
    · refine zm_instN (nm := "PropStore$Piece") hx hb hts hown hE hM hc rfl (by decide) clk_X5_99 dX5_wear_14 ?_
      refine lv_if_eq (tgt := 34) hx hb dX5_wear_17 (by decide) (fun c17 => ?_) (fun c17 => ?_)
      · refine lv_bipush (v := (-5)) hx hb dX5_wear_34 (by decide) ?_
        refine zm_iret hx hb hr hlk hM hS ?_ ⟨Nat.le_refl _, Nat.le_refl _⟩ dX5_wear_36
        refine ⟨?_, rfl⟩
        unfold sp_wear
        rw [hix]
        simp only [isPc, isRw, Bool.and_eq_true, decide_eq_true_eq] at hk
        first | (have h7 : s_kd S j = 7 := (nI_eq (b := 7) (by omega) (by omega)).mp c31; simp only [if_neg (show ¬ (4 ≤ s_kd S j ∧ s_kd S j ≤ 6) by omega)]) | simp only [if_neg (show ¬ (4 ≤ s_kd S j ∧ s_kd S j ≤ 6) by omega)]
      · exact absurd rfl c17
  · have hix := oA_none c7
    refine lv_bipush (v := (-2)) hx hb dX5_wear_10 (by decide) ?_
    refine zm_iret hx hb hr hlk hM hS ?_ ⟨Nat.le_refl _, Nat.le_refl _⟩ dX5_wear_12
    refine ⟨?_, rfl⟩
    unfold sp_wear
    rw [hix]
set_option maxRecDepth 100000 in
set_option maxHeartbeats 4000000 in
theorem c_X5_at (l : Launch) (G : zm_G) (A : Nat → Prop) (B : zB) (S : zS) (M : zm_M) (q i : Int32) (hI : zInv S) (hR : RepC G B S M) : Met l yX5_at (zm_W yX5_at cX5_at 5 (some .int)) (zm_rm 1 0 0) (zm_Pc G [.ref B.1.1, .int q, .int i] A M) (zm_Q G (fun r M' => r = some (.int (sp_at S q i)) ∧ M' = M) A) 0 0 A := by
  refine zm_start (by decide) (Nat.le_of_ble_eq_true rfl) ?_
  intro p e s m below meth c hx hb hml hr hts hown hlk hnm hE hA ls hl hM hS
  have hl : lv_has ls 5 [(0, .ref B.1.1), (1, .int q), (2, .int i)] := hl
  refine lv_aload_n hx hb dX5_at_0 rfl (lv_at hl 0 rfl) ?_
  refine lv_iload_n hx hb dX5_at_1 rfl (lv_at hl 1 rfl) ?_
  refine zm_callV (As := [.int q]) (rest := []) hx hb hml hts hown hE hA hM hS hR.1 rfl (c_X5_find l G A B S _ q hI hR) cd_X5_find ml_X5_39 rfl rfl hl.1 (Nat.le_of_ble_eq_true rfl) ⟨Nat.le_of_ble_eq_true rfl, Nat.le_of_ble_eq_true rfl⟩ ⟨Nat.le_of_ble_eq_true rfl, Nat.le_of_ble_eq_true rfl⟩ dX5_at_2 ?_
  rintro r M1 H locs ⟨rfl, e1⟩ hM hS
  rw [e1] at hM
  clear e1 M1
  refine W.eq (g2 := F0 m 5 ls [va_rf (oA B (ix (s_np S) q))]) rfl ?_
  refine zq_astore_n (lv' := [(3, va_rf (oA B (ix (s_np S) q))), (0, .ref B.1.1), (1, .int q), (2, .int i)]) hx hb dX5_at_5 rfl hl (by decide) rfl (fun ls hl => ?_)
  refine zq_aload_n hx hb dX5_at_6 rfl (lv_at hl 0 rfl) ?_
  refine zq_ifnonnull (tgt := 13) hx hb dX5_at_7 (by decide) (fun a7 c7 => ?_) (fun c7 => ?_)
  · obtain ⟨j, hix, rfl⟩ := oA_some c7
    have hj := ix_ho hI j hix
    rw [hix] at hl
    have hl : lv_has ls 5 [(3, .ref (B.2.1 j)), (0, .ref B.1.1), (1, .int q), (2, .int i)] := hl
    refine lv_aload_n hx hb dX5_at_13 rfl (lv_at hl 0 rfl) ?_
    rcases hR.at hI hj with ⟨hk, hc⟩ | ⟨hk, hc⟩ | ⟨hk, hc⟩
    · refine zm_instN (nm := "PropStore$Row") hx hb hts hown hE hM hc rfl (by decide) clk_X5_107 dX5_at_14 ?_
      refine lv_if_eq (tgt := 29) hx hb dX5_at_17 (by decide) (fun c17 => ?_) (fun c17 => ?_)
      · refine lv_bipush (v := (-5)) hx hb dX5_at_29 (by decide) ?_
        refine zm_iret hx hb hr hlk hM hS ?_ ⟨Nat.le_refl _, Nat.le_refl _⟩ dX5_at_31
        refine ⟨?_, rfl⟩
        unfold sp_at
        rw [hix]
        first | simp only [lt4_rw hk, Bool.false_eq_true, if_false] | simp only [pc_rw hk, Bool.false_eq_true, if_false]
      · exact absurd rfl c17
    · refine zm_instN (nm := "PropStore$Row") hx hb hts hown hE hM hc rfl (by decide) clk_X5_107 dX5_at_14 ?_
      refine lv_if_eq (tgt := 29) hx hb dX5_at_17 (by decide) (fun c17 => ?_) (fun c17 => ?_)
      · refine lv_bipush (v := (-5)) hx hb dX5_at_29 (by decide) ?_
        refine zm_iret hx hb hr hlk hM hS ?_ ⟨Nat.le_refl _, Nat.le_refl _⟩ dX5_at_31
        refine ⟨?_, rfl⟩
        unfold sp_at
        rw [hix]
        first | simp only [lt4_rw hk, Bool.false_eq_true, if_false] | simp only [pc_rw hk, Bool.false_eq_true, if_false]
      · exact absurd rfl c17
    · refine zm_instY hx hb hts hown hE hM hc rfl (by decide) clk_X5_107 dX5_at_14 ?_
      refine lv_if_eq (tgt := 29) hx hb dX5_at_17 (by decide) (fun c17 => ?_) (fun c17 => ?_)
      · exact absurd c17 (by decide)
      · refine lv_aload_n hx hb dX5_at_20 rfl (lv_at hl 0 rfl) ?_
        refine zm_cast hx hb hts hown hE hM hc rfl (by decide) clk_X5_107 dX5_at_21 ?_
        refine lv_astore (lv' := [(4, .ref (B.2.1 j)), (3, .ref (B.2.1 j)), (0, .ref B.1.1), (1, .int q), (2, .int i)]) hx hb dX5_at_24 hl (by decide) rfl (fun ls hl => ?_)
        refine lv_goto (tgt := 32) hx hb dX5_at_26 (by decide) ?_
        refine lv_aload hx hb dX5_at_32 (lv_at hl 0 rfl) ?_
        refine lv_iload_n hx hb dX5_at_34 rfl (lv_at hl 4 rfl) ?_
        obtain ⟨f6, h6, e6⟩ := hR.2.2.2.2.2.2.1 j hj hk
        have h5 := hI.sz5 hj (rw_pc hk)
        refine zm_callV (As := [.int i]) (rest := []) hx hb hml hts hown hE hA hM hS hc rfl (c_X4_hasPlace l G A _ _ _ (s_sz S j) (nI j) (nI (s_kd S j)) i f6 (by omega) hc h6) cd_X4_hasPlace ml_X5_109 rfl rfl hl.1 (Nat.le_of_ble_eq_true rfl) ⟨Nat.le_of_ble_eq_true rfl, Nat.le_of_ble_eq_true rfl⟩ ⟨Nat.le_of_ble_eq_true rfl, Nat.le_of_ble_eq_true rfl⟩ dX5_at_35 ?_
        rintro r M1 H locs ⟨rfl, e1⟩ hM hS
        rw [e1] at hM
        clear e1 M1
        refine W.eq (g2 := F0 m 38 ls [.int (bI (ix (s_sz S j) i).isSome)]) rfl ?_
        refine lv_if_eq (tgt := 54) hx hb dX5_at_38 (by decide) (fun c38 => ?_) (fun c38 => ?_)
        · rw [bI_0] at c38
          have hii := isS_f c38
          refine lv_bipush (v := (-6)) hx hb dX5_at_54 (by decide) ?_
          refine zm_iret hx hb hr hlk hM hS ?_ ⟨Nat.le_refl _, Nat.le_refl _⟩ dX5_at_56
          refine ⟨?_, rfl⟩
          unfold sp_at
          rw [hix]
          simp only [if_pos hk]
          rw [hii]
        · rw [bI_n] at c38
          obtain ⟨ii, hii⟩ := isS_t c38
          obtain ⟨hi, rfl⟩ := ix_some (by omega) hii
          have h8 : 8 ≤ s_kd S j := by simp [isRw] at hk; omega
          refine lv_aload hx hb dX5_at_41 (lv_at hl 0 rfl) ?_
          refine zm_get hx hb hts hown hE hM hc fl_X5_112_3 rfl dX5_at_43 ?_
          refine lv_iload_n hx hb dX5_at_46 rfl (lv_at hl 4 rfl) ?_
          refine zm_aldR hx hb hE hM h6 (vp_in_nI hi (by omega)) dX5_at_47 ?_
          refine zt_eq (v' := va_rf (oA B (s_th S j ii))) (by rw [nI_clamp (by omega), e6 ii hi]) ?_
          refine zm_callS (As := [va_rf (oA B (s_th S j ii))]) (rest := []) hx hb hml hts hown hE hA hM hS (c_X5_numberOf l G A B S _ (s_th S j ii) hR (fun t ht => (hI.2.2.2.1 j hj h8 ii t hi ht).1)) cd_X5_numberOf ml_X5_53 rfl rfl hl.1 (Nat.le_of_ble_eq_true rfl) ⟨Nat.le_of_ble_eq_true rfl, Nat.le_of_ble_eq_true rfl⟩ ⟨Nat.le_of_ble_eq_true rfl, Nat.le_of_ble_eq_true rfl⟩ dX5_at_48 ?_
          rintro r M1 H locs ⟨rfl, e1⟩ hM hS
          rw [e1] at hM
          clear e1 M1
          refine W.eq (g2 := F0 m 51 ls [.int (oI (s_th S j ii))]) rfl ?_
          refine lv_goto (tgt := 56) hx hb dX5_at_51 (by decide) ?_
          refine zm_iret hx hb hr hlk hM hS ?_ ⟨Nat.le_refl _, Nat.le_refl _⟩ dX5_at_56
          refine ⟨?_, rfl⟩
          unfold sp_at
          rw [hix]
          simp only [if_pos hk]
          rw [hii]
  · have hix := oA_none c7
    refine lv_bipush (v := (-2)) hx hb dX5_at_10 (by decide) ?_
    refine zm_iret hx hb hr hlk hM hS ?_ ⟨Nat.le_refl _, Nat.le_refl _⟩ dX5_at_12
    refine ⟨?_, rfl⟩
    unfold sp_at
    rw [hix]
set_option maxRecDepth 100000 in
set_option maxHeartbeats 4000000 in
theorem c_X5_count (l : Launch) (G : zm_G) (A : Nat → Prop) (B : zB) (S : zS) (M : zm_M) (w : Int32) (hI : zInv S) (hR : RepC G B S M) : Met l yX5_count (zm_W yX5_count cX5_count 2 (some .int)) (zm_rm 0 0 0) (zm_Pc G [.ref B.1.1, .int w] A M) (zm_Q G (fun r M' => r = some (.int (sp_count S w)) ∧ M' = M) A) 0 0 A := by
  refine zm_start (by decide) (Nat.le_of_ble_eq_true rfl) ?_
  intro p e s m below meth c hx hb hml hr hts hown hlk hnm hE hA ls hl hM hS
  have hl : lv_has ls 2 [(0, .ref B.1.1), (1, .int w)] := hl
  refine lv_iload_n hx hb dX5_count_0 rfl (lv_at hl 1 rfl) ?_
  rcases (show w = 0 ∨ w = 1 ∨ (¬ w = 0 ∧ ¬ w = 1) by by_cases h0 : w = 0 <;> by_cases h1 : w = 1 <;> simp [h0, h1]) with hw | hw | ⟨h0, h1⟩
  · subst hw
    have hl : lv_has ls 2 [(0, .ref B.1.1), (1, .int 0)] := hl
    refine lv_lookup (off := 27) (tgt := 28) hx hb dX5_count_1 (by decide) (by decide) (by decide) ?_
    refine lv_aload_n hx hb dX5_count_28 rfl (lv_at hl 0 rfl) ?_
    refine zm_get hx hb hts hown hE hM hR.1 fl_X5_32_4 rfl dX5_count_29 ?_
    refine zm_iret hx hb hr hlk hM hS ?_ ⟨Nat.le_refl _, Nat.le_refl _⟩ dX5_count_32
    exact ⟨rfl, rfl⟩
  · subst hw
    have hl : lv_has ls 2 [(0, .ref B.1.1), (1, .int 1)] := hl
    refine lv_lookup (off := 32) (tgt := 33) hx hb dX5_count_1 (by decide) (by decide) (by decide) ?_
    refine lv_aload_n hx hb dX5_count_33 rfl (lv_at hl 0 rfl) ?_
    refine zm_get hx hb hts hown hE hM hR.1 fl_X5_71_4 rfl dX5_count_34 ?_
    refine zm_iret hx hb hr hlk hM hS ?_ ⟨Nat.le_refl _, Nat.le_refl _⟩ dX5_count_37
    exact ⟨rfl, rfl⟩
  · refine lv_lookup (off := 37) (tgt := 38) hx hb dX5_count_1 (by decide) (by show Op.lookupswitch.offset [(0, 27), (1, 32)] 37 w.toInt = 37; rw [lv_osw h0 (by decide), lv_osw h1 (by decide)]; rfl) (by decide) ?_
    refine lv_bipush (v := (-2)) hx hb dX5_count_38 (by decide) ?_
    refine zm_iret hx hb hr hlk hM hS ?_ ⟨Nat.le_refl _, Nat.le_refl _⟩ dX5_count_40
    refine ⟨?_, rfl⟩
    unfold sp_count
    rw [if_neg h0, if_neg h1]
set_option maxRecDepth 100000 in
set_option maxHeartbeats 4000000 in
theorem c_X5_miscue (l : Launch) (G : zm_G) (A : Nat → Prop) (B : zB) (S : zS) (M : zm_M) (w : Int32) (hI : zInv S) (hR : RepC G B S M) : Met l yX5_miscue (zm_W yX5_miscue cX5_miscue 2 (some .int)) (zm_rm 0 0 0) (zm_Pc G [.ref B.1.1, .int w] A M) (zm_Q G (fun r M' => r = some (.int (sp_miscue S w)) ∧ M' = M) A) 0 0 A := by
  refine zm_start (by decide) (Nat.le_of_ble_eq_true rfl) ?_
  intro p e s m below meth c hx hb hml hr hts hown hlk hnm hE hA ls hl hM hS
  have hl : lv_has ls 2 [(0, .ref B.1.1), (1, .int w)] := hl
  refine lv_iload_n hx hb dX5_miscue_0 rfl (lv_at hl 1 rfl) ?_
  rcases (show w = 0 ∨ w = 1 ∨ w = 2 ∨ (¬ w = 0 ∧ ¬ w = 1 ∧ ¬ w = 2) by by_cases h0 : w = 0 <;> by_cases h1 : w = 1 <;> by_cases h2 : w = 2 <;> simp [h0, h1, h2]) with hw | hw | hw | ⟨h0, h1, h2⟩
  · subst hw
    have hl : lv_has ls 2 [(0, .ref B.1.1), (1, .int 0)] := hl
    refine lv_tableIn (off := 27) (tgt := 28) hx hb dX5_miscue_1 (by decide) (by decide) rfl (by decide) ?_
    refine lv_aload_n hx hb dX5_miscue_28 rfl (lv_at hl 0 rfl) ?_
    refine zm_get hx hb hts hown hE hM hR.1 fl_X5_77_4 rfl dX5_miscue_29 ?_
    refine zm_iret hx hb hr hlk hM hS ?_ ⟨Nat.le_refl _, Nat.le_refl _⟩ dX5_miscue_32
    exact ⟨rfl, rfl⟩
  · subst hw
    have hl : lv_has ls 2 [(0, .ref B.1.1), (1, .int 1)] := hl
    refine lv_tableIn (off := 32) (tgt := 33) hx hb dX5_miscue_1 (by decide) (by decide) rfl (by decide) ?_
    refine lv_aload_n hx hb dX5_miscue_33 rfl (lv_at hl 0 rfl) ?_
    refine zm_get hx hb hts hown hE hM hR.1 fl_X5_24_4 rfl dX5_miscue_34 ?_
    refine zm_iret hx hb hr hlk hM hS ?_ ⟨Nat.le_refl _, Nat.le_refl _⟩ dX5_miscue_37
    exact ⟨rfl, rfl⟩
  · subst hw
    have hl : lv_has ls 2 [(0, .ref B.1.1), (1, .int 2)] := hl
    refine lv_tableIn (off := 37) (tgt := 38) hx hb dX5_miscue_1 (by decide) (by decide) rfl (by decide) ?_
    refine lv_aload_n hx hb dX5_miscue_38 rfl (lv_at hl 0 rfl) ?_
    refine zm_get hx hb hts hown hE hM hR.1 fl_X5_84_4 rfl dX5_miscue_39 ?_
    refine zm_iret hx hb hr hlk hM hS ?_ ⟨Nat.le_refl _, Nat.le_refl _⟩ dX5_miscue_42
    exact ⟨rfl, rfl⟩
  · refine lv_tableOut (tgt := 43) hx hb dX5_miscue_1 ?_ (by decide) ?_
    · have := lv_neT h0 (a := 0) (by decide); have := lv_neT h1 (a := 1) (by decide); have := lv_neT h2 (a := 2) (by decide); omega
    refine lv_bipush (v := (-2)) hx hb dX5_miscue_43 (by decide) ?_
    refine zm_iret hx hb hr hlk hM hS ?_ ⟨Nat.le_refl _, Nat.le_refl _⟩ dX5_miscue_45
    refine ⟨?_, rfl⟩
    unfold sp_miscue
    rw [if_neg h0, if_neg h1, if_neg h2]
set_option maxRecDepth 100000 in
set_option maxHeartbeats 4000000 in
theorem c_X5_points (l : Launch) (G : zm_G) (A : Nat → Prop) (B : zB) (S : zS) (M : zm_M) (hI : zInv S) (hR : RepC G B S M) : Met l yX5_points (zm_W yX5_points cX5_points 1 (some .long)) (zm_rm 0 0 0) (zm_Pc G [.ref B.1.1] A M) (zm_Q G (fun r M' => r = some (.long (s_po S)) ∧ M' = M) A) 0 0 A := by
  refine zm_start (by decide) (Nat.le_of_ble_eq_true rfl) ?_
  intro p e s m below meth c hx hb hml hr hts hown hlk hnm hE hA ls hl hM hS
  have hl : lv_has ls 1 [(0, .ref B.1.1)] := hl
  refine lv_aload_n hx hb dX5_points_0 rfl (lv_at hl 0 rfl) ?_
  refine zm_get hx hb hts hown hE hM hR.1 fl_X5_87_4 rfl dX5_points_1 ?_
  refine zm_lret hx hb hr hlk hM hS ?_ ⟨Nat.le_refl _, Nat.le_refl _⟩ dX5_points_4
  exact ⟨rfl, rfl⟩
set_option maxRecDepth 100000 in
set_option maxHeartbeats 4000000 in
theorem c_X5_strike (l : Launch) (G : zm_G) (A : Nat → Prop) (B : zB) (S : zS) (M : zm_M) (hI : zInv S) (hR : RepC G B S M) : Met l yX5_strike (zm_W yX5_strike cX5_strike 2 (some .int)) (zm_rm 0 0 0) (zm_Pc G [.ref B.1.1] A M) (zm_Q G (fun r M' => ∃ B', B'.1 = B.1 ∧ r = some (.int (nI (s_nc S))) ∧ RepC G B' (w_nc S 0) M') A) 0 0 A := by
  refine zm_start (by decide) (Nat.le_of_ble_eq_true rfl) ?_
  intro p e s m below meth c hx hb hml hr hts hown hlk hnm hE hA ls hl hM hS
  have hl : lv_has ls 2 [(0, .ref B.1.1)] := hl
  refine lv_aload_n hx hb dX5_strike_0 rfl (lv_at hl 0 rfl) ?_
  refine zm_get hx hb hts hown hE hM hR.1 fl_X5_71_4 rfl dX5_strike_1 ?_
  refine lv_istore_n (lv' := [(1, .int (nI (s_nc S))), (0, .ref B.1.1)]) hx hb dX5_strike_4 rfl hl (by decide) rfl (fun ls hl => ?_)
  refine lv_aload_n hx hb dX5_strike_5 rfl (lv_at hl 1 rfl) ?_
  refine lv_iconst (v := 0) hx hb dX5_strike_6 (by decide) ?_
  refine zm_put hx hb hts hown hE hM hS hR.1 fp_X5_71_4 rfl rfl (Nat.le_of_ble_eq_true rfl) dX5_strike_7 (fun H locs hM hS => ?_)
  have hR2 := hR.fld (S' := w_nc S 0) rfl rfl rfl rfl (Nat.zero_le _) rfl
  refine lv_iload_n hx hb dX5_strike_10 rfl (lv_at hl 0 rfl) ?_
  refine zm_iret hx hb hr hlk hM hS ?_ ⟨Nat.le_refl _, Nat.le_refl _⟩ dX5_strike_11
  exact ⟨B, rfl, rfl, hR2⟩
