set_option maxRecDepth 100000 in
set_option maxHeartbeats 4000000 in
theorem c_X6_wearRow (l : Launch) (G : zm_G) (A : Nat → Prop) (q : Nat → Nat) (S : zS) (M : zm_M) (j : Nat) (hj : j < s_np S) (hk8 : 8 ≤ s_kd S j) (hI : zInv S) (hR : RepR G q S M) : Met l yX6_wearRow (zm_W yX6_wearRow cX6_wearRow 4 none) (zm_rm 0 0 0) (zm_Pc G [.ref (q 0), .int (nI j)] A M) (zm_Q G (fun r M' => r = none ∧ RepR G q (w_wr S (wrR S j (s_wr S) (s_sz S j))) M') A) 0 0 A := by
  refine zm_start (by decide) (Nat.le_of_ble_eq_true rfl) ?_
  intro p e s m below meth c hx hb hml hr hts hown hlk hnm hE hA ls hl hM hS
  have hl : lv_has ls 4 [(0, .ref (q 0)), (1, .int (nI j))] := hl
  obtain ⟨f, g, hZ, hAb⟩ := hR
  have hnp := hI.1
  have hncc := hI.2.1
  have hrw := rw_of hk8 (by have := (hI.2.2.1 j hj).1; omega)
  have hm := hI.sz5 hj (rw_pc hrw)
  refine lv_iconst (v := 0) hx hb dX6_wearRow_0 (by decide) ?_
  refine lv_istore_n (lv' := [(2, .int 0), (0, .ref (q 0)), (1, .int (nI j))]) hx hb dX6_wearRow_1 rfl hl (by decide) rfl (fun ls hl => ?_)
  have loop : ∀ (n k : Nat), k ≤ s_sz S j → s_sz S j + 1 ≤ k + n → ∀ (ls : Array Slot) (M : zm_M) (H : Heap) (locs : List Loc), RepR G q (w_wr S (wrR S j (s_wr S) k)) M → zm_P G A M H → va_S A s.heap H locs → lv_has ls 4 [(2, .int (nI k)), (0, .ref (q 0)), (1, .int (nI j))] → W p l e (zm_rm 0 0 0) s m [.ref (q 0), .int (nI j)].toArray below meth c H locs 0 0 (MQ below (zm_Q G (fun r M' => r = none ∧ RepR G q (w_wr S (wrR S j (s_wr S) (s_sz S j))) M') A) [.ref (q 0), .int (nI j)].toArray s 0 0 A) (F0 m 2 ls []) := by
    intro n
    induction n with
    | zero => intro k h1 h2; exact absurd h2 (by omega)
    | succ n ih =>
      intro k hk1 hk2 ls M H locs hRk hM hS hl
      obtain ⟨f, g, hZ, hAb⟩ := hRk
      refine lv_iload_n hx hb dX6_wearRow_2 rfl (lv_at hl 0 rfl) ?_
      refine lv_aload_n hx hb dX6_wearRow_3 rfl (lv_at hl 1 rfl) ?_
      refine zm_get hx hb hts hown hE hM hZ.2.1 fl_X6_13_5 rfl dX6_wearRow_4 ?_
      refine lv_iload_n hx hb dX6_wearRow_7 rfl (lv_at hl 2 rfl) ?_
      refine zm_iald hx hb hE hM (hZ.ar 2) (vp_in_nI (show j < 50 by omega) (by decide)) dX6_wearRow_8 ?_
      refine zt_eq (v' := .int (nI (s_sz S j))) (by rw [nI_clamp (by omega)]; exact congrArg Value.int ((hAb.1 j hj).2.1)) ?_
      refine lv_icmp_ge (tgt := 44) hx hb dX6_wearRow_9 (by decide) (fun c9 => ?_) (fun c9 => ?_)
      · have hkk : k = s_sz S j := by have := (nI_leI (by omega) (by omega)).mp c9; omega
        refine zm_vret hx hb hr hlk hM hS ?_ ⟨Nat.le_refl _, Nat.le_refl _⟩ dX6_wearRow_44
        exact ⟨rfl, by rw [← hkk]; exact ⟨f, g, hZ, hAb⟩⟩
      · have hkk : k < s_sz S j := by rw [nI_leI (by omega) (by omega)] at c9; omega
        refine lv_aload_n hx hb dX6_wearRow_12 rfl (lv_at hl 1 rfl) ?_
        refine zm_get hx hb hts hown hE hM hZ.2.1 fl_X6_23_5 rfl dX6_wearRow_13 ?_
        refine lv_iconst (v := 5) hx hb dX6_wearRow_16 (by decide) ?_
        refine lv_iload_n hx hb dX6_wearRow_17 rfl (lv_at hl 2 rfl) ?_
        refine lv_imul hx hb dX6_wearRow_18 ?_
        refine lv_iload_n hx hb dX6_wearRow_19 rfl (lv_at hl 0 rfl) ?_
        refine lv_iadd hx hb dX6_wearRow_20 ?_
        refine zt_eq (v' := .int (nI (5 * j + k))) (congrArg Value.int (idx5 j k)) ?_
        refine zm_iald hx hb hE hM (hZ.ar 5) (vp_in_nI (show 5 * j + k < 250 by omega) (by decide)) dX6_wearRow_21 ?_
        refine zt_eq (v' := .int (oI (s_th S j k))) (by rw [nI_clamp (by omega)]; exact congrArg Value.int (hAb.2.2.1 j k hj (by omega))) ?_
        refine lv_istore_n (lv' := [(3, .int (oI (s_th S j k))), (2, .int (nI k)), (0, .ref (q 0)), (1, .int (nI j))]) hx hb dX6_wearRow_22 rfl hl (by decide) rfl (fun ls hl => ?_)
        refine lv_iload_n hx hb dX6_wearRow_23 rfl (lv_at hl 0 rfl) ?_
        refine lv_iconst (v := (-1)) hx hb dX6_wearRow_24 (by decide) ?_
        refine lv_icmp_eq (tgt := 38) hx hb dX6_wearRow_25 (by decide) (fun c25 => ?_) (fun c25 => ?_)
        · have hth : s_th S j k = none := (oI_m1 (fun t ht => by have := (hI.2.2.2.1 j hj (by omega) k t hkk ht).1; omega)).mp c25
          have hRn : RepR G q (w_wr S (wrR S j (s_wr S) (k + 1))) M := by show RepR G q (w_wr S (wInc (wrR S j (s_wr S) k) (s_th S j k))) M; rw [hth]; exact ⟨f, g, hZ, hAb⟩
          refine lv_iinc (v := nI (k + 1)) (lv' := [(2, .int (nI (k + 1))), (3, .int (oI (s_th S j k))), (0, .ref (q 0)), (1, .int (nI j))]) hx hb dX6_wearRow_38 hl (k := 1) rfl (nI_1 k) (by decide) rfl (fun ls hl => ?_)
          refine lv_goto (tgt := 2) hx hb dX6_wearRow_41 (by decide) ?_
          exact ih (k + 1) (by omega) (by omega) ls _ _ _ hRn hM hS (lv_sub hl [0, 2, 3] rfl)
        · obtain ⟨t, hth⟩ := oI_some c25
          rw [hth] at hl
          have hl : lv_has ls 4 [(3, .int (nI t)), (2, .int (nI k)), (0, .ref (q 0)), (1, .int (nI j))] := hl
          obtain ⟨htn, hga⟩ := hI.2.2.2.1 j hj (by omega) k t hkk hth
          refine lv_aload_n hx hb dX6_wearRow_28 rfl (lv_at hl 2 rfl) ?_
          refine zm_get hx hb hts hown hE hM hZ.2.1 fl_X6_16_5 rfl dX6_wearRow_29 ?_
          refine lv_iload_n hx hb dX6_wearRow_32 rfl (lv_at hl 0 rfl) ?_
          refine lv_dup2_11 hx hb dX6_wearRow_33 rfl rfl ?_
          refine zm_iald hx hb hE hM (hZ.ar 3) (vp_in_nI (show t < 50 by omega) (by decide)) dX6_wearRow_34 ?_
          refine zt_eq (v' := .int ((wrR S j (s_wr S) k) t)) (by rw [nI_clamp (by omega)]; exact congrArg Value.int (hAb.1 t htn).2.2) ?_
          refine lv_iconst (v := 1) hx hb dX6_wearRow_35 (by decide) ?_
          refine lv_iadd hx hb dX6_wearRow_36 ?_
          refine zm_iast hx hb hE hM hS (hZ.ar 3) (vp_in_nI (show t < 50 by omega) (by decide)) dX6_wearRow_37 (fun H locs hM hS => ?_)
          rw [nI_clamp (by omega)] at hM
          have hRn : RepR G q (w_wr S (upd (wrR S j (s_wr S) k) t ((wrR S j (s_wr S) k) t + 1))) _ := ⟨_, _, hZ.arr 3 (upd (f 3) t ((wrR S j (s_wr S) k) t + 1)), abs_wr hAb t ((wrR S j (s_wr S) k) t + 1)⟩
          have e3 : wrR S j (s_wr S) (k + 1) = upd (wrR S j (s_wr S) k) t ((wrR S j (s_wr S) k) t + 1) := by show wInc (wrR S j (s_wr S) k) (s_th S j k) = _; rw [hth]; rfl
          rw [← e3] at hRn
          refine lv_iinc (v := nI (k + 1)) (lv' := [(2, .int (nI (k + 1))), (3, .int (nI t)), (0, .ref (q 0)), (1, .int (nI j))]) hx hb dX6_wearRow_38 hl (k := 1) rfl (nI_1 k) (by decide) rfl (fun ls hl => ?_)
          refine lv_goto (tgt := 2) hx hb dX6_wearRow_41 (by decide) ?_
          exact ih (k + 1) (by omega) (by omega) ls _ _ _ hRn hM hS (lv_sub hl [0, 2, 3] rfl)
  exact loop (s_sz S j + 1) 0 (Nat.zero_le _) (by omega) ls _ _ _ ⟨f, g, hZ, hAb⟩ hM hS (lv_sub hl [0, 1, 2] rfl)
set_option maxRecDepth 100000 in
set_option maxHeartbeats 4000000 in
theorem c_X6_wearAll (l : Launch) (G : zm_G) (A : Nat → Prop) (q : Nat → Nat) (S : zS) (M : zm_M) (j : Nat) (hj : j < s_np S) (hk4 : 4 ≤ s_kd S j) (hI : zInv S) (hR : RepR G q S M) : Met l yX6_wearAll (zm_W yX6_wearAll cX6_wearAll 4 none) (zm_rm 2 0 0) (zm_Pc G [.ref (q 0), .int (nI j)] A M) (zm_Q G (fun r M' => r = none ∧ RepR G q (w_wr S (wAll S j)) M') A) 0 0 A := by
  refine zm_start (by decide) (Nat.le_of_ble_eq_true rfl) ?_
  intro p e s m below meth c hx hb hml hr hts hown hlk hnm hE hA ls hl hM hS
  have hl : lv_has ls 4 [(0, .ref (q 0)), (1, .int (nI j))] := hl
  obtain ⟨f, g, hZ, hAb⟩ := hR
  have hnp := hI.1
  have hncc := hI.2.1
  have h16 := (hI.2.2.1 j hj).1
  refine lv_aload_n hx hb dX6_wearAll_0 rfl (lv_at hl 0 rfl) ?_
  refine zm_get hx hb hts hown hE hM hZ.2.1 fl_X6_7_5 rfl dX6_wearAll_1 ?_
  refine lv_iload_n hx hb dX6_wearAll_4 rfl (lv_at hl 1 rfl) ?_
  refine zm_iald hx hb hE hM (hZ.ar 1) (vp_in_nI (show j < 50 by omega) (by decide)) dX6_wearAll_5 ?_
  refine zt_eq (v' := .int (nI (s_kd S j))) (by rw [nI_clamp (by omega)]; exact congrArg Value.int ((hAb.1 j hj).1)) ?_
  refine zm_callS (As := [.int (nI (s_kd S j))]) (rest := []) hx hb hml hts hown hE hA hM hS (c_X6_isSingle l G A _ (nI (s_kd S j))) cd_X6_isSingle ml_X6_59 rfl rfl hl.1 (Nat.le_of_ble_eq_true rfl) ⟨Nat.le_of_ble_eq_true rfl, Nat.le_of_ble_eq_true rfl⟩ ⟨Nat.le_of_ble_eq_true rfl, Nat.le_of_ble_eq_true rfl⟩ dX6_wearAll_6 ?_
  rintro r M1 H locs ⟨rfl, e1⟩ hM hS
  rw [e1] at hM
  clear e1 M1
  refine W.eq (g2 := F0 m 9 ls [.int (bI (zbt 4 7 (nI (s_kd S j))))]) rfl ?_
  refine lv_if_eq (tgt := 25) hx hb dX6_wearAll_9 (by decide) (fun c9 => ?_) (fun c9 => ?_)
  · rw [zbt_pc _ h16, bI_0] at c9
    refine lv_aload_n hx hb dX6_wearAll_25 rfl (lv_at hl 0 rfl) ?_
    refine zm_get hx hb hts hown hE hM hZ.2.1 fl_X6_7_5 rfl dX6_wearAll_26 ?_
    refine lv_iload_n hx hb dX6_wearAll_29 rfl (lv_at hl 1 rfl) ?_
    refine zm_iald hx hb hE hM (hZ.ar 1) (vp_in_nI (show j < 50 by omega) (by decide)) dX6_wearAll_30 ?_
    refine zt_eq (v' := .int (nI (s_kd S j))) (by rw [nI_clamp (by omega)]; exact congrArg Value.int ((hAb.1 j hj).1)) ?_
    refine lv_bipush (v := 13) hx hb dX6_wearAll_31 (by decide) ?_
    refine lv_icmp_ge (tgt := 44) hx hb dX6_wearAll_33 (by decide) (fun c33 => ?_) (fun c33 => ?_)
    · rw [show (13 : Int32) = nI 13 from rfl, nI_leI (by omega) (by omega)] at c33
      have h13 : 13 ≤ s_kd S j := c33
      have hm := hI.sz5 hj c9
      refine lv_iconst (v := 0) hx hb dX6_wearAll_44 (by decide) ?_
      refine lv_istore_n (lv' := [(2, .int 0), (0, .ref (q 0)), (1, .int (nI j))]) hx hb dX6_wearAll_45 rfl hl (by decide) rfl (fun ls hl => ?_)
      have loop : ∀ (n k : Nat), k ≤ s_sz S j → s_sz S j + 1 ≤ k + n → ∀ (ls : Array Slot) (M : zm_M) (H : Heap) (locs : List Loc), RepR G q (w_wr S (wrS S j (s_wr S) k)) M → zm_P G A M H → va_S A s.heap H locs → lv_has ls 4 [(2, .int (nI k)), (0, .ref (q 0)), (1, .int (nI j))] → W p l e (zm_rm 2 0 0) s m [.ref (q 0), .int (nI j)].toArray below meth c H locs 0 0 (MQ below (zm_Q G (fun r M' => r = none ∧ RepR G q (w_wr S (wAll S j)) M') A) [.ref (q 0), .int (nI j)].toArray s 0 0 A) (F0 m 46 ls []) := by
        intro n
        induction n with
        | zero => intro k h1 h2; exact absurd h2 (by omega)
        | succ n ih =>
          intro k hk1 hk2 ls M H locs hRk hM hS hl
          obtain ⟨f, g, hZ, hAb⟩ := hRk
          refine lv_iload_n hx hb dX6_wearAll_46 rfl (lv_at hl 0 rfl) ?_
          refine lv_aload_n hx hb dX6_wearAll_47 rfl (lv_at hl 1 rfl) ?_
          refine zm_get hx hb hts hown hE hM hZ.2.1 fl_X6_13_5 rfl dX6_wearAll_48 ?_
          refine lv_iload_n hx hb dX6_wearAll_51 rfl (lv_at hl 2 rfl) ?_
          refine zm_iald hx hb hE hM (hZ.ar 2) (vp_in_nI (show j < 50 by omega) (by decide)) dX6_wearAll_52 ?_
          refine zt_eq (v' := .int (nI (s_sz S j))) (by rw [nI_clamp (by omega)]; exact congrArg Value.int ((hAb.1 j hj).2.1)) ?_
          refine lv_icmp_ge (tgt := 83) hx hb dX6_wearAll_53 (by decide) (fun c53 => ?_) (fun c53 => ?_)
          · have hkk : k = s_sz S j := by have := (nI_leI (by omega) (by omega)).mp c53; omega
            refine zm_vret hx hb hr hlk hM hS ?_ ⟨Nat.le_refl _, Nat.le_refl _⟩ dX6_wearAll_83
            exact ⟨rfl, by rw [wAll_r2 h13, ← hkk]; exact ⟨f, g, hZ, hAb⟩⟩
          · have hkk : k < s_sz S j := by rw [nI_leI (by omega) (by omega)] at c53; omega
            refine lv_aload_n hx hb dX6_wearAll_56 rfl (lv_at hl 1 rfl) ?_
            refine zm_get hx hb hts hown hE hM hZ.2.1 fl_X6_23_5 rfl dX6_wearAll_57 ?_
            refine lv_iconst (v := 5) hx hb dX6_wearAll_60 (by decide) ?_
            refine lv_iload_n hx hb dX6_wearAll_61 rfl (lv_at hl 2 rfl) ?_
            refine lv_imul hx hb dX6_wearAll_62 ?_
            refine lv_iload_n hx hb dX6_wearAll_63 rfl (lv_at hl 0 rfl) ?_
            refine lv_iadd hx hb dX6_wearAll_64 ?_
            refine zt_eq (v' := .int (nI (5 * j + k))) (congrArg Value.int (idx5 j k)) ?_
            refine zm_iald hx hb hE hM (hZ.ar 5) (vp_in_nI (show 5 * j + k < 250 by omega) (by decide)) dX6_wearAll_65 ?_
            refine zt_eq (v' := .int (oI (s_th S j k))) (by rw [nI_clamp (by omega)]; exact congrArg Value.int (hAb.2.2.1 j k hj (by omega))) ?_
            refine lv_istore_n (lv' := [(3, .int (oI (s_th S j k))), (2, .int (nI k)), (0, .ref (q 0)), (1, .int (nI j))]) hx hb dX6_wearAll_66 rfl hl (by decide) rfl (fun ls hl => ?_)
            refine lv_iload_n hx hb dX6_wearAll_67 rfl (lv_at hl 0 rfl) ?_
            refine lv_iconst (v := (-1)) hx hb dX6_wearAll_68 (by decide) ?_
            refine lv_icmp_eq (tgt := 77) hx hb dX6_wearAll_69 (by decide) (fun c69 => ?_) (fun c69 => ?_)
            · have hth : s_th S j k = none := (oI_m1 (fun t ht => by have := (hI.2.2.2.1 j hj (by omega) k t hkk ht).1; omega)).mp c69
              have hRn : RepR G q (w_wr S (wrS S j (s_wr S) (k + 1))) M := by show RepR G q (w_wr S (wrO S (wrS S j (s_wr S) k) (s_th S j k))) M; rw [hth]; exact ⟨f, g, hZ, hAb⟩
              refine lv_iinc (v := nI (k + 1)) (lv' := [(2, .int (nI (k + 1))), (3, .int (oI (s_th S j k))), (0, .ref (q 0)), (1, .int (nI j))]) hx hb dX6_wearAll_77 hl (k := 1) rfl (nI_1 k) (by decide) rfl (fun ls hl => ?_)
              refine lv_goto (tgt := 46) hx hb dX6_wearAll_80 (by decide) ?_
              exact ih (k + 1) (by omega) (by omega) ls _ _ _ hRn hM hS (lv_sub hl [0, 2, 3] rfl)
            · obtain ⟨t, hth⟩ := oI_some c69
              rw [hth] at hl
              have hl : lv_has ls 4 [(3, .int (nI t)), (2, .int (nI k)), (0, .ref (q 0)), (1, .int (nI j))] := hl
              obtain ⟨htn, hga⟩ := hI.2.2.2.1 j hj (by omega) k t hkk hth
              obtain ⟨hkt, hkt2⟩ := gA_rw _ (hI.2.2.1 t htn).1 _ h13 (by omega) hga
              refine lv_aload_n hx hb dX6_wearAll_72 rfl (lv_at hl 2 rfl) ?_
              refine lv_iload_n hx hb dX6_wearAll_73 rfl (lv_at hl 0 rfl) ?_
              refine zm_callV (As := [.int (nI t)]) (rest := []) hx hb hml hts hown hE hA hM hS hZ.2.1 rfl (c_X6_wearRow l G A q (w_wr S (wrS S j (s_wr S) k)) _ t htn hkt hI ⟨f, g, hZ, hAb⟩) cd_X6_wearRow ml_X6_106 rfl rfl hl.1 (Nat.le_of_ble_eq_true rfl) ⟨Nat.le_of_ble_eq_true rfl, Nat.le_of_ble_eq_true rfl⟩ ⟨Nat.le_of_ble_eq_true rfl, Nat.le_of_ble_eq_true rfl⟩ dX6_wearAll_74 ?_
              rintro r M1 H locs ⟨rfl, hR1⟩ hM hS
              refine W.eq (g2 := F0 m 77 ls []) rfl ?_
              have hRn : RepR G q (w_wr S (wrS S j (s_wr S) (k + 1))) M1 := by show RepR G q (w_wr S (wrO S (wrS S j (s_wr S) k) (s_th S j k))) M1; rw [hth]; rw [wrR_w] at hR1; exact hR1
              refine lv_iinc (v := nI (k + 1)) (lv' := [(2, .int (nI (k + 1))), (3, .int (nI t)), (0, .ref (q 0)), (1, .int (nI j))]) hx hb dX6_wearAll_77 hl (k := 1) rfl (nI_1 k) (by decide) rfl (fun ls hl => ?_)
              refine lv_goto (tgt := 46) hx hb dX6_wearAll_80 (by decide) ?_
              exact ih (k + 1) (by omega) (by omega) ls _ _ _ hRn hM hS (lv_sub hl [0, 2, 3] rfl)
      exact loop (s_sz S j + 1) 0 (Nat.zero_le _) (by omega) ls _ _ _ ⟨f, g, hZ, hAb⟩ hM hS (lv_sub hl [0, 1, 2] rfl)
    · rw [show (13 : Int32) = nI 13 from rfl, nI_leI (by omega) (by omega)] at c33
      have h47 : ¬ (4 ≤ s_kd S j ∧ s_kd S j ≤ 7) := by simpa [isPc] using c9
      have h8 : 8 ≤ s_kd S j := by omega
      have h12 : s_kd S j ≤ 12 := by omega
      refine lv_aload_n hx hb dX6_wearAll_36 rfl (lv_at hl 0 rfl) ?_
      refine lv_iload_n hx hb dX6_wearAll_37 rfl (lv_at hl 1 rfl) ?_
      refine zm_callV (As := [.int (nI j)]) (rest := []) hx hb hml hts hown hE hA hM hS hZ.2.1 rfl (c_X6_wearRow l G A q S _ j hj h8 hI ⟨f, g, hZ, hAb⟩) cd_X6_wearRow ml_X6_106 rfl rfl hl.1 (Nat.le_of_ble_eq_true rfl) ⟨Nat.le_of_ble_eq_true rfl, Nat.le_of_ble_eq_true rfl⟩ ⟨Nat.le_of_ble_eq_true rfl, Nat.le_of_ble_eq_true rfl⟩ dX6_wearAll_38 ?_
      rintro r M1 H locs ⟨rfl, hR1⟩ hM hS
      refine W.eq (g2 := F0 m 41 ls []) rfl ?_
      rw [← wAll_r1 h8 h12] at hR1
      refine lv_goto (tgt := 83) hx hb dX6_wearAll_41 (by decide) ?_
      refine zm_vret hx hb hr hlk hM hS ?_ ⟨Nat.le_refl _, Nat.le_refl _⟩ dX6_wearAll_83
      exact ⟨rfl, hR1⟩
  · rw [zbt_pc _ h16, bI_n] at c9
    refine lv_aload_n hx hb dX6_wearAll_12 rfl (lv_at hl 0 rfl) ?_
    refine zm_get hx hb hts hown hE hM hZ.2.1 fl_X6_16_5 rfl dX6_wearAll_13 ?_
    refine lv_iload_n hx hb dX6_wearAll_16 rfl (lv_at hl 1 rfl) ?_
    refine lv_dup2_11 hx hb dX6_wearAll_17 rfl rfl ?_
    refine zm_iald hx hb hE hM (hZ.ar 3) (vp_in_nI (show j < 50 by omega) (by decide)) dX6_wearAll_18 ?_
    refine zt_eq (v' := .int (s_wr S j)) (by rw [nI_clamp (by omega)]; exact congrArg Value.int ((hAb.1 j hj).2.2)) ?_
    refine lv_iconst (v := 1) hx hb dX6_wearAll_19 (by decide) ?_
    refine lv_iadd hx hb dX6_wearAll_20 ?_
    refine zm_iast hx hb hE hM hS (hZ.ar 3) (vp_in_nI (show j < 50 by omega) (by decide)) dX6_wearAll_21 (fun H locs hM hS => ?_)
    rw [nI_clamp (by omega)] at hM
    have hR1 : RepR G q (w_wr S (upd (s_wr S) j (s_wr S j + 1))) _ := ⟨_, _, hZ.arr 3 (upd (f 3) j (s_wr S j + 1)), abs_wr hAb j (s_wr S j + 1)⟩
    rw [← wAll_pc c9] at hR1
    refine lv_goto (tgt := 83) hx hb dX6_wearAll_22 (by decide) ?_
    refine zm_vret hx hb hr hlk hM hS ?_ ⟨Nat.le_refl _, Nat.le_refl _⟩ dX6_wearAll_83
    exact ⟨rfl, hR1⟩
set_option maxRecDepth 100000 in
set_option maxHeartbeats 4000000 in
theorem c_X6_take (l : Launch) (G : zm_G) (A : Nat → Prop) (q : Nat → Nat) (S : zS) (M : zm_M) (j : Nat) (hj : j < s_np S) (ii : Nat) (hii : ii < 10) (hk8 : 8 ≤ s_kd S j) (hI : zInv S) (hR : RepR G q S M) : Met l yX6_take (zm_W yX6_take cX6_take 3 (some .int)) (zm_rm 0 0 0) (zm_Pc G [.ref (q 0), .int (nI j), .int (nI ii)] A M) (zm_Q G (fun r M' => (ii < s_sz S j ∧ r = some (.int 0) ∧ RepR G q (w_th (w_hd S (s_th S j ii)) (up2 (s_th S) j ii none)) M') ∨ (¬ ii < s_sz S j ∧ r = some (.int (-6)) ∧ RepR G q S M')) A) 0 0 A := by
  refine zm_start (by decide) (Nat.le_of_ble_eq_true rfl) ?_
  intro p e s m below meth c hx hb hml hr hts hown hlk hnm hE hA ls hl hM hS
  have hl : lv_has ls 3 [(0, .ref (q 0)), (1, .int (nI j)), (2, .int (nI ii))] := hl
  obtain ⟨f, g, hZ, hAb⟩ := hR
  have hnp := hI.1
  have hncc := hI.2.1
  have hrw := rw_of hk8 (by have := (hI.2.2.1 j hj).1; omega)
  have hm := hI.sz5 hj (rw_pc hrw)
  refine lv_iload_n hx hb dX6_take_0 rfl (lv_at hl 2 rfl) ?_
  refine lv_aload_n hx hb dX6_take_1 rfl (lv_at hl 0 rfl) ?_
  refine zm_get hx hb hts hown hE hM hZ.2.1 fl_X6_13_5 rfl dX6_take_2 ?_
  refine lv_iload_n hx hb dX6_take_5 rfl (lv_at hl 1 rfl) ?_
  refine zm_iald hx hb hE hM (hZ.ar 2) (vp_in_nI (show j < 50 by omega) (by decide)) dX6_take_6 ?_
  refine zt_eq (v' := .int (nI (s_sz S j))) (by rw [nI_clamp (by omega)]; exact congrArg Value.int ((hAb.1 j hj).2.1)) ?_
  refine lv_icmp_lt (tgt := 13) hx hb dX6_take_7 (by decide) (fun c7 => ?_) (fun c7 => ?_)
  · rw [nI_ltI (by omega) (by omega)] at c7
    refine lv_aload_n hx hb dX6_take_13 rfl (lv_at hl 0 rfl) ?_
    refine lv_aload_n hx hb dX6_take_14 rfl (lv_at hl 0 rfl) ?_
    refine zm_get hx hb hts hown hE hM hZ.2.1 fl_X6_23_5 rfl dX6_take_15 ?_
    refine lv_iconst (v := 5) hx hb dX6_take_18 (by decide) ?_
    refine lv_iload_n hx hb dX6_take_19 rfl (lv_at hl 1 rfl) ?_
    refine lv_imul hx hb dX6_take_20 ?_
    refine lv_iload_n hx hb dX6_take_21 rfl (lv_at hl 2 rfl) ?_
    refine lv_iadd hx hb dX6_take_22 ?_
    refine zt_eq (v' := .int (nI (5 * j + ii))) (congrArg Value.int (idx5 j ii)) ?_
    refine zm_iald hx hb hE hM (hZ.ar 5) (vp_in_nI (show 5 * j + ii < 250 by omega) (by decide)) dX6_take_23 ?_
    refine zt_eq (v' := .int (oI (s_th S j ii))) (by rw [nI_clamp (by omega)]; exact congrArg Value.int (hAb.2.2.1 j ii hj (by omega))) ?_
    refine zm_put hx hb hts hown hE hM hS hZ.2.1 fp_X6_29_5 rfl rfl (Nat.le_of_ble_eq_true rfl) dX6_take_24 (fun H locs hM hS => ?_)
    have hZ1 := hZ.fld (objR q (w_hd S (s_th S j ii)))
    refine lv_aload_n hx hb dX6_take_27 rfl (lv_at hl 0 rfl) ?_
    refine zm_get hx hb hts hown hE hM hZ1.2.1 fl_X6_23_5 rfl dX6_take_28 ?_
    refine lv_iconst (v := 5) hx hb dX6_take_31 (by decide) ?_
    refine lv_iload_n hx hb dX6_take_32 rfl (lv_at hl 1 rfl) ?_
    refine lv_imul hx hb dX6_take_33 ?_
    refine lv_iload_n hx hb dX6_take_34 rfl (lv_at hl 2 rfl) ?_
    refine lv_iadd hx hb dX6_take_35 ?_
    refine lv_iconst (v := (-1)) hx hb dX6_take_36 (by decide) ?_
    refine W.eq (g2 := F0 m 37 ls (.int (-1) :: .int (nI (5 * j + ii)) :: .ref (q 5) :: [])) (by rw [idx5]) ?_
    refine zm_iast hx hb hE hM hS (hZ1.ar 5) (vp_in_nI (show 5 * j + ii < 250 by omega) (by decide)) dX6_take_37 (fun H locs hM hS => ?_)
    rw [nI_clamp (by omega)] at hM
    have hR2 : RepR G q (w_th (w_hd S (s_th S j ii)) (up2 (s_th S) j ii none)) _ := ⟨_, _, hZ1.arr 5 (upd (f 5) (5 * j + ii) (oI none)), abs_th (S := w_hd S (s_th S j ii)) hAb j ii none (by omega)⟩
    refine lv_iconst (v := 0) hx hb dX6_take_38 (by decide) ?_
    refine zm_iret hx hb hr hlk hM hS ?_ ⟨Nat.le_refl _, Nat.le_refl _⟩ dX6_take_39
    exact Or.inl ⟨c7, rfl, hR2⟩
  · rw [nI_ltI (by omega) (by omega)] at c7
    refine lv_bipush (v := (-6)) hx hb dX6_take_10 (by decide) ?_
    refine zm_iret hx hb hr hlk hM hS ?_ ⟨Nat.le_refl _, Nat.le_refl _⟩ dX6_take_12
    exact Or.inr ⟨c7, rfl, ⟨f, g, hZ, hAb⟩⟩
set_option maxRecDepth 100000 in
set_option maxHeartbeats 4000000 in
theorem c_X6_lay (l : Launch) (G : zm_G) (A : Nat → Prop) (q : Nat → Nat) (S : zS) (M : zm_M) (o : Option Nat) (v ii : Nat) (ho : ∀ j, o = some j → j < s_np S) (hrow : ∀ j, o = some j → 8 ≤ s_kd S j) (hv8 : 8 ≤ v) (hv15 : v ≤ 15) (hii : ii < 10) (hI : zInv S) (hR : RepR G q S M) : Met l yX6_lay (zm_W yX6_lay cX6_lay 4 (some .int)) (zm_rm 2 0 0) (zm_Pc G [.ref (q 0), .int (oI o), .int (nI v), .int (nI ii)] A M) (zm_Q G (fun r M' => (goS S (s_hd S) (inn v) = false ∧ r = some (.int (-5)) ∧ RepR G q S M') ∨ (goS S (s_hd S) (inn v) = true ∧ ((o = none ∧ r = some (.int (-4)) ∧ RepR G q S M') ∨ ∃ j, o = some j ∧ ((¬ ii < s_sz S j ∧ r = some (.int (-6)) ∧ RepR G q S M') ∨ (ii < s_sz S j ∧ ((goS S (s_hd S) (inn (s_kd S j)) = false ∧ r = some (.int (-7)) ∧ RepR G q S M') ∨ (goS S (s_hd S) (inn (s_kd S j)) = true ∧ r = some (.int 0) ∧ RepR G q (w_th (w_hd S none) (up2 (s_th S) j ii (s_hd S))) M'))))))) A) 0 0 A := by
  refine zm_start (by decide) (Nat.le_of_ble_eq_true rfl) ?_
  intro p e s m below meth c hx hb hml hr hts hown hlk hnm hE hA ls hl hM hS
  have hl : lv_has ls 4 [(0, .ref (q 0)), (1, .int (oI o)), (2, .int (nI v)), (3, .int (nI ii))] := hl
  obtain ⟨f, g, hZ, hAb⟩ := hR
  have hnp := hI.1
  have hncc := hI.2.1
  refine lv_aload_n hx hb dX6_lay_0 rfl (lv_at hl 0 rfl) ?_
  refine lv_aload_n hx hb dX6_lay_1 rfl (lv_at hl 0 rfl) ?_
  refine zm_get hx hb hts hown hE hM hZ.2.1 fl_X6_29_5 rfl dX6_lay_2 ?_
  refine lv_iload_n hx hb dX6_lay_5 rfl (lv_at hl 2 rfl) ?_
  refine zm_callS (As := [.int (nI v)]) (rest := [.int (oI (s_hd S)), .ref (q 0)]) hx hb hml hts hown hE hA hM hS (c_X6_inner l G A _ v (by omega) (by omega)) cd_X6_inner ml_X6_92 rfl rfl hl.1 (Nat.le_of_ble_eq_true rfl) ⟨Nat.le_of_ble_eq_true rfl, Nat.le_of_ble_eq_true rfl⟩ ⟨Nat.le_of_ble_eq_true rfl, Nat.le_of_ble_eq_true rfl⟩ dX6_lay_6 ?_
  rintro r M1 H locs ⟨rfl, e1⟩ hM hS
  rw [e1] at hM
  clear e1 M1
  refine W.eq (g2 := F0 m 9 ls [.int (nI (inn v)), .int (oI (s_hd S)), .ref (q 0)]) rfl ?_
  refine zm_callV (As := [.int (oI (s_hd S)), .int (nI (inn v))]) (rest := []) hx hb hml hts hown hE hA hM hS hZ.2.1 rfl (c_X6_goes l G A q S _ (s_hd S) (inn v) (inn17 _) (hI.2.2.2.2.2.1) hI ⟨f, g, hZ, hAb⟩) cd_X6_goes ml_X6_110 rfl rfl hl.1 (Nat.le_of_ble_eq_true rfl) ⟨Nat.le_of_ble_eq_true rfl, Nat.le_of_ble_eq_true rfl⟩ ⟨Nat.le_of_ble_eq_true rfl, Nat.le_of_ble_eq_true rfl⟩ dX6_lay_9 ?_
  rintro r M1 H locs ⟨rfl, e1⟩ hM hS
  rw [e1] at hM
  clear e1 M1
  refine W.eq (g2 := F0 m 12 ls [.int (bI (goS S (s_hd S) (inn v)))]) rfl ?_
  refine lv_if_ne (tgt := 18) hx hb dX6_lay_12 (by decide) (fun c12 => ?_) (fun c12 => ?_)
  · rw [bI_n] at c12
    refine lv_iload_n hx hb dX6_lay_18 rfl (lv_at hl 1 rfl) ?_
    refine lv_iconst (v := (-1)) hx hb dX6_lay_19 (by decide) ?_
    refine lv_icmp_ne (tgt := 26) hx hb dX6_lay_20 (by decide) (fun c20 => ?_) (fun c20 => ?_)
    · obtain ⟨j, rfl⟩ := oI_some c20
      have hj := ho j rfl
      have h8 := hrow j rfl
      have h16 := (hI.2.2.1 j hj).1
      have hm := hI.sz5 hj (rw_pc (rw_of h8 (by omega)))
      have hl : lv_has ls 4 [(0, .ref (q 0)), (1, .int (nI j)), (2, .int (nI v)), (3, .int (nI ii))] := hl
      refine lv_iload_n hx hb dX6_lay_26 rfl (lv_at hl 3 rfl) ?_
      refine lv_aload_n hx hb dX6_lay_27 rfl (lv_at hl 0 rfl) ?_
      refine zm_get hx hb hts hown hE hM hZ.2.1 fl_X6_13_5 rfl dX6_lay_28 ?_
      refine lv_iload_n hx hb dX6_lay_31 rfl (lv_at hl 1 rfl) ?_
      refine zm_iald hx hb hE hM (hZ.ar 2) (vp_in_nI (show j < 50 by omega) (by decide)) dX6_lay_32 ?_
      refine zt_eq (v' := .int (nI (s_sz S j))) (by rw [nI_clamp (by omega)]; exact congrArg Value.int ((hAb.1 j hj).2.1)) ?_
      refine lv_icmp_lt (tgt := 39) hx hb dX6_lay_33 (by decide) (fun c33 => ?_) (fun c33 => ?_)
      · rw [nI_ltI (by omega) (by omega)] at c33
        refine lv_aload_n hx hb dX6_lay_39 rfl (lv_at hl 0 rfl) ?_
        refine lv_aload_n hx hb dX6_lay_40 rfl (lv_at hl 0 rfl) ?_
        refine zm_get hx hb hts hown hE hM hZ.2.1 fl_X6_29_5 rfl dX6_lay_41 ?_
        refine lv_aload_n hx hb dX6_lay_44 rfl (lv_at hl 0 rfl) ?_
        refine zm_get hx hb hts hown hE hM hZ.2.1 fl_X6_7_5 rfl dX6_lay_45 ?_
        refine lv_iload_n hx hb dX6_lay_48 rfl (lv_at hl 1 rfl) ?_
        refine zm_iald hx hb hE hM (hZ.ar 1) (vp_in_nI (show j < 50 by omega) (by decide)) dX6_lay_49 ?_
        refine zt_eq (v' := .int (nI (s_kd S j))) (by rw [nI_clamp (by omega)]; exact congrArg Value.int ((hAb.1 j hj).1)) ?_
        refine zm_callS (As := [.int (nI (s_kd S j))]) (rest := [.int (oI (s_hd S)), .ref (q 0)]) hx hb hml hts hown hE hA hM hS (c_X6_inner l G A _ (s_kd S j) (by omega) (by omega)) cd_X6_inner ml_X6_92 rfl rfl hl.1 (Nat.le_of_ble_eq_true rfl) ⟨Nat.le_of_ble_eq_true rfl, Nat.le_of_ble_eq_true rfl⟩ ⟨Nat.le_of_ble_eq_true rfl, Nat.le_of_ble_eq_true rfl⟩ dX6_lay_50 ?_
        rintro r M1 H locs ⟨rfl, e1⟩ hM hS
        rw [e1] at hM
        clear e1 M1
        refine W.eq (g2 := F0 m 53 ls [.int (nI (inn (s_kd S j))), .int (oI (s_hd S)), .ref (q 0)]) rfl ?_
        refine zm_callV (As := [.int (oI (s_hd S)), .int (nI (inn (s_kd S j)))]) (rest := []) hx hb hml hts hown hE hA hM hS hZ.2.1 rfl (c_X6_goes l G A q S _ (s_hd S) (inn (s_kd S j)) (inn17 _) (hI.2.2.2.2.2.1) hI ⟨f, g, hZ, hAb⟩) cd_X6_goes ml_X6_110 rfl rfl hl.1 (Nat.le_of_ble_eq_true rfl) ⟨Nat.le_of_ble_eq_true rfl, Nat.le_of_ble_eq_true rfl⟩ ⟨Nat.le_of_ble_eq_true rfl, Nat.le_of_ble_eq_true rfl⟩ dX6_lay_53 ?_
        rintro r M1 H locs ⟨rfl, e1⟩ hM hS
        rw [e1] at hM
        clear e1 M1
        refine W.eq (g2 := F0 m 56 ls [.int (bI (goS S (s_hd S) (inn (s_kd S j))))]) rfl ?_
        refine lv_if_ne (tgt := 62) hx hb dX6_lay_56 (by decide) (fun c56 => ?_) (fun c56 => ?_)
        · rw [bI_n] at c56
          refine lv_aload_n hx hb dX6_lay_62 rfl (lv_at hl 0 rfl) ?_
          refine zm_get hx hb hts hown hE hM hZ.2.1 fl_X6_23_5 rfl dX6_lay_63 ?_
          refine lv_iconst (v := 5) hx hb dX6_lay_66 (by decide) ?_
          refine lv_iload_n hx hb dX6_lay_67 rfl (lv_at hl 1 rfl) ?_
          refine lv_imul hx hb dX6_lay_68 ?_
          refine lv_iload_n hx hb dX6_lay_69 rfl (lv_at hl 3 rfl) ?_
          refine lv_iadd hx hb dX6_lay_70 ?_
          refine lv_aload_n hx hb dX6_lay_71 rfl (lv_at hl 0 rfl) ?_
          refine zm_get hx hb hts hown hE hM hZ.2.1 fl_X6_29_5 rfl dX6_lay_72 ?_
          refine W.eq (g2 := F0 m 75 ls (.int (oI (s_hd S)) :: .int (nI (5 * j + ii)) :: .ref (q 5) :: [])) (by rw [idx5]) ?_
          refine zm_iast hx hb hE hM hS (hZ.ar 5) (vp_in_nI (show 5 * j + ii < 250 by omega) (by decide)) dX6_lay_75 (fun H locs hM hS => ?_)
          rw [nI_clamp (by omega)] at hM
          have hZ1 := hZ.arr 5 (upd (f 5) (5 * j + ii) (oI (s_hd S)))
          refine lv_aload_n hx hb dX6_lay_76 rfl (lv_at hl 0 rfl) ?_
          refine lv_iconst (v := (-1)) hx hb dX6_lay_77 (by decide) ?_
          refine zm_put hx hb hts hown hE hM hS hZ1.2.1 fp_X6_29_5 rfl rfl (Nat.le_of_ble_eq_true rfl) dX6_lay_78 (fun H locs hM hS => ?_)
          have hR2 : RepR G q (w_th (w_hd S none) (up2 (s_th S) j ii (s_hd S))) _ := ⟨_, _, hZ1.fld (objR q (w_th (w_hd S none) (up2 (s_th S) j ii (s_hd S)))), abs_th (S := w_hd S none) hAb j ii (s_hd S) (by omega)⟩
          refine lv_iconst (v := 0) hx hb dX6_lay_81 (by decide) ?_
          refine zm_iret hx hb hr hlk hM hS ?_ ⟨Nat.le_refl _, Nat.le_refl _⟩ dX6_lay_82
          exact Or.inr ⟨c12, Or.inr ⟨j, rfl, Or.inr ⟨c33, Or.inr ⟨c56, rfl, hR2⟩⟩⟩⟩
        · rw [bI_0] at c56
          refine lv_bipush (v := (-7)) hx hb dX6_lay_59 (by decide) ?_
          refine zm_iret hx hb hr hlk hM hS ?_ ⟨Nat.le_refl _, Nat.le_refl _⟩ dX6_lay_61
          exact Or.inr ⟨c12, Or.inr ⟨j, rfl, Or.inr ⟨c33, Or.inl ⟨c56, rfl, ⟨f, g, hZ, hAb⟩⟩⟩⟩⟩
      · rw [nI_ltI (by omega) (by omega)] at c33
        refine lv_bipush (v := (-6)) hx hb dX6_lay_36 (by decide) ?_
        refine zm_iret hx hb hr hlk hM hS ?_ ⟨Nat.le_refl _, Nat.le_refl _⟩ dX6_lay_38
        exact Or.inr ⟨c12, Or.inr ⟨j, rfl, Or.inl ⟨c33, rfl, ⟨f, g, hZ, hAb⟩⟩⟩⟩
    · refine lv_bipush (v := (-4)) hx hb dX6_lay_23 (by decide) ?_
      refine zm_iret hx hb hr hlk hM hS ?_ ⟨Nat.le_refl _, Nat.le_refl _⟩ dX6_lay_25
      exact Or.inr ⟨c12, Or.inl ⟨(oI_m1 (fun j hj => by have := ho j hj; omega)).mp c20, rfl, ⟨f, g, hZ, hAb⟩⟩⟩
  · rw [bI_0] at c12
    refine lv_bipush (v := (-5)) hx hb dX6_lay_15 (by decide) ?_
    refine zm_iret hx hb hr hlk hM hS ?_ ⟨Nat.le_refl _, Nat.le_refl _⟩ dX6_lay_17
    exact Or.inl ⟨c12, rfl, ⟨f, g, hZ, hAb⟩⟩
