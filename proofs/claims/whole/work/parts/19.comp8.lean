set_option maxRecDepth 100000 in
set_option maxHeartbeats 4000000 in
theorem c_X5_newProp (l : Launch) (G : zm_G) (A : Nat → Prop) (M : zm_M) (x : Int32) (k n : Nat) (hk : k < 16) (hn : n ≤ 100) (hn5 : isPc k = false → n ≤ 5) : Met l yX5_newProp (zm_W yX5_newProp cX5_newProp 3 (some (.object "PropStore$Prop"))) (zm_rm 3 2 18) (zm_Pc G [.int x, .int (nI k), .int (nI n)] A M) (zm_Q G (fun r M' => ∃ q, r = some (va_rf (some q)) ∧ M q = none ∧ ((isPc k = true ∧ M' = zm_up M q (.inr (2, [.int x, .int (nI k), .int (nI n), .int 0]))) ∨ (isRw k = true ∧ ∃ qa, qa ≠ q ∧ M qa = none ∧ M' = zm_up (zm_up M qa (zm_R G n (fun _ => none))) q (.inr (3, [.int x, .int (nI k), .ref qa]))) ∨ (k < 4 ∧ ∃ qa, qa ≠ q ∧ M qa = none ∧ M' = zm_up (zm_up M qa (zm_J G (if k = 3 then 3 * n else n) (fun _ => 0))) q (.inr (1, [.int x, .int (nI k), .ref qa]))))) A) 2 18 A := by
  refine zm_start (by decide) (Nat.le_of_ble_eq_true rfl) ?_
  intro p e s m below meth c hx hb hml hr hts hown hlk hnm hE hA ls hl hM hS
  have hl : lv_has ls 3 [(0, .int x), (1, .int (nI k)), (2, .int (nI n))] := hl
  refine lv_iload_n hx hb dX5_newProp_0 rfl (lv_at hl 1 rfl) ?_
  refine zm_callS (As := [.int (nI k)]) (rest := []) hx hb hml hts hown hE hA hM hS (c_X5_isPiece l G A _ (nI k)) cd_X5_isPiece ml_X5_149 rfl rfl hl.1 (Nat.le_of_ble_eq_true rfl) ⟨Nat.le_of_ble_eq_true rfl, Nat.le_of_ble_eq_true rfl⟩ ⟨Nat.le_of_ble_eq_true rfl, Nat.le_of_ble_eq_true rfl⟩ dX5_newProp_1 ?_
  rintro r M1 H locs ⟨rfl, e1⟩ hM hS
  rw [e1] at hM
  clear e1 M1
  refine W.eq (g2 := F0 m 4 ls [.int (bI (zbt 4 7 (nI k)))]) rfl ?_
  refine lv_if_eq (tgt := 18) hx hb dX5_newProp_4 (by decide) (fun c4 => ?_) (fun c4 => ?_)
  · rw [zbt_pc k hk, bI_0] at c4
    have hn5 := hn5 c4
    refine lv_iload_n hx hb dX5_newProp_18 rfl (lv_at hl 1 rfl) ?_
    refine zm_callS (As := [.int (nI k)]) (rest := []) hx hb hml hts hown hE hA hM hS (c_X5_isRow l G A _ (nI k)) cd_X5_isRow ml_X5_155 rfl rfl hl.1 (Nat.le_of_ble_eq_true rfl) ⟨Nat.le_of_ble_eq_true rfl, Nat.le_of_ble_eq_true rfl⟩ ⟨Nat.le_of_ble_eq_true rfl, Nat.le_of_ble_eq_true rfl⟩ dX5_newProp_19 ?_
    rintro r M1 H locs ⟨rfl, e1⟩ hM hS
    rw [e1] at hM
    clear e1 M1
    refine W.eq (g2 := F0 m 22 ls [.int (bI (zbt 8 15 (nI k)))]) rfl ?_
    refine lv_if_eq (tgt := 36) hx hb dX5_newProp_22 (by decide) (fun c22 => ?_) (fun c22 => ?_)
    · rw [zbt_rw k (by omega), bI_0] at c22
      have hk4 : k < 4 := by simp only [isRw, isPc, Bool.and_eq_false_iff, decide_eq_false_iff_not] at c4 c22; omega
      refine zm_new (fs := [.int 0, .int 0, .null]) hx hb hts hown hE hA hM hS 1 rfl inlX1 tyX1 tyX1_ok clk_X5_43 in_X1.1 in_X1.2 (fun j hj => by rcases (show j = 0 ∨ j = 1 ∨ j = 2 by omega) with rfl | rfl | rfl <;> rfl) (Nat.le_of_ble_eq_true rfl) (Nat.le_of_ble_eq_true rfl) dX5_newProp_36 (fun q H hq hM hS => ?_)
      refine lv_dup hx hb dX5_newProp_39 rfl ?_
      refine lv_iload_n hx hb dX5_newProp_40 rfl (lv_at hl 0 rfl) ?_
      refine lv_iload_n hx hb dX5_newProp_41 rfl (lv_at hl 1 rfl) ?_
      refine lv_iload_n hx hb dX5_newProp_42 rfl (lv_at hl 1 rfl) ?_
      refine lv_iconst (v := 3) hx hb dX5_newProp_43 (by decide) ?_
      refine lv_icmp_ne (tgt := 53) hx hb dX5_newProp_44 (by decide) (fun c44 => ?_) (fun c44 => ?_)
      · have h3 : ¬ k = 3 := fun z => c44 (by rw [z]; rfl)
        refine lv_iload_n hx hb dX5_newProp_53 rfl (lv_at hl 2 rfl) ?_
        refine zm_callI (As := [.int x, .int (nI k), .int (nI n)]) (rest := [.ref q]) hx hb hml hts hown hE hA hM hS (c_X1_init l G A _ q n x (nI k) (by omega) zm_up_s) cd_X1_init ml_X5_159 rfl rfl hl.1 (Nat.le_of_ble_eq_true rfl) ⟨Nat.le_of_ble_eq_true rfl, Nat.le_of_ble_eq_true rfl⟩ ⟨Nat.le_of_ble_eq_true rfl, Nat.le_of_ble_eq_true rfl⟩ dX5_newProp_54 ?_
        rintro r M1 H locs ⟨rfl, qa, hne, hqa, rfl⟩ hM hS
        rw [zm_sw hne, zm_uu] at hM
        have hqa0 : M qa = none := by rw [← hqa, zm_up_n hne]
        refine W.eq (g2 := F0 m 57 ls [.ref q]) rfl ?_
        refine zm_aret (r := some q) hx hb hr hlk hM hS ?_ ⟨Nat.le_of_ble_eq_true rfl, Nat.le_of_ble_eq_true rfl⟩ dX5_newProp_57
        exact ⟨q, rfl, hq, Or.inr (Or.inr ⟨hk4, qa, hne, hqa0, by first | rw [if_pos h3] | rw [if_neg h3]⟩)⟩
      · have h3 : k = 3 := (nI_eq (b := 3) (by omega) (by omega)).mp c44
        refine lv_iload_n hx hb dX5_newProp_47 rfl (lv_at hl 2 rfl) ?_
        refine lv_iconst (v := 3) hx hb dX5_newProp_48 (by decide) ?_
        refine lv_imul hx hb dX5_newProp_49 ?_
        refine zt_eq (v' := .int (nI (3 * n))) (congrArg Value.int ((pk_mul n 3).trans (by rw [Nat.mul_comm]))) ?_
        refine lv_goto (tgt := 54) hx hb dX5_newProp_50 (by decide) ?_
        refine zm_callI (As := [.int x, .int (nI k), .int (nI (3 * n))]) (rest := [.ref q]) hx hb hml hts hown hE hA hM hS (c_X1_init l G A _ q (3 * n) x (nI k) (by omega) zm_up_s) cd_X1_init ml_X5_159 rfl rfl hl.1 (Nat.le_of_ble_eq_true rfl) ⟨Nat.le_of_ble_eq_true rfl, Nat.le_of_ble_eq_true rfl⟩ ⟨Nat.le_of_ble_eq_true rfl, Nat.le_of_ble_eq_true rfl⟩ dX5_newProp_54 ?_
        rintro r M1 H locs ⟨rfl, qa, hne, hqa, rfl⟩ hM hS
        rw [zm_sw hne, zm_uu] at hM
        have hqa0 : M qa = none := by rw [← hqa, zm_up_n hne]
        refine W.eq (g2 := F0 m 57 ls [.ref q]) rfl ?_
        refine zm_aret (r := some q) hx hb hr hlk hM hS ?_ ⟨Nat.le_of_ble_eq_true rfl, Nat.le_of_ble_eq_true rfl⟩ dX5_newProp_57
        exact ⟨q, rfl, hq, Or.inr (Or.inr ⟨hk4, qa, hne, hqa0, by first | rw [if_pos h3] | rw [if_neg h3]⟩)⟩
    · rw [zbt_rw k (by omega), bI_n] at c22
      refine zm_new (fs := [.int 0, .int 0, .null]) hx hb hts hown hE hA hM hS 3 rfl inlX4 tyX4 tyX4_ok clk_X5_107 in_X4.1 in_X4.2 (fun j hj => by rcases (show j = 0 ∨ j = 1 ∨ j = 2 by omega) with rfl | rfl | rfl <;> rfl) (Nat.le_of_ble_eq_true rfl) (Nat.le_of_ble_eq_true rfl) dX5_newProp_25 (fun q H hq hM hS => ?_)
      refine lv_dup hx hb dX5_newProp_28 rfl ?_
      refine lv_iload_n hx hb dX5_newProp_29 rfl (lv_at hl 0 rfl) ?_
      refine lv_iload_n hx hb dX5_newProp_30 rfl (lv_at hl 1 rfl) ?_
      refine lv_iload_n hx hb dX5_newProp_31 rfl (lv_at hl 2 rfl) ?_
      refine zm_callI (As := [.int x, .int (nI k), .int (nI n)]) (rest := [.ref q]) hx hb hml hts hown hE hA hM hS (c_X4_init l G A _ q n x (nI k) (by omega) zm_up_s) cd_X4_init ml_X5_158 rfl rfl hl.1 (Nat.le_of_ble_eq_true rfl) ⟨Nat.le_of_ble_eq_true rfl, Nat.le_of_ble_eq_true rfl⟩ ⟨Nat.le_of_ble_eq_true rfl, Nat.le_of_ble_eq_true rfl⟩ dX5_newProp_32 ?_
      rintro r M1 H locs ⟨rfl, qa, hne, hqa, rfl⟩ hM hS
      rw [zm_sw hne, zm_uu] at hM
      have hqa0 : M qa = none := by rw [← hqa, zm_up_n hne]
      refine W.eq (g2 := F0 m 35 ls [.ref q]) rfl ?_
      refine zm_aret (r := some q) hx hb hr hlk hM hS ?_ ⟨Nat.le_of_ble_eq_true rfl, Nat.le_of_ble_eq_true rfl⟩ dX5_newProp_35
      exact ⟨q, rfl, hq, Or.inr (Or.inl ⟨c22, qa, hne, hqa0, rfl⟩)⟩
  · rw [zbt_pc k hk, bI_n] at c4
    refine zm_new (fs := [.int 0, .int 0, .int 0, .int 0]) hx hb hts hown hE hA hM hS 2 rfl inlX2 tyX2 tyX2_ok clk_X5_99 in_X2.1 in_X2.2 (fun j hj => by rcases (show j = 0 ∨ j = 1 ∨ j = 2 ∨ j = 3 by omega) with rfl | rfl | rfl | rfl <;> rfl) (Nat.le_of_ble_eq_true rfl) (Nat.le_of_ble_eq_true rfl) dX5_newProp_7 (fun q H hq hM hS => ?_)
    refine lv_dup hx hb dX5_newProp_10 rfl ?_
    refine lv_iload_n hx hb dX5_newProp_11 rfl (lv_at hl 0 rfl) ?_
    refine lv_iload_n hx hb dX5_newProp_12 rfl (lv_at hl 1 rfl) ?_
    refine lv_iload_n hx hb dX5_newProp_13 rfl (lv_at hl 2 rfl) ?_
    refine zm_callI (As := [.int x, .int (nI k), .int (nI n)]) (rest := [.ref q]) hx hb hml hts hown hE hA hM hS (c_X2_init l G A _ q x (nI k) (nI n) zm_up_s) cd_X2_init ml_X5_152 rfl rfl hl.1 (Nat.le_of_ble_eq_true rfl) ⟨Nat.le_of_ble_eq_true rfl, Nat.le_of_ble_eq_true rfl⟩ ⟨Nat.le_of_ble_eq_true rfl, Nat.le_of_ble_eq_true rfl⟩ dX5_newProp_14 ?_
    rintro r M1 H locs ⟨rfl, rfl⟩ hM hS
    rw [zm_uu] at hM
    refine W.eq (g2 := F0 m 17 ls [.ref q]) rfl ?_
    refine zm_aret (r := some q) hx hb hr hlk hM hS ?_ ⟨Nat.le_of_ble_eq_true rfl, Nat.le_of_ble_eq_true rfl⟩ dX5_newProp_17
    exact ⟨q, rfl, hq, Or.inl ⟨c4, rfl⟩⟩
theorem prop_bad1 {S : zS} {k n : Int32} (h : ix 16 k = none) : sp_prop S k n = (-2, S) := by unfold sp_prop; rw [h]
theorem prop_bad2 {S : zS} {k n : Int32} {kk : Nat} (h : ix 16 k = some kk) (h2 : ix (if isPc kk = true then 101 else 6) n = none) : sp_prop S k n = (-2, S) := by unfold sp_prop; simp only [h, h2]
theorem prop_full {S : zS} {k n : Int32} {kk nn : Nat} (h : ix 16 k = some kk) (h2 : ix (if isPc kk = true then 101 else 6) n = some nn) (h3 : s_np S = 50) : sp_prop S k n = (-3, S) := by unfold sp_prop; simp only [h, h2, if_pos h3]
theorem prop_ok {S : zS} {k n : Int32} {kk nn : Nat} (h : ix 16 k = some kk) (h2 : ix (if isPc kk = true then 101 else 6) n = some nn) (h3 : ¬ s_np S = 50) : sp_prop S k n = (nI (s_np S), addS S kk nn) := by unfold sp_prop; simp only [h, h2, if_neg h3]
theorem most_n {kk : Nat} {n : Int32} : n ≤ nI (if isPc kk = true then 100 else 5) ↔ ¬ nI (if isPc kk = true then 101 else 6) ≤ n := by
  have e1 : (nI (if isPc kk = true then 100 else 5)).toInt + 1 = (nI (if isPc kk = true then 101 else 6)).toInt := by split <;> decide
  rw [← le_pred e1, Int32.not_lt]
theorem objC_add {B : zB} {S : zS} (hI : zInv S) (q qa kk nn : Nat) : objC (addB B S q qa) (addS S kk nn) = [.ref B.1.2.1, .int (nI (s_np S) + 1), .ref B.1.2.2.1, va_rf (oA B (s_hd S)), .ref B.1.2.2.2, .int (nI (s_nc S)), .long (s_po S), .int (s_wy S), .int (s_at S), .int (s_of S)] := by
  rw [nI_1]
  show [Value.ref B.1.2.1, Value.int (nI (s_np S + 1)), Value.ref B.1.2.2.1, va_rf (oA (addB B S q qa) (s_hd S)), _, _, _, _, _, _] = _
  rw [oA_add hI.2.2.2.2.2.1]
theorem nI_p1 (n : Nat) : nI n + 1 - 1 = nI n := by rw [nI_1, nI_pred]
theorem pcell_new {B : zB} {S : zS} {q qa kk nn : Nat} : pcell (addB B S q qa) (addS S kk nn) (s_np S) = if isPc kk = true then .inr (2, [.int (nI (s_np S)), .int (nI kk), .int (nI nn), .int 0]) else if isRw kk = true then .inr (3, [.int (nI (s_np S)), .int (nI kk), .ref qa]) else .inr (1, [.int (nI (s_np S)), .int (nI kk), .ref qa]) := by
  unfold pcell
  dsimp only [addB, addS, s_kd, s_sz, s_wr]
  simp only [va_up_self, pk_us]
set_option maxRecDepth 100000 in
set_option maxHeartbeats 4000000 in
theorem c_X5_prop (l : Launch) (G : zm_G) (A : Nat → Prop) (B : zB) (S : zS) (M : zm_M) (k n : Int32) (hI : zInv S) (hR : RepC G B S M) : Met l yX5_prop (zm_W yX5_prop cX5_prop 3 (some .int)) (zm_rm 4 2 18) (zm_Pc G [.ref B.1.1, .int k, .int n] A M) (zm_Q G (fun r M' => ∃ B', B'.1 = B.1 ∧ r = some (.int (sp_prop S k n).1) ∧ RepC G B' (sp_prop S k n).2 M') A) 2 18 A := by
  refine zm_start (by decide) (Nat.le_of_ble_eq_true rfl) ?_
  intro p e s m below meth c hx hb hml hr hts hown hlk hnm hE hA ls hl hM hS
  have hl : lv_has ls 3 [(0, .ref B.1.1), (1, .int k), (2, .int n)] := hl
  refine lv_iload_n hx hb dX5_prop_0 rfl (lv_at hl 1 rfl) ?_
  refine lv_if_lt (tgt := 22) hx hb dX5_prop_1 (by decide) (fun c1 => ?_) (fun c1 => ?_)
  · refine lv_bipush (v := (-2)) hx hb dX5_prop_22 (by decide) ?_
    refine zm_iret hx hb hr hlk hM hS ?_ ⟨Nat.le_of_ble_eq_true rfl, Nat.le_of_ble_eq_true rfl⟩ dX5_prop_24
    first | exact ⟨B, rfl, by rw [prop_bad1 (ix_lt c1)], by rw [prop_bad1 (ix_lt c1)]; exact hR⟩ | exact ⟨B, rfl, by rw [prop_bad1 (ix_ge ((lt_pred (z := 16) (by decide)).mp c7))], by rw [prop_bad1 (ix_ge ((lt_pred (z := 16) (by decide)).mp c7))]; exact hR⟩ | exact ⟨B, rfl, by rw [prop_bad2 hik (ix_lt c11)], by rw [prop_bad2 hik (ix_lt c11)]; exact hR⟩ | exact ⟨B, rfl, by rw [prop_bad2 hik (ix_ge (Classical.not_not.mp (fun z => c19 (most_n.mpr z))))], by rw [prop_bad2 hik (ix_ge (Classical.not_not.mp (fun z => c19 (most_n.mpr z))))]; exact hR⟩
  · refine lv_iload_n hx hb dX5_prop_4 rfl (lv_at hl 1 rfl) ?_
    refine lv_bipush (v := 15) hx hb dX5_prop_5 (by decide) ?_
    refine lv_icmp_gt (tgt := 22) hx hb dX5_prop_7 (by decide) (fun c7 => ?_) (fun c7 => ?_)
    · refine lv_bipush (v := (-2)) hx hb dX5_prop_22 (by decide) ?_
      refine zm_iret hx hb hr hlk hM hS ?_ ⟨Nat.le_of_ble_eq_true rfl, Nat.le_of_ble_eq_true rfl⟩ dX5_prop_24
      first | exact ⟨B, rfl, by rw [prop_bad1 (ix_lt c1)], by rw [prop_bad1 (ix_lt c1)]; exact hR⟩ | exact ⟨B, rfl, by rw [prop_bad1 (ix_ge ((lt_pred (z := 16) (by decide)).mp c7))], by rw [prop_bad1 (ix_ge ((lt_pred (z := 16) (by decide)).mp c7))]; exact hR⟩ | exact ⟨B, rfl, by rw [prop_bad2 hik (ix_lt c11)], by rw [prop_bad2 hik (ix_lt c11)]; exact hR⟩ | exact ⟨B, rfl, by rw [prop_bad2 hik (ix_ge (Classical.not_not.mp (fun z => c19 (most_n.mpr z))))], by rw [prop_bad2 hik (ix_ge (Classical.not_not.mp (fun z => c19 (most_n.mpr z))))]; exact hR⟩
    · obtain ⟨kk, hkk, rfl, hik⟩ := ix_in (n := 16) (by decide) c1 ((le_pred (z := 16) (by decide)).mp c7)
      refine lv_iload_n hx hb dX5_prop_10 rfl (lv_at hl 2 rfl) ?_
      refine lv_if_lt (tgt := 22) hx hb dX5_prop_11 (by decide) (fun c11 => ?_) (fun c11 => ?_)
      · refine lv_bipush (v := (-2)) hx hb dX5_prop_22 (by decide) ?_
        refine zm_iret hx hb hr hlk hM hS ?_ ⟨Nat.le_of_ble_eq_true rfl, Nat.le_of_ble_eq_true rfl⟩ dX5_prop_24
        first | exact ⟨B, rfl, by rw [prop_bad1 (ix_lt c1)], by rw [prop_bad1 (ix_lt c1)]; exact hR⟩ | exact ⟨B, rfl, by rw [prop_bad1 (ix_ge ((lt_pred (z := 16) (by decide)).mp c7))], by rw [prop_bad1 (ix_ge ((lt_pred (z := 16) (by decide)).mp c7))]; exact hR⟩ | exact ⟨B, rfl, by rw [prop_bad2 hik (ix_lt c11)], by rw [prop_bad2 hik (ix_lt c11)]; exact hR⟩ | exact ⟨B, rfl, by rw [prop_bad2 hik (ix_ge (Classical.not_not.mp (fun z => c19 (most_n.mpr z))))], by rw [prop_bad2 hik (ix_ge (Classical.not_not.mp (fun z => c19 (most_n.mpr z))))]; exact hR⟩
      · refine lv_iload_n hx hb dX5_prop_14 rfl (lv_at hl 2 rfl) ?_
        refine lv_iload_n hx hb dX5_prop_15 rfl (lv_at hl 1 rfl) ?_
        refine zm_callS (As := [.int (nI kk)]) (rest := [.int n]) hx hb hml hts hown hE hA hM hS (c_X5_mostOf l G A _ kk hkk) cd_X5_mostOf ml_X5_28 rfl rfl hl.1 (Nat.le_of_ble_eq_true rfl) ⟨Nat.le_of_ble_eq_true rfl, Nat.le_of_ble_eq_true rfl⟩ ⟨Nat.le_of_ble_eq_true rfl, Nat.le_of_ble_eq_true rfl⟩ dX5_prop_16 ?_
        rintro r M1 H locs ⟨rfl, e1⟩ hM hS
        rw [e1] at hM
        clear e1 M1
        refine W.eq (g2 := F0 m 19 ls [.int (nI (if isPc kk = true then 100 else 5)), .int n]) rfl ?_
        refine lv_icmp_le (tgt := 25) hx hb dX5_prop_19 (by decide) (fun c19 => ?_) (fun c19 => ?_)
        · obtain ⟨nn, hnn, rfl, hin⟩ := ix_in (n := if isPc kk = true then 101 else 6) (by split <;> decide) c11 (most_n.mp c19)
          have h50 := hI.1
          refine lv_aload_n hx hb dX5_prop_25 rfl (lv_at hl 0 rfl) ?_
          refine zm_get hx hb hts hown hE hM hR.1 fl_X5_32_4 rfl dX5_prop_26 ?_
          refine lv_bipush (v := 50) hx hb dX5_prop_29 (by decide) ?_
          refine lv_icmp_lt (tgt := 37) hx hb dX5_prop_31 (by decide) (fun c31 => ?_) (fun c31 => ?_)
          · have hnp : ¬ s_np S = 50 := by rw [show (50 : Int32) = nI 50 from rfl, nI_ltI (by omega) (by omega)] at c31; omega
            refine lv_aload_n hx hb dX5_prop_37 rfl (lv_at hl 0 rfl) ?_
            refine zm_get hx hb hts hown hE hM hR.1 fl_X5_11_4 rfl dX5_prop_38 ?_
            refine lv_aload_n hx hb dX5_prop_41 rfl (lv_at hl 0 rfl) ?_
            refine zm_get hx hb hts hown hE hM hR.1 fl_X5_32_4 rfl dX5_prop_42 ?_
            refine lv_aload_n hx hb dX5_prop_45 rfl (lv_at hl 0 rfl) ?_
            refine zm_get hx hb hts hown hE hM hR.1 fl_X5_32_4 rfl dX5_prop_46 ?_
            refine lv_iload_n hx hb dX5_prop_49 rfl (lv_at hl 1 rfl) ?_
            refine lv_iload_n hx hb dX5_prop_50 rfl (lv_at hl 2 rfl) ?_
            obtain ⟨f1, h1, e1⟩ := hR.2.1
            have h0 := hR.1
            refine zm_callS (As := [.int (nI (s_np S)), .int (nI kk), .int (nI nn)]) (rest := [.int (nI (s_np S)), .ref B.1.2.1]) hx hb hml hts hown hE hA hM hS (c_X5_newProp l G A _ (nI (s_np S)) kk nn hkk (by split at hnn <;> omega) (fun z => by rw [if_neg (by rw [z]; decide)] at hnn; omega)) cd_X5_newProp ml_X5_35 rfl rfl hl.1 (Nat.le_of_ble_eq_true rfl) ⟨Nat.le_of_ble_eq_true rfl, Nat.le_of_ble_eq_true rfl⟩ ⟨Nat.le_of_ble_eq_true rfl, Nat.le_of_ble_eq_true rfl⟩ dX5_prop_51 ?_
            rintro r M1 H locs ⟨q, rfl, hq, ⟨hk, rfl⟩ | ⟨hk, qa, hne, hqa, rfl⟩ | ⟨hk, qa, hne, hqa, rfl⟩⟩ hM hS
            · have hvq := @zm_up_s M q (.inr (2, [.int (nI (s_np S)), .int (nI kk), .int (nI nn), .int 0]))
              have h1q := zm_up_k (e := .inr (2, [.int (nI (s_np S)), .int (nI kk), .int (nI nn), .int 0])) (zm_neN h1 hq) h1
              have h0q := zm_up_k (e := .inr (2, [.int (nI (s_np S)), .int (nI kk), .int (nI nn), .int 0])) (zm_neN h0 hq) h0
              refine W.eq (g2 := F0 m 54 ls [.ref q, .int (nI (s_np S)), .ref B.1.2.1]) rfl ?_
              refine zm_astP hx hb hE hM hS h1q hvq (Or.inr (Or.inl rfl)) (vp_in_nI (show s_np S < 50 by omega) (by decide)) dX5_prop_54 (fun H locs hM hS => ?_)
              rw [nI_clamp (by omega)] at hM
              have h0r := zm_up_k (e := zm_R G 50 (va_up f1 (s_np S) (some q))) (zm_ne h0q h1q (by simp)) h0q
              refine lv_aload_n hx hb dX5_prop_55 rfl (lv_at hl 0 rfl) ?_
              refine lv_dup hx hb dX5_prop_56 rfl ?_
              refine zm_get hx hb hts hown hE hM h0r fl_X5_32_4 rfl dX5_prop_57 ?_
              refine lv_iconst (v := 1) hx hb dX5_prop_60 (by decide) ?_
              refine lv_iadd hx hb dX5_prop_61 ?_
              refine zm_put hx hb hts hown hE hM hS h0r fp_X5_32_4 rfl rfl (Nat.le_of_ble_eq_true rfl) dX5_prop_62 (fun H locs hM hS => ?_)
              refine lv_aload_n hx hb dX5_prop_65 rfl (lv_at hl 0 rfl) ?_
              refine zm_get hx hb hts hown hE hM zm_up_s fl_X5_32_4 rfl dX5_prop_66 ?_
              refine lv_iconst (v := 1) hx hb dX5_prop_69 (by decide) ?_
              refine lv_isub hx hb dX5_prop_70 ?_
              refine zm_iret hx hb hr hlk hM hS ?_ ⟨Nat.le_of_ble_eq_true rfl, Nat.le_of_ble_eq_true rfl⟩ dX5_prop_71
              rw [prop_ok hik hin hnp]
              refine ⟨addB B S q 0, rfl, by rw [nI_p1], hR.add (f1 := f1) hI e1 (fun z => by rw [hk] at z; cases z) ?_ ?_ ?_ ?_ ?_ ?_⟩
              · rw [objC_add hI]; exact zm_up_s
              · exact zm_up_k (zm_ne h1q h0q (by simp)) zm_up_s
              · have e := pcell_new (B := B) (S := S) (q := q) (qa := 0) (kk := kk) (nn := nn); rw [if_pos hk] at e; rw [e]; exact zm_up_k (zm_neN h0 hq).symm (zm_up_k (zm_neN h1 hq).symm hvq)
              · intro z; rw [pc_rw hk] at z; cases z
              · intro z; exact absurd (pc3 hk) (by omega)
              · intro y e hy n0 n1; exact zm_up_k n0 (zm_up_k n1 (zm_up_k (zm_neN hy hq) hy))
            · have hvq := @zm_up_s (zm_up M qa (zm_R G nn (fun _ => none))) q (.inr (3, [.int (nI (s_np S)), .int (nI kk), .ref qa]))
              have h1q := zm_up_k (e := .inr (3, [.int (nI (s_np S)), .int (nI kk), .ref qa])) (zm_neN h1 hq) (zm_up_k (e := (zm_R G nn (fun _ => none))) (zm_neN h1 hqa) h1)
              have h0q := zm_up_k (e := .inr (3, [.int (nI (s_np S)), .int (nI kk), .ref qa])) (zm_neN h0 hq) (zm_up_k (e := (zm_R G nn (fun _ => none))) (zm_neN h0 hqa) h0)
              refine W.eq (g2 := F0 m 54 ls [.ref q, .int (nI (s_np S)), .ref B.1.2.1]) rfl ?_
              refine zm_astP hx hb hE hM hS h1q hvq (Or.inr (Or.inr rfl)) (vp_in_nI (show s_np S < 50 by omega) (by decide)) dX5_prop_54 (fun H locs hM hS => ?_)
              rw [nI_clamp (by omega)] at hM
              have h0r := zm_up_k (e := zm_R G 50 (va_up f1 (s_np S) (some q))) (zm_ne h0q h1q (by simp)) h0q
              refine lv_aload_n hx hb dX5_prop_55 rfl (lv_at hl 0 rfl) ?_
              refine lv_dup hx hb dX5_prop_56 rfl ?_
              refine zm_get hx hb hts hown hE hM h0r fl_X5_32_4 rfl dX5_prop_57 ?_
              refine lv_iconst (v := 1) hx hb dX5_prop_60 (by decide) ?_
              refine lv_iadd hx hb dX5_prop_61 ?_
              refine zm_put hx hb hts hown hE hM hS h0r fp_X5_32_4 rfl rfl (Nat.le_of_ble_eq_true rfl) dX5_prop_62 (fun H locs hM hS => ?_)
              refine lv_aload_n hx hb dX5_prop_65 rfl (lv_at hl 0 rfl) ?_
              refine zm_get hx hb hts hown hE hM zm_up_s fl_X5_32_4 rfl dX5_prop_66 ?_
              refine lv_iconst (v := 1) hx hb dX5_prop_69 (by decide) ?_
              refine lv_isub hx hb dX5_prop_70 ?_
              refine zm_iret hx hb hr hlk hM hS ?_ ⟨Nat.le_of_ble_eq_true rfl, Nat.le_of_ble_eq_true rfl⟩ dX5_prop_71
              rw [prop_ok hik hin hnp]
              refine ⟨addB B S q qa, rfl, by rw [nI_p1], hR.add (f1 := f1) hI e1 (fun _ => hqa) ?_ ?_ ?_ ?_ ?_ ?_⟩
              · rw [objC_add hI]; exact zm_up_s
              · exact zm_up_k (zm_ne h1q h0q (by simp)) zm_up_s
              · have e := pcell_new (B := B) (S := S) (q := q) (qa := qa) (kk := kk) (nn := nn); rw [if_neg (by rw [rw_pc hk]; decide), if_pos hk] at e; rw [e]; exact zm_up_k (zm_neN h0 hq).symm (zm_up_k (zm_neN h1 hq).symm hvq)
              · intro _; exact zm_up_k (zm_neN h0 hqa).symm (zm_up_k (zm_neN h1 hqa).symm (zm_up_k hne zm_up_s))
              · intro z; exact absurd (rw3 hk) (by omega)
              · intro y e hy n0 n1; exact zm_up_k n0 (zm_up_k n1 (zm_up_k (zm_neN hy hq) (zm_up_k (zm_neN hy hqa) hy)))
            · have hvq := @zm_up_s (zm_up M qa (zm_J G (if kk = 3 then 3 * nn else nn) (fun _ => 0))) q (.inr (1, [.int (nI (s_np S)), .int (nI kk), .ref qa]))
              have h1q := zm_up_k (e := .inr (1, [.int (nI (s_np S)), .int (nI kk), .ref qa])) (zm_neN h1 hq) (zm_up_k (e := (zm_J G (if kk = 3 then 3 * nn else nn) (fun _ => 0))) (zm_neN h1 hqa) h1)
              have h0q := zm_up_k (e := .inr (1, [.int (nI (s_np S)), .int (nI kk), .ref qa])) (zm_neN h0 hq) (zm_up_k (e := (zm_J G (if kk = 3 then 3 * nn else nn) (fun _ => 0))) (zm_neN h0 hqa) h0)
              refine W.eq (g2 := F0 m 54 ls [.ref q, .int (nI (s_np S)), .ref B.1.2.1]) rfl ?_
              refine zm_astP hx hb hE hM hS h1q hvq (Or.inl rfl) (vp_in_nI (show s_np S < 50 by omega) (by decide)) dX5_prop_54 (fun H locs hM hS => ?_)
              rw [nI_clamp (by omega)] at hM
              have h0r := zm_up_k (e := zm_R G 50 (va_up f1 (s_np S) (some q))) (zm_ne h0q h1q (by simp)) h0q
              refine lv_aload_n hx hb dX5_prop_55 rfl (lv_at hl 0 rfl) ?_
              refine lv_dup hx hb dX5_prop_56 rfl ?_
              refine zm_get hx hb hts hown hE hM h0r fl_X5_32_4 rfl dX5_prop_57 ?_
              refine lv_iconst (v := 1) hx hb dX5_prop_60 (by decide) ?_
              refine lv_iadd hx hb dX5_prop_61 ?_
              refine zm_put hx hb hts hown hE hM hS h0r fp_X5_32_4 rfl rfl (Nat.le_of_ble_eq_true rfl) dX5_prop_62 (fun H locs hM hS => ?_)
              refine lv_aload_n hx hb dX5_prop_65 rfl (lv_at hl 0 rfl) ?_
              refine zm_get hx hb hts hown hE hM zm_up_s fl_X5_32_4 rfl dX5_prop_66 ?_
              refine lv_iconst (v := 1) hx hb dX5_prop_69 (by decide) ?_
              refine lv_isub hx hb dX5_prop_70 ?_
              refine zm_iret hx hb hr hlk hM hS ?_ ⟨Nat.le_of_ble_eq_true rfl, Nat.le_of_ble_eq_true rfl⟩ dX5_prop_71
              rw [prop_ok hik hin hnp]
              refine ⟨addB B S q qa, rfl, by rw [nI_p1], hR.add (f1 := f1) hI e1 (fun _ => hqa) ?_ ?_ ?_ ?_ ?_ ?_⟩
              · rw [objC_add hI]; exact zm_up_s
              · exact zm_up_k (zm_ne h1q h0q (by simp)) zm_up_s
              · have e := pcell_new (B := B) (S := S) (q := q) (qa := qa) (kk := kk) (nn := nn); rw [if_neg (by rw [lt4_pc hk]; decide), if_neg (by rw [lt4_rw hk]; decide)] at e; rw [e]; exact zm_up_k (zm_neN h0 hq).symm (zm_up_k (zm_neN h1 hq).symm hvq)
              · intro z; rw [lt4_rw hk] at z; cases z
              · intro _; exact zm_up_k (zm_neN h0 hqa).symm (zm_up_k (zm_neN h1 hqa).symm (zm_up_k hne zm_up_s))
              · intro y e hy n0 n1; exact zm_up_k n0 (zm_up_k n1 (zm_up_k (zm_neN hy hq) (zm_up_k (zm_neN hy hqa) hy)))
          · refine lv_bipush (v := (-3)) hx hb dX5_prop_34 (by decide) ?_
            refine zm_iret hx hb hr hlk hM hS ?_ ⟨Nat.le_of_ble_eq_true rfl, Nat.le_of_ble_eq_true rfl⟩ dX5_prop_36
            have h3 : s_np S = 50 := by rw [show (50 : Int32) = nI 50 from rfl, nI_ltI (by omega) (by omega)] at c31; omega
            exact ⟨B, rfl, by rw [prop_full hik hin h3], by rw [prop_full hik hin h3]; exact hR⟩
        · refine lv_bipush (v := (-2)) hx hb dX5_prop_22 (by decide) ?_
          refine zm_iret hx hb hr hlk hM hS ?_ ⟨Nat.le_of_ble_eq_true rfl, Nat.le_of_ble_eq_true rfl⟩ dX5_prop_24
          first | exact ⟨B, rfl, by rw [prop_bad1 (ix_lt c1)], by rw [prop_bad1 (ix_lt c1)]; exact hR⟩ | exact ⟨B, rfl, by rw [prop_bad1 (ix_ge ((lt_pred (z := 16) (by decide)).mp c7))], by rw [prop_bad1 (ix_ge ((lt_pred (z := 16) (by decide)).mp c7))]; exact hR⟩ | exact ⟨B, rfl, by rw [prop_bad2 hik (ix_lt c11)], by rw [prop_bad2 hik (ix_lt c11)]; exact hR⟩ | exact ⟨B, rfl, by rw [prop_bad2 hik (ix_ge (Classical.not_not.mp (fun z => c19 (most_n.mpr z))))], by rw [prop_bad2 hik (ix_ge (Classical.not_not.mp (fun z => c19 (most_n.mpr z))))]; exact hR⟩
set_option maxRecDepth 20000 in
theorem av_tab : ∀ a, a < 6 → ∀ v, v < 17 → decide ((zm_tv 1 a >>> (nI v &&& 31)) &&& 1 = 1) = hasV a v := by decide +kernel
theorem cue_bad {S : zS} {a x v i : Int32} (h : ix 6 a = none ∨ ix 10 x = none ∨ ix 17 v = none ∨ ix 10 i = none) : sp_cue S a x v i = (-2, S) := by
  unfold sp_cue
  rcases h with h | h | h | h <;> rw [h]
  · cases ix 6 a <;> rfl
  · cases ix 6 a <;> cases ix 10 x <;> rfl
  · cases ix 6 a <;> cases ix 10 x <;> cases ix 17 v <;> rfl
theorem cue_has {S : zS} {a x v i : Int32} {aa xx vv ii : Nat} (h1 : ix 6 a = some aa) (h2 : ix 10 x = some xx) (h3 : ix 17 v = some vv) (h4 : ix 10 i = some ii) (h : hasV aa vv = false) : sp_cue S a x v i = (-2, S) := by unfold sp_cue; rw [h1, h2, h3, h4]; show (if hasV aa vv = false then _ else _) = _; rw [if_pos h]
theorem cue_full {S : zS} {a x v i : Int32} {aa xx vv ii : Nat} (h1 : ix 6 a = some aa) (h2 : ix 10 x = some xx) (h3 : ix 17 v = some vv) (h4 : ix 10 i = some ii) (h : hasV aa vv = true) (hn : s_nc S = 30) : sp_cue S a x v i = (-3, S) := by unfold sp_cue; rw [h1, h2, h3, h4]; show (if hasV aa vv = false then _ else _) = _; rw [if_neg (by rw [h]; decide), if_pos hn]
theorem cue_ok {S : zS} {a x v i : Int32} {aa xx vv ii : Nat} (h1 : ix 6 a = some aa) (h2 : ix 10 x = some xx) (h3 : ix 17 v = some vv) (h4 : ix 10 i = some ii) (h : hasV aa vv = true) (hn : ¬ s_nc S = 30) : sp_cue S a x v i = (nI (s_nc S), w_cu S (s_nc S + 1) (va_up (s_cu S) (s_nc S) (aa, xx, vv, ii))) := by unfold sp_cue; rw [h1, h2, h3, h4]; show (if hasV aa vv = false then _ else _) = _; rw [if_neg (by rw [h]; decide), if_neg hn]
theorem objC_addC {B : zB} {S : zS} (q : Nat) (t : Nat × Nat × Nat × Nat) : objC (addCB B S q) (w_cu S (s_nc S + 1) (va_up (s_cu S) (s_nc S) t)) = [.ref B.1.2.1, .int (nI (s_np S)), .ref B.1.2.2.1, va_rf (oA B (s_hd S)), .ref B.1.2.2.2, .int (nI (s_nc S) + 1), .long (s_po S), .int (s_wy S), .int (s_at S), .int (s_of S)] := by rw [nI_1]; rfl
set_option maxRecDepth 100000 in
set_option maxHeartbeats 4000000 in
theorem c_X5_cue (l : Launch) (G : zm_G) (A : Nat → Prop) (B : zB) (S : zS) (M : zm_M) (a x v i : Int32) (hI : zInv S) (hR : RepC G B S M) : Met l yX5_cue (zm_W yX5_cue cX5_cue 5 (some .int)) (zm_rm 2 1 4) (zm_Pc G [.ref B.1.1, .int a, .int x, .int v, .int i] A M) (zm_Q G (fun r M' => ∃ B', B'.1 = B.1 ∧ r = some (.int (sp_cue S a x v i).1) ∧ RepC G B' (sp_cue S a x v i).2 M') A) 1 4 A := by
  refine zm_start (by decide) (Nat.le_of_ble_eq_true rfl) ?_
  intro p e s m below meth c hx hb hml hr hts hown hlk hnm hE hA ls hl hM hS
  have hl : lv_has ls 5 [(0, .ref B.1.1), (1, .int a), (2, .int x), (3, .int v), (4, .int i)] := hl
  refine lv_iload_n hx hb dX5_cue_0 rfl (lv_at hl 1 rfl) ?_
  refine lv_if_lt (tgt := 31) hx hb dX5_cue_1 (by decide) (fun c1 => ?_) (fun c1 => ?_)
  · refine lv_bipush (v := (-2)) hx hb dX5_cue_31 (by decide) ?_
    refine zm_iret hx hb hr hlk hM hS ?_ ⟨Nat.le_of_ble_eq_true rfl, Nat.le_of_ble_eq_true rfl⟩ dX5_cue_33
    have hs : sp_cue S a x v i = (-2, S) := cue_bad (by first | exact Or.inl (ix_lt c1) | exact Or.inl (ix_ge ((lt_pred (z := 6) (by decide)).mp c6)) | exact Or.inr (Or.inl (isS_f (bI_0.mp c13))) | exact Or.inr (Or.inr (Or.inl (isS_f (bI_0.mp c20)))) | exact Or.inr (Or.inr (Or.inr (isS_f (bI_0.mp c28)))))
    exact ⟨B, rfl, by rw [hs], by rw [hs]; exact hR⟩
  · refine lv_iload_n hx hb dX5_cue_4 rfl (lv_at hl 1 rfl) ?_
    refine lv_iconst (v := 5) hx hb dX5_cue_5 (by decide) ?_
    refine lv_icmp_gt (tgt := 31) hx hb dX5_cue_6 (by decide) (fun c6 => ?_) (fun c6 => ?_)
    · refine lv_bipush (v := (-2)) hx hb dX5_cue_31 (by decide) ?_
      refine zm_iret hx hb hr hlk hM hS ?_ ⟨Nat.le_of_ble_eq_true rfl, Nat.le_of_ble_eq_true rfl⟩ dX5_cue_33
      have hs : sp_cue S a x v i = (-2, S) := cue_bad (by first | exact Or.inl (ix_lt c1) | exact Or.inl (ix_ge ((lt_pred (z := 6) (by decide)).mp c6)) | exact Or.inr (Or.inl (isS_f (bI_0.mp c13))) | exact Or.inr (Or.inr (Or.inl (isS_f (bI_0.mp c20)))) | exact Or.inr (Or.inr (Or.inr (isS_f (bI_0.mp c28)))))
      exact ⟨B, rfl, by rw [hs], by rw [hs]; exact hR⟩
    · obtain ⟨aa, haa, rfl, hia⟩ := ix_in (n := 6) (by decide) c1 ((le_pred (z := 6) (by decide)).mp c6)
      refine lv_iload_n hx hb dX5_cue_9 rfl (lv_at hl 2 rfl) ?_
      refine zm_callS (As := [.int x]) (rest := []) hx hb hml hts hown hE hA hM hS (c_X5_isSlot l G A _ x) cd_X5_isSlot ml_X5_49 rfl rfl hl.1 (Nat.le_of_ble_eq_true rfl) ⟨Nat.le_of_ble_eq_true rfl, Nat.le_of_ble_eq_true rfl⟩ ⟨Nat.le_of_ble_eq_true rfl, Nat.le_of_ble_eq_true rfl⟩ dX5_cue_10 ?_
      rintro r M1 H locs ⟨rfl, e1⟩ hM hS
      rw [e1] at hM
      clear e1 M1
      refine W.eq (g2 := F0 m 13 ls [.int (bI ((ix 10 x).isSome))]) rfl ?_
      refine lv_if_eq (tgt := 31) hx hb dX5_cue_13 (by decide) (fun c13 => ?_) (fun c13 => ?_)
      · refine lv_bipush (v := (-2)) hx hb dX5_cue_31 (by decide) ?_
        refine zm_iret hx hb hr hlk hM hS ?_ ⟨Nat.le_of_ble_eq_true rfl, Nat.le_of_ble_eq_true rfl⟩ dX5_cue_33
        have hs : sp_cue S (nI aa) x v i = (-2, S) := cue_bad (by first | exact Or.inl (ix_lt c1) | exact Or.inl (ix_ge ((lt_pred (z := 6) (by decide)).mp c6)) | exact Or.inr (Or.inl (isS_f (bI_0.mp c13))) | exact Or.inr (Or.inr (Or.inl (isS_f (bI_0.mp c20)))) | exact Or.inr (Or.inr (Or.inr (isS_f (bI_0.mp c28)))))
        exact ⟨B, rfl, by rw [hs], by rw [hs]; exact hR⟩
      · rw [bI_n] at c13
        obtain ⟨xx, hxi⟩ := isS_t c13
        obtain ⟨hxx, rfl⟩ := ix_some (by decide) hxi
        refine lv_iload_n hx hb dX5_cue_16 rfl (lv_at hl 3 rfl) ?_
        refine zm_callS (As := [.int v]) (rest := []) hx hb hml hts hown hE hA hM hS (c_X5_isView l G A _ v) cd_X5_isView ml_X5_61 rfl rfl hl.1 (Nat.le_of_ble_eq_true rfl) ⟨Nat.le_of_ble_eq_true rfl, Nat.le_of_ble_eq_true rfl⟩ ⟨Nat.le_of_ble_eq_true rfl, Nat.le_of_ble_eq_true rfl⟩ dX5_cue_17 ?_
        rintro r M1 H locs ⟨rfl, e1⟩ hM hS
        rw [e1] at hM
        clear e1 M1
        refine W.eq (g2 := F0 m 20 ls [.int (bI ((ix 17 v).isSome))]) rfl ?_
        refine lv_if_eq (tgt := 31) hx hb dX5_cue_20 (by decide) (fun c20 => ?_) (fun c20 => ?_)
        · refine lv_bipush (v := (-2)) hx hb dX5_cue_31 (by decide) ?_
          refine zm_iret hx hb hr hlk hM hS ?_ ⟨Nat.le_of_ble_eq_true rfl, Nat.le_of_ble_eq_true rfl⟩ dX5_cue_33
          have hs : sp_cue S (nI aa) (nI xx) v i = (-2, S) := cue_bad (by first | exact Or.inl (ix_lt c1) | exact Or.inl (ix_ge ((lt_pred (z := 6) (by decide)).mp c6)) | exact Or.inr (Or.inl (isS_f (bI_0.mp c13))) | exact Or.inr (Or.inr (Or.inl (isS_f (bI_0.mp c20)))) | exact Or.inr (Or.inr (Or.inr (isS_f (bI_0.mp c28)))))
          exact ⟨B, rfl, by rw [hs], by rw [hs]; exact hR⟩
        · rw [bI_n] at c20
          obtain ⟨vv, hvi⟩ := isS_t c20
          obtain ⟨hvv, rfl⟩ := ix_some (by decide) hvi
          refine lv_iload hx hb dX5_cue_23 (lv_at hl 4 rfl) ?_
          refine zm_callS (As := [.int i]) (rest := []) hx hb hml hts hown hE hA hM hS (c_X5_isSlot l G A _ i) cd_X5_isSlot ml_X5_49 rfl rfl hl.1 (Nat.le_of_ble_eq_true rfl) ⟨Nat.le_of_ble_eq_true rfl, Nat.le_of_ble_eq_true rfl⟩ ⟨Nat.le_of_ble_eq_true rfl, Nat.le_of_ble_eq_true rfl⟩ dX5_cue_25 ?_
          rintro r M1 H locs ⟨rfl, e1⟩ hM hS
          rw [e1] at hM
          clear e1 M1
          refine W.eq (g2 := F0 m 28 ls [.int (bI ((ix 10 i).isSome))]) rfl ?_
          refine lv_if_ne (tgt := 34) hx hb dX5_cue_28 (by decide) (fun c28 => ?_) (fun c28 => ?_)
          · rw [bI_n] at c28
            obtain ⟨ii, hii⟩ := isS_t c28
            obtain ⟨hi10, rfl⟩ := ix_some (by decide) hii
            have h30 := hI.2.1
            refine zm_gets hx hb hts hown hE hS 1 (by decide) st_X5_64 dX5_cue_34 ?_
            refine lv_iload_n hx hb dX5_cue_37 rfl (lv_at hl 1 rfl) ?_
            refine zm_tab hx hb hE hS 1 (by decide) (vp_in_nI (show aa < 6 from haa) (by decide)) dX5_cue_38 ?_
            refine zt_eq (v' := .int (zm_tv 1 aa)) (by rw [nI_clamp (by omega)]) ?_
            refine lv_iload_n hx hb dX5_cue_39 rfl (lv_at hl 3 rfl) ?_
            refine zm_callS (As := [.int (zm_tv 1 aa), .int (nI vv)]) (rest := []) hx hb hml hts hown hE hA hM hS (c_X5_isAmong l G A _ (zm_tv 1 aa) (nI vv)) cd_X5_isAmong ml_X5_68 rfl rfl hl.1 (Nat.le_of_ble_eq_true rfl) ⟨Nat.le_of_ble_eq_true rfl, Nat.le_of_ble_eq_true rfl⟩ ⟨Nat.le_of_ble_eq_true rfl, Nat.le_of_ble_eq_true rfl⟩ dX5_cue_40 ?_
            rintro r M1 H locs ⟨rfl, e1⟩ hM hS
            rw [e1] at hM
            clear e1 M1
            refine W.eq (g2 := F0 m 43 ls [.int (bI (decide (((zm_tv 1 aa) >>> ((nI vv) &&& 31)) &&& 1 = 1)))]) rfl ?_
            refine lv_if_ne (tgt := 49) hx hb dX5_cue_43 (by decide) (fun c43 => ?_) (fun c43 => ?_)
            · rw [av_tab _ haa _ hvv, bI_n] at c43
              refine lv_aload_n hx hb dX5_cue_49 rfl (lv_at hl 0 rfl) ?_
              refine zm_get hx hb hts hown hE hM hR.1 fl_X5_71_4 rfl dX5_cue_50 ?_
              refine lv_bipush (v := 30) hx hb dX5_cue_53 (by decide) ?_
              refine lv_icmp_lt (tgt := 61) hx hb dX5_cue_55 (by decide) (fun c55 => ?_) (fun c55 => ?_)
              · have hnc : ¬ s_nc S = 30 := by rw [show (30 : Int32) = nI 30 from rfl, nI_ltI (by omega) (by omega)] at c55; omega
                refine lv_aload_n hx hb dX5_cue_61 rfl (lv_at hl 0 rfl) ?_
                refine zm_get hx hb hts hown hE hM hR.1 fl_X5_20_4 rfl dX5_cue_62 ?_
                refine lv_aload_n hx hb dX5_cue_65 rfl (lv_at hl 0 rfl) ?_
                refine zm_get hx hb hts hown hE hM hR.1 fl_X5_71_4 rfl dX5_cue_66 ?_
                obtain ⟨f3, h3, e3⟩ := hR.2.2.2.1
                have h0 := hR.1
                refine zm_new (fs := [.int 0, .int 0, .int 0, .int 0]) hx hb hts hown hE hA hM hS 0 rfl inlX0 tyX0 tyX0_ok clk_X5_18 in_X0.1 in_X0.2 (fun j hj => by rcases (show j = 0 ∨ j = 1 ∨ j = 2 ∨ j = 3 by omega) with rfl | rfl | rfl | rfl <;> rfl) (Nat.le_of_ble_eq_true rfl) (Nat.le_of_ble_eq_true rfl) dX5_cue_69 (fun q H hq hM hS => ?_)
                refine lv_dup hx hb dX5_cue_72 rfl ?_
                refine lv_iload_n hx hb dX5_cue_73 rfl (lv_at hl 1 rfl) ?_
                refine lv_iload_n hx hb dX5_cue_74 rfl (lv_at hl 2 rfl) ?_
                refine lv_iload_n hx hb dX5_cue_75 rfl (lv_at hl 3 rfl) ?_
                refine lv_iload hx hb dX5_cue_76 (lv_at hl 4 rfl) ?_
                refine zm_callI (As := [.int (nI aa), .int (nI xx), .int (nI vv), .int (nI ii)]) (rest := [.ref q, .int (nI (s_nc S)), .ref B.1.2.2.2]) hx hb hml hts hown hE hA hM hS (c_X0_init l G A _ q (nI aa) (nI xx) (nI vv) (nI ii) zm_up_s) cd_X0_init ml_X5_74 rfl rfl hl.1 (Nat.le_of_ble_eq_true rfl) ⟨Nat.le_of_ble_eq_true rfl, Nat.le_of_ble_eq_true rfl⟩ ⟨Nat.le_of_ble_eq_true rfl, Nat.le_of_ble_eq_true rfl⟩ dX5_cue_78 ?_
                rintro r M1 H locs ⟨rfl, rfl⟩ hM hS
                rw [zm_uu] at hM
                refine W.eq (g2 := F0 m 81 ls [.ref q, .int (nI (s_nc S)), .ref B.1.2.2.2]) rfl ?_
                have hvq := @zm_up_s M q (.inr (0, [.int (nI aa), .int (nI xx), .int (nI vv), .int (nI ii)]))
                have h3q := zm_up_k (e := .inr (0, [.int (nI aa), .int (nI xx), .int (nI vv), .int (nI ii)])) (zm_neN h3 hq) h3
                have h0q := zm_up_k (e := .inr (0, [.int (nI aa), .int (nI xx), .int (nI vv), .int (nI ii)])) (zm_neN h0 hq) h0
                refine zm_astC hx hb hE hM hS h3q hvq (vp_in_nI (show s_nc S < 30 by omega) (by decide)) dX5_cue_81 (fun H locs hM hS => ?_)
                rw [nI_clamp (by omega)] at hM
                have h0r := zm_up_k (e := zm_C G 30 (va_up f3 (s_nc S) (some q))) (zm_ne h0q h3q (by simp)) h0q
                refine lv_aload_n hx hb dX5_cue_82 rfl (lv_at hl 0 rfl) ?_
                refine lv_dup hx hb dX5_cue_83 rfl ?_
                refine zm_get hx hb hts hown hE hM h0r fl_X5_71_4 rfl dX5_cue_84 ?_
                refine lv_iconst (v := 1) hx hb dX5_cue_87 (by decide) ?_
                refine lv_iadd hx hb dX5_cue_88 ?_
                refine zm_put hx hb hts hown hE hM hS h0r fp_X5_71_4 rfl rfl (Nat.le_of_ble_eq_true rfl) dX5_cue_89 (fun H locs hM hS => ?_)
                refine lv_aload_n hx hb dX5_cue_92 rfl (lv_at hl 0 rfl) ?_
                refine zm_get hx hb hts hown hE hM zm_up_s fl_X5_71_4 rfl dX5_cue_93 ?_
                refine lv_iconst (v := 1) hx hb dX5_cue_96 (by decide) ?_
                refine lv_isub hx hb dX5_cue_97 ?_
                refine zm_iret hx hb hr hlk hM hS ?_ ⟨Nat.le_of_ble_eq_true rfl, Nat.le_of_ble_eq_true rfl⟩ dX5_cue_98
                rw [cue_ok hia hxi hvi hii c43 hnc]
                refine ⟨addCB B S q, rfl, by rw [nI_p1], hR.addC (f3 := f3) hI e3 ?_ ?_ ?_ ?_⟩
                · rw [objC_addC]; exact zm_up_s
                · exact zm_up_k (zm_ne h3q h0q (by simp)) zm_up_s
                · exact zm_up_k (zm_neN h0 hq).symm (zm_up_k (zm_neN h3 hq).symm hvq)
                · intro y e hy n0 n1; exact zm_up_k n0 (zm_up_k n1 (zm_up_k (zm_neN hy hq) hy))
              · refine lv_bipush (v := (-3)) hx hb dX5_cue_58 (by decide) ?_
                refine zm_iret hx hb hr hlk hM hS ?_ ⟨Nat.le_of_ble_eq_true rfl, Nat.le_of_ble_eq_true rfl⟩ dX5_cue_60
                have h3 : s_nc S = 30 := by rw [show (30 : Int32) = nI 30 from rfl, nI_ltI (by omega) (by omega)] at c55; omega
                exact ⟨B, rfl, by rw [cue_full hia hxi hvi hii c43 h3], by rw [cue_full hia hxi hvi hii c43 h3]; exact hR⟩
            · rw [av_tab _ haa _ hvv, bI_0] at c43
              refine lv_bipush (v := (-2)) hx hb dX5_cue_46 (by decide) ?_
              refine zm_iret hx hb hr hlk hM hS ?_ ⟨Nat.le_of_ble_eq_true rfl, Nat.le_of_ble_eq_true rfl⟩ dX5_cue_48
              exact ⟨B, rfl, by rw [cue_has hia hxi hvi hii c43], by rw [cue_has hia hxi hvi hii c43]; exact hR⟩
          · refine lv_bipush (v := (-2)) hx hb dX5_cue_31 (by decide) ?_
            refine zm_iret hx hb hr hlk hM hS ?_ ⟨Nat.le_of_ble_eq_true rfl, Nat.le_of_ble_eq_true rfl⟩ dX5_cue_33
            have hs : sp_cue S (nI aa) (nI xx) (nI vv) i = (-2, S) := cue_bad (by first | exact Or.inl (ix_lt c1) | exact Or.inl (ix_ge ((lt_pred (z := 6) (by decide)).mp c6)) | exact Or.inr (Or.inl (isS_f (bI_0.mp c13))) | exact Or.inr (Or.inr (Or.inl (isS_f (bI_0.mp c20)))) | exact Or.inr (Or.inr (Or.inr (isS_f (bI_0.mp c28)))))
            exact ⟨B, rfl, by rw [hs], by rw [hs]; exact hR⟩
set_option maxRecDepth 100000 in
set_option maxHeartbeats 4000000 in
theorem c_X5_init (l : Launch) (G : zm_G) (A : Nat → Prop) (M : zm_M) (a : Nat) (h0 : M a = some (.inr (4, [.null, .int 0, .null, .null, .null, .int 0, .long 0, .int 0, .int 0, .int 0]))) : Met l yX5_init (zm_W yX5_init cX5_init 1 none) (zm_rm 1 3 90) (zm_Pc G [.ref a] A M) (zm_Q G (fun r M' => r = none ∧ ∃ B : zB, B.1.1 = a ∧ RepC G B s_0 M') A) 3 90 A := by
  refine zm_start (by decide) (Nat.le_of_ble_eq_true rfl) ?_
  intro p e s m below meth c hx hb hml hr hts hown hlk hnm hE hA ls hl hM hS
  have hl : lv_has ls 1 [(0, .ref a)] := hl
  refine lv_aload_n hx hb dX5_init_0 rfl (lv_at hl 0 rfl) ?_
  refine zm_objInit hx hb hml hts hown ml_X5_3 hl.1 (by decide) (Nat.le_of_ble_eq_true rfl) dX5_init_1 ?_
  refine lv_aload_n hx hb dX5_init_4 rfl (lv_at hl 0 rfl) ?_
  refine lv_bipush (v := 50) hx hb dX5_init_5 (by decide) ?_
  refine zm_newq hx hb hts hown hE hA hM hS 3 rfl clk_X5_9 hE.2.2.2.1.2 (by decide) (N := 50) (by decide) (by decide) (Nat.le_of_ble_eq_true rfl) (Nat.le_of_ble_eq_true rfl) dX5_init_7 (fun q1 H nq1 hM hS => ?_)
  have h0 := zm_up_k (e := (zm_R G 50 (fun _ => none))) (zm_neN h0 nq1) h0
  have kq1 : zm_up M q1 (zm_R G 50 (fun _ => none)) q1 = some (zm_R G 50 (fun _ => none)) := zm_up_s
  refine zm_putF hx hb hts hown hnm hE hM hS h0 fp_X5_11_4 rfl rfl (Nat.le_of_ble_eq_true rfl) dX5_init_10 (fun H locs hM hS => ?_)
  have hM : zm_P G A (zm_up (zm_up M q1 (zm_R G 50 (fun _ => none))) a (.inr (4, [.ref q1, .int 0, .null, .null, .null, .int 0, .long 0, .int 0, .int 0, .int 0]) : va_E)) H := hM
  have kq1 := zm_up_k (e := (.inr (4, [.ref q1, .int 0, .null, .null, .null, .int 0, .long 0, .int 0, .int 0, .int 0]) : va_E)) (zm_ne kq1 h0 (by simp)) kq1
  have h0 : zm_up (zm_up M q1 (zm_R G 50 (fun _ => none))) a (.inr (4, [.ref q1, .int 0, .null, .null, .null, .int 0, .long 0, .int 0, .int 0, .int 0]) : va_E) a = some (.inr (4, [.ref q1, .int 0, .null, .null, .null, .int 0, .long 0, .int 0, .int 0, .int 0]) : va_E) := zm_up_s
  refine lv_aload_n hx hb dX5_init_13 rfl (lv_at hl 0 rfl) ?_
  refine lv_bipush (v := 10) hx hb dX5_init_14 (by decide) ?_
  refine zm_newq hx hb hts hown hE hA hM hS 3 rfl clk_X5_9 hE.2.2.2.1.2 (by decide) (N := 10) (by decide) (by decide) (Nat.le_of_ble_eq_true rfl) (Nat.le_of_ble_eq_true rfl) dX5_init_16 (fun q2 H nq2 hM hS => ?_)
  have h0 := zm_up_k (e := (zm_R G 10 (fun _ => none))) (zm_neN h0 nq2) h0
  have kq1 := zm_up_k (e := (zm_R G 10 (fun _ => none))) (zm_neN kq1 nq2) kq1
  have kq2 : zm_up (zm_up (zm_up M q1 (zm_R G 50 (fun _ => none))) a (.inr (4, [.ref q1, .int 0, .null, .null, .null, .int 0, .long 0, .int 0, .int 0, .int 0]) : va_E)) q2 (zm_R G 10 (fun _ => none)) q2 = some (zm_R G 10 (fun _ => none)) := zm_up_s
  refine zm_putF hx hb hts hown hnm hE hM hS h0 fp_X5_15_4 rfl rfl (Nat.le_of_ble_eq_true rfl) dX5_init_19 (fun H locs hM hS => ?_)
  have hM : zm_P G A (zm_up (zm_up (zm_up (zm_up M q1 (zm_R G 50 (fun _ => none))) a (.inr (4, [.ref q1, .int 0, .null, .null, .null, .int 0, .long 0, .int 0, .int 0, .int 0]) : va_E)) q2 (zm_R G 10 (fun _ => none))) a (.inr (4, [.ref q1, .int 0, .ref q2, .null, .null, .int 0, .long 0, .int 0, .int 0, .int 0]) : va_E)) H := hM
  have kq1 := zm_up_k (e := (.inr (4, [.ref q1, .int 0, .ref q2, .null, .null, .int 0, .long 0, .int 0, .int 0, .int 0]) : va_E)) (zm_ne kq1 h0 (by simp)) kq1
  have kq2 := zm_up_k (e := (.inr (4, [.ref q1, .int 0, .ref q2, .null, .null, .int 0, .long 0, .int 0, .int 0, .int 0]) : va_E)) (zm_ne kq2 h0 (by simp)) kq2
  have h0 : zm_up (zm_up (zm_up (zm_up M q1 (zm_R G 50 (fun _ => none))) a (.inr (4, [.ref q1, .int 0, .null, .null, .null, .int 0, .long 0, .int 0, .int 0, .int 0]) : va_E)) q2 (zm_R G 10 (fun _ => none))) a (.inr (4, [.ref q1, .int 0, .ref q2, .null, .null, .int 0, .long 0, .int 0, .int 0, .int 0]) : va_E) a = some (.inr (4, [.ref q1, .int 0, .ref q2, .null, .null, .int 0, .long 0, .int 0, .int 0, .int 0]) : va_E) := zm_up_s
  refine lv_aload_n hx hb dX5_init_22 rfl (lv_at hl 0 rfl) ?_
  refine lv_bipush (v := 30) hx hb dX5_init_23 (by decide) ?_
  refine zm_newq hx hb hts hown hE hA hM hS 2 rfl clk_X5_18 hE.2.2.2.1.1 (by decide) (N := 30) (by decide) (by decide) (Nat.le_of_ble_eq_true rfl) (Nat.le_of_ble_eq_true rfl) dX5_init_25 (fun q3 H nq3 hM hS => ?_)
  have h0 := zm_up_k (e := (zm_C G 30 (fun _ => none))) (zm_neN h0 nq3) h0
  have kq1 := zm_up_k (e := (zm_C G 30 (fun _ => none))) (zm_neN kq1 nq3) kq1
  have kq2 := zm_up_k (e := (zm_C G 30 (fun _ => none))) (zm_neN kq2 nq3) kq2
  have kq3 : zm_up (zm_up (zm_up (zm_up (zm_up M q1 (zm_R G 50 (fun _ => none))) a (.inr (4, [.ref q1, .int 0, .null, .null, .null, .int 0, .long 0, .int 0, .int 0, .int 0]) : va_E)) q2 (zm_R G 10 (fun _ => none))) a (.inr (4, [.ref q1, .int 0, .ref q2, .null, .null, .int 0, .long 0, .int 0, .int 0, .int 0]) : va_E)) q3 (zm_C G 30 (fun _ => none)) q3 = some (zm_C G 30 (fun _ => none)) := zm_up_s
  refine zm_putF hx hb hts hown hnm hE hM hS h0 fp_X5_20_4 rfl rfl (Nat.le_of_ble_eq_true rfl) dX5_init_28 (fun H locs hM hS => ?_)
  have hM : zm_P G A (zm_up (zm_up (zm_up (zm_up (zm_up (zm_up M q1 (zm_R G 50 (fun _ => none))) a (.inr (4, [.ref q1, .int 0, .null, .null, .null, .int 0, .long 0, .int 0, .int 0, .int 0]) : va_E)) q2 (zm_R G 10 (fun _ => none))) a (.inr (4, [.ref q1, .int 0, .ref q2, .null, .null, .int 0, .long 0, .int 0, .int 0, .int 0]) : va_E)) q3 (zm_C G 30 (fun _ => none))) a (.inr (4, [.ref q1, .int 0, .ref q2, .null, .ref q3, .int 0, .long 0, .int 0, .int 0, .int 0]) : va_E)) H := hM
  have kq1 := zm_up_k (e := (.inr (4, [.ref q1, .int 0, .ref q2, .null, .ref q3, .int 0, .long 0, .int 0, .int 0, .int 0]) : va_E)) (zm_ne kq1 h0 (by simp)) kq1
  have kq2 := zm_up_k (e := (.inr (4, [.ref q1, .int 0, .ref q2, .null, .ref q3, .int 0, .long 0, .int 0, .int 0, .int 0]) : va_E)) (zm_ne kq2 h0 (by simp)) kq2
  have kq3 := zm_up_k (e := (.inr (4, [.ref q1, .int 0, .ref q2, .null, .ref q3, .int 0, .long 0, .int 0, .int 0, .int 0]) : va_E)) (zm_ne kq3 h0 (by simp)) kq3
  have h0 : zm_up (zm_up (zm_up (zm_up (zm_up (zm_up M q1 (zm_R G 50 (fun _ => none))) a (.inr (4, [.ref q1, .int 0, .null, .null, .null, .int 0, .long 0, .int 0, .int 0, .int 0]) : va_E)) q2 (zm_R G 10 (fun _ => none))) a (.inr (4, [.ref q1, .int 0, .ref q2, .null, .null, .int 0, .long 0, .int 0, .int 0, .int 0]) : va_E)) q3 (zm_C G 30 (fun _ => none))) a (.inr (4, [.ref q1, .int 0, .ref q2, .null, .ref q3, .int 0, .long 0, .int 0, .int 0, .int 0]) : va_E) a = some (.inr (4, [.ref q1, .int 0, .ref q2, .null, .ref q3, .int 0, .long 0, .int 0, .int 0, .int 0]) : va_E) := zm_up_s
  refine lv_aload_n hx hb dX5_init_31 rfl (lv_at hl 0 rfl) ?_
  refine lv_iconst (v := (-1)) hx hb dX5_init_32 (by decide) ?_
  refine zm_put hx hb hts hown hE hM hS h0 fp_X5_24_4 rfl rfl (Nat.le_of_ble_eq_true rfl) dX5_init_33 (fun H locs hM hS => ?_)
  have hM : zm_P G A (zm_up (zm_up (zm_up (zm_up (zm_up (zm_up (zm_up M q1 (zm_R G 50 (fun _ => none))) a (.inr (4, [.ref q1, .int 0, .null, .null, .null, .int 0, .long 0, .int 0, .int 0, .int 0]) : va_E)) q2 (zm_R G 10 (fun _ => none))) a (.inr (4, [.ref q1, .int 0, .ref q2, .null, .null, .int 0, .long 0, .int 0, .int 0, .int 0]) : va_E)) q3 (zm_C G 30 (fun _ => none))) a (.inr (4, [.ref q1, .int 0, .ref q2, .null, .ref q3, .int 0, .long 0, .int 0, .int 0, .int 0]) : va_E)) a (.inr (4, [.ref q1, .int 0, .ref q2, .null, .ref q3, .int 0, .long 0, .int 0, .int (-1), .int 0]) : va_E)) H := hM
  have kq1 := zm_up_k (e := (.inr (4, [.ref q1, .int 0, .ref q2, .null, .ref q3, .int 0, .long 0, .int 0, .int (-1), .int 0]) : va_E)) (zm_ne kq1 h0 (by simp)) kq1
  have kq2 := zm_up_k (e := (.inr (4, [.ref q1, .int 0, .ref q2, .null, .ref q3, .int 0, .long 0, .int 0, .int (-1), .int 0]) : va_E)) (zm_ne kq2 h0 (by simp)) kq2
  have kq3 := zm_up_k (e := (.inr (4, [.ref q1, .int 0, .ref q2, .null, .ref q3, .int 0, .long 0, .int 0, .int (-1), .int 0]) : va_E)) (zm_ne kq3 h0 (by simp)) kq3
  have h0 : zm_up (zm_up (zm_up (zm_up (zm_up (zm_up (zm_up M q1 (zm_R G 50 (fun _ => none))) a (.inr (4, [.ref q1, .int 0, .null, .null, .null, .int 0, .long 0, .int 0, .int 0, .int 0]) : va_E)) q2 (zm_R G 10 (fun _ => none))) a (.inr (4, [.ref q1, .int 0, .ref q2, .null, .null, .int 0, .long 0, .int 0, .int 0, .int 0]) : va_E)) q3 (zm_C G 30 (fun _ => none))) a (.inr (4, [.ref q1, .int 0, .ref q2, .null, .ref q3, .int 0, .long 0, .int 0, .int 0, .int 0]) : va_E)) a (.inr (4, [.ref q1, .int 0, .ref q2, .null, .ref q3, .int 0, .long 0, .int 0, .int (-1), .int 0]) : va_E) a = some (.inr (4, [.ref q1, .int 0, .ref q2, .null, .ref q3, .int 0, .long 0, .int 0, .int (-1), .int 0]) : va_E) := zm_up_s
  refine zm_vret hx hb hr hlk hM hS ?_ ⟨Nat.le_of_ble_eq_true rfl, Nat.le_of_ble_eq_true rfl⟩ dX5_init_36
  exact ⟨rfl, ((a, q1, q2, q3), fun _ => 0, fun _ => 0, fun _ => 0), rfl, h0, ⟨_, kq1, fun j hj => absurd hj (Nat.not_lt_zero _)⟩, ⟨_, kq2, fun i _ => rfl⟩, ⟨_, kq3, fun c hc => absurd hc (Nat.not_lt_zero _)⟩, fun c hc => absurd hc (Nat.not_lt_zero _), fun j hj => absurd hj (Nat.not_lt_zero _), fun j hj => absurd hj (Nat.not_lt_zero _), fun j hj => absurd hj (Nat.not_lt_zero _), fun j k hj => absurd hj (Nat.not_lt_zero _)⟩
