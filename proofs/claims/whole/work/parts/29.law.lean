theorem lg_self (x : Int64) : lg_cmp x x = 0 := by simp [lg_cmp]
set_option maxRecDepth 100000 in
set_option maxHeartbeats 8000000 in
theorem law_loop {p : Program} {l : Launch} {e : Env} {s : State} {m : MethodId} {below : List Frame} {meth : Method} {c : Code} {b L : Nat} {xs : Nat → Int32} (hL : L ≤ 2560) (C0 : lw_At p s m meth c b L xs) (G : zm_G) (hE : zm_E G (fun z : Nat => s.heap.size ≤ z) s s.heap) : ∀ (n i : Nat), i ≤ L → L + 1 ≤ i + n → ∀ (cs sl : Nat), cs ≤ 20 + i → sl ≤ 2000 + 4 * i → ∀ (B : zB) (q : Nat → Nat) (S : zS) (M N : zm_M) (H : Heap) (locs : List Loc), zInv S → RepC G B S M → RepR G q S N → zm_P G (fun z : Nat => s.heap.size ≤ z) M H → zm_P G (fun z : Nat => s.heap.size ≤ z) N H → (∀ z, M z ≠ none → N z = none) → va_S (fun z : Nat => s.heap.size ≤ z) s.heap H locs → ∀ (ls : Array Slot), lv_has ls 4 [(3, .int (nI i)), (0, .ref b), (1, .ref B.1.1), (2, .ref (q 0))] → W p l e room_1 s m #[Value.ref b] below meth c H locs cs sl (lw_Z below #[Value.ref b] s) (F0 m 18 ls []) := by
  obtain ⟨hx, hb, hr, hml, hown, htb, hX, hbl, hlk, hgv⟩ := C0
  have hts := fun w h => htb w (wsL_law_in w h)
  have hA : ∀ z : Nat, s.heap.size ≤ z → (fun z : Nat => s.heap.size ≤ z) z := fun _ h => h
  have hbA : ¬ (fun z : Nat => s.heap.size ≤ z) b := Nat.not_le.mpr hbl
  intro n
  induction n with
  | zero => intro i h1 h2; exact absurd h2 (by omega)
  | succ n ih =>
    intro i hi hin cs sl hcs hsl B q S M N H locs hI hC hR hM hN hD hS ls hl
    have hq0 : N (q 0) = some (.inr (5, objR q S)) := by obtain ⟨f, g, hZ, -⟩ := hR; exact hZ.2.1
    refine lv_iload_n hx hb dL_law_18 rfl (lv_at hl 0 rfl) ?_
    refine lv_aload_n hx hb dL_law_19 rfl (lv_at hl 1 rfl) ?_
    refine va_slen hx hb hX hbl hbA hS dL_law_20 ?_
    refine W.eq (g2 := F0 m 21 ls [.int (nI L), .int (nI i)]) rfl ?_
    refine lv_iconst (v := 5) hx hb dL_law_21 (by decide) ?_
    refine lv_isub hx hb dL_law_22 ?_
    refine lv_icmp_gt (tgt := 541) hx hb dL_law_23 (by decide) (fun c23 => ?_) (fun c23 => ?_)
    · refine lv_iconst (v := 1) hx hb dL_law_541 (by decide) ?_
      refine va_forget (fun z hz => hS.2.2 z hz) ?_
      refine W.widen (k := 600000) (n := 7302250) (by omega) (by omega) ?_
      exact lw_ret hx hb hr hlk dL_law_542
    · have hi5 : i + 5 ≤ L := by
        have h5 := pk_sub_toInt (a := L) (b := 5) (by omega) (by omega)
        rw [Int32.lt_iff_toInt_lt, show (nI L - 5) = nI L - nI 5 from rfl, h5, nI_toInt (by omega)] at c23
        omega
      refine lv_aload_n hx hb dL_law_26 rfl (lv_at hl 1 rfl) ?_
      refine lv_iload_n hx hb dL_law_27 rfl (lv_at hl 0 rfl) ?_
      refine va_sld hx hb hX hbl hbA hS (vp_in_nI (show i + 0 < L by omega) (by omega)) dL_law_28 ?_
      refine zt_eq (v' := .int (xs i)) (by rw [nI_clamp (by omega)]) ?_
      refine lv_bipush (v := 15) hx hb dL_law_29 (by decide) ?_
      refine lv_iand hx hb dL_law_31 ?_
      obtain ⟨j, hj, ej⟩ := pk_andE (xs i) (m := 15) 4 (by decide)
      refine zt_eq (v' := .int (nI j)) (congrArg Value.int ej) ?_
      rcases (show j = 0 ∨ j = 1 ∨ j = 2 ∨ j = 3 ∨ j = 4 ∨ j = 5 ∨ j = 6 ∨ j = 7 ∨ j = 8 ∨ j = 9 ∨ j = 10 ∨ j = 11 ∨ j = 12 ∨ j = 13 ∨ j = 14 ∨ j = 15 by omega) with rfl | rfl | rfl | rfl | rfl | rfl | rfl | rfl | rfl | rfl | rfl | rfl | rfl | rfl | rfl | rfl
      · refine lv_tableIn (off := 76) (tgt := 108) hx hb dL_law_32 (by decide) (by decide) rfl (by decide) ?_
        refine lv_aload_n hx hb dL_law_108 rfl (lv_at hl 2 rfl) ?_
        refine lv_aload_n hx hb dL_law_109 rfl (lv_at hl 1 rfl) ?_
        refine lv_iload_n hx hb dL_law_110 rfl (lv_at hl 0 rfl) ?_
        refine lv_iconst (v := 1) hx hb dL_law_111 (by decide) ?_
        refine lv_iadd hx hb dL_law_112 ?_
        refine zt_eq (v' := .int (nI (i + 1))) (congrArg Value.int (nI_add i 1)) ?_
        refine va_sld hx hb hX hbl hbA hS (vp_in_nI (show i + 1 < L by omega) (by omega)) dL_law_113 ?_
        refine zt_eq (v' := .int (xs (i + 1))) (by rw [nI_clamp (by omega)]) ?_
        refine lv_aload_n hx hb dL_law_114 rfl (lv_at hl 1 rfl) ?_
        refine lv_iload_n hx hb dL_law_115 rfl (lv_at hl 0 rfl) ?_
        refine lv_iconst (v := 2) hx hb dL_law_116 (by decide) ?_
        refine lv_iadd hx hb dL_law_117 ?_
        refine zt_eq (v' := .int (nI (i + 2))) (congrArg Value.int (nI_add i 2)) ?_
        refine va_sld hx hb hX hbl hbA hS (vp_in_nI (show i + 2 < L by omega) (by omega)) dL_law_118 ?_
        refine zt_eq (v' := .int (xs (i + 2))) (by rw [nI_clamp (by omega)]) ?_
        refine zl_callV (As := [.int (xs (i + 1)), .int (xs (i + 2))]) (rest := []) hx hb hml hts hown hE hA hM hN hD hS hC.1 rfl (fun Bx => c_X5_prop l G Bx B S _ (xs (i + 1)) (xs (i + 2)) hI hC) cd_X5_prop ml_L_13 rfl rfl hl.1 (Nat.le_of_ble_eq_true rfl) ⟨Nat.le_of_ble_eq_true rfl, Nat.le_of_ble_eq_true rfl⟩ ⟨by show cs + 2 ≤ 600000; omega, by show sl + 18 ≤ 7302250; omega⟩ dL_law_119 ?_
        rintro r M1 H locs ⟨B1, hB1, rfl, hC1⟩ hM hN hD hS
        refine W.eq (g2 := F0 m 122 ls [.int ((sp_prop S (xs (i + 1)) (xs (i + 2))).1)]) rfl ?_
        refine lv_aload_n hx hb dL_law_122 rfl (lv_at hl 3 rfl) ?_
        refine lv_aload_n hx hb dL_law_123 rfl (lv_at hl 1 rfl) ?_
        refine lv_iload_n hx hb dL_law_124 rfl (lv_at hl 0 rfl) ?_
        refine lv_iconst (v := 1) hx hb dL_law_125 (by decide) ?_
        refine lv_iadd hx hb dL_law_126 ?_
        refine zt_eq (v' := .int (nI (i + 1))) (congrArg Value.int (nI_add i 1)) ?_
        refine va_sld hx hb hX hbl hbA hS (vp_in_nI (show i + 1 < L by omega) (by omega)) dL_law_127 ?_
        refine zt_eq (v' := .int (xs (i + 1))) (by rw [nI_clamp (by omega)]) ?_
        refine lv_aload_n hx hb dL_law_128 rfl (lv_at hl 1 rfl) ?_
        refine lv_iload_n hx hb dL_law_129 rfl (lv_at hl 0 rfl) ?_
        refine lv_iconst (v := 2) hx hb dL_law_130 (by decide) ?_
        refine lv_iadd hx hb dL_law_131 ?_
        refine zt_eq (v' := .int (nI (i + 2))) (congrArg Value.int (nI_add i 2)) ?_
        refine va_sld hx hb hX hbl hbA hS (vp_in_nI (show i + 2 < L by omega) (by omega)) dL_law_132 ?_
        refine zt_eq (v' := .int (xs (i + 2))) (by rw [nI_clamp (by omega)]) ?_
        refine zl_callV (As := [.int (xs (i + 1)), .int (xs (i + 2))]) (rest := [.int ((sp_prop S (xs (i + 1)) (xs (i + 2))).1)]) hx hb hml hts hown hE hA hN hM (zl_sym hD) hS hq0 rfl (fun Bx => c_X6_prop l G Bx q S _ (xs (i + 1)) (xs (i + 2)) hI hR) cd_X6_prop ml_L_17 rfl rfl hl.1 (Nat.le_of_ble_eq_true rfl) ⟨Nat.le_of_ble_eq_true rfl, Nat.le_of_ble_eq_true rfl⟩ ⟨by show (cs + 2) + 0 ≤ 600000; omega, by show (sl + 18) + 0 ≤ 7302250; omega⟩ dL_law_133 ?_
        rintro r N1 H locs ⟨rfl, hR1⟩ hN hM hD hS
        refine W.eq (g2 := F0 m 136 ls [.int ((sp_prop S (xs (i + 1)) (xs (i + 2))).1), .int ((sp_prop S (xs (i + 1)) (xs (i + 2))).1)]) rfl ?_
        refine lv_icmp_eq (tgt := 535) hx hb dL_law_136 (by decide) (fun c136 => ?_) (fun c136 => ?_)
        · refine lv_iinc (v := nI (i + 5)) (lv' := [(3, .int (nI (i + 5))), (0, .ref b), (1, .ref B.1.1), (2, .ref (q 0))]) hx hb dL_law_535 hl (k := 0) rfl (nI_add i 5) (by decide) rfl (fun ls hl => ?_)
          refine lv_goto (tgt := 18) hx hb dL_law_538 (by decide) ?_
          exact ih (i + 5) (by omega) (by omega) _ _ (by omega) (by omega) B1 q _ _ _ _ _ (sp_prop_inv hI _ _) hC1 hR1 hM hN (zl_sym hD) hS ls (by rw [hB1]; exact lv_sub hl [0, 1, 2, 3] rfl)
        · exact absurd rfl c136
      · refine lv_tableIn (off := 109) (tgt := 141) hx hb dL_law_32 (by decide) (by decide) rfl (by decide) ?_
        refine lv_aload_n hx hb dL_law_141 rfl (lv_at hl 2 rfl) ?_
        refine lv_aload_n hx hb dL_law_142 rfl (lv_at hl 1 rfl) ?_
        refine lv_iload_n hx hb dL_law_143 rfl (lv_at hl 0 rfl) ?_
        refine lv_iconst (v := 1) hx hb dL_law_144 (by decide) ?_
        refine lv_iadd hx hb dL_law_145 ?_
        refine zt_eq (v' := .int (nI (i + 1))) (congrArg Value.int (nI_add i 1)) ?_
        refine va_sld hx hb hX hbl hbA hS (vp_in_nI (show i + 1 < L by omega) (by omega)) dL_law_146 ?_
        refine zt_eq (v' := .int (xs (i + 1))) (by rw [nI_clamp (by omega)]) ?_
        refine lv_aload_n hx hb dL_law_147 rfl (lv_at hl 1 rfl) ?_
        refine lv_iload_n hx hb dL_law_148 rfl (lv_at hl 0 rfl) ?_
        refine lv_iconst (v := 2) hx hb dL_law_149 (by decide) ?_
        refine lv_iadd hx hb dL_law_150 ?_
        refine zt_eq (v' := .int (nI (i + 2))) (congrArg Value.int (nI_add i 2)) ?_
        refine va_sld hx hb hX hbl hbA hS (vp_in_nI (show i + 2 < L by omega) (by omega)) dL_law_151 ?_
        refine zt_eq (v' := .int (xs (i + 2))) (by rw [nI_clamp (by omega)]) ?_
        refine lv_aload_n hx hb dL_law_152 rfl (lv_at hl 1 rfl) ?_
        refine lv_iload_n hx hb dL_law_153 rfl (lv_at hl 0 rfl) ?_
        refine lv_iconst (v := 3) hx hb dL_law_154 (by decide) ?_
        refine lv_iadd hx hb dL_law_155 ?_
        refine zt_eq (v' := .int (nI (i + 3))) (congrArg Value.int (nI_add i 3)) ?_
        refine va_sld hx hb hX hbl hbA hS (vp_in_nI (show i + 3 < L by omega) (by omega)) dL_law_156 ?_
        refine zt_eq (v' := .int (xs (i + 3))) (by rw [nI_clamp (by omega)]) ?_
        refine zl_callV (As := [.int (xs (i + 1)), .int (xs (i + 2)), .int (xs (i + 3))]) (rest := []) hx hb hml hts hown hE hA hM hN hD hS hC.1 rfl (fun Bx => c_X5_set l G Bx B S _ (xs (i + 1)) (xs (i + 2)) (xs (i + 3)) hI hC) cd_X5_set ml_L_18 rfl rfl hl.1 (Nat.le_of_ble_eq_true rfl) ⟨Nat.le_of_ble_eq_true rfl, Nat.le_of_ble_eq_true rfl⟩ ⟨by show cs + 0 ≤ 600000; omega, by show sl + 0 ≤ 7302250; omega⟩ dL_law_157 ?_
        rintro r M1 H locs ⟨B1, hB1, rfl, hC1⟩ hM hN hD hS
        refine W.eq (g2 := F0 m 160 ls [.int ((sp_set S (xs (i + 1)) (xs (i + 2)) (xs (i + 3))).1)]) rfl ?_
        refine lv_aload_n hx hb dL_law_160 rfl (lv_at hl 3 rfl) ?_
        refine lv_aload_n hx hb dL_law_161 rfl (lv_at hl 1 rfl) ?_
        refine lv_iload_n hx hb dL_law_162 rfl (lv_at hl 0 rfl) ?_
        refine lv_iconst (v := 1) hx hb dL_law_163 (by decide) ?_
        refine lv_iadd hx hb dL_law_164 ?_
        refine zt_eq (v' := .int (nI (i + 1))) (congrArg Value.int (nI_add i 1)) ?_
        refine va_sld hx hb hX hbl hbA hS (vp_in_nI (show i + 1 < L by omega) (by omega)) dL_law_165 ?_
        refine zt_eq (v' := .int (xs (i + 1))) (by rw [nI_clamp (by omega)]) ?_
        refine lv_aload_n hx hb dL_law_166 rfl (lv_at hl 1 rfl) ?_
        refine lv_iload_n hx hb dL_law_167 rfl (lv_at hl 0 rfl) ?_
        refine lv_iconst (v := 2) hx hb dL_law_168 (by decide) ?_
        refine lv_iadd hx hb dL_law_169 ?_
        refine zt_eq (v' := .int (nI (i + 2))) (congrArg Value.int (nI_add i 2)) ?_
        refine va_sld hx hb hX hbl hbA hS (vp_in_nI (show i + 2 < L by omega) (by omega)) dL_law_170 ?_
        refine zt_eq (v' := .int (xs (i + 2))) (by rw [nI_clamp (by omega)]) ?_
        refine lv_aload_n hx hb dL_law_171 rfl (lv_at hl 1 rfl) ?_
        refine lv_iload_n hx hb dL_law_172 rfl (lv_at hl 0 rfl) ?_
        refine lv_iconst (v := 3) hx hb dL_law_173 (by decide) ?_
        refine lv_iadd hx hb dL_law_174 ?_
        refine zt_eq (v' := .int (nI (i + 3))) (congrArg Value.int (nI_add i 3)) ?_
        refine va_sld hx hb hX hbl hbA hS (vp_in_nI (show i + 3 < L by omega) (by omega)) dL_law_175 ?_
        refine zt_eq (v' := .int (xs (i + 3))) (by rw [nI_clamp (by omega)]) ?_
        refine zl_callV (As := [.int (xs (i + 1)), .int (xs (i + 2)), .int (xs (i + 3))]) (rest := [.int ((sp_set S (xs (i + 1)) (xs (i + 2)) (xs (i + 3))).1)]) hx hb hml hts hown hE hA hN hM (zl_sym hD) hS hq0 rfl (fun Bx => c_X6_set l G Bx q S _ (xs (i + 1)) (xs (i + 2)) (xs (i + 3)) hI hR) cd_X6_set ml_L_22 rfl rfl hl.1 (Nat.le_of_ble_eq_true rfl) ⟨Nat.le_of_ble_eq_true rfl, Nat.le_of_ble_eq_true rfl⟩ ⟨by show (cs + 0) + 0 ≤ 600000; omega, by show (sl + 0) + 0 ≤ 7302250; omega⟩ dL_law_176 ?_
        rintro r N1 H locs ⟨rfl, hR1⟩ hN hM hD hS
        refine W.eq (g2 := F0 m 179 ls [.int ((sp_set S (xs (i + 1)) (xs (i + 2)) (xs (i + 3))).1), .int ((sp_set S (xs (i + 1)) (xs (i + 2)) (xs (i + 3))).1)]) rfl ?_
        refine lv_icmp_eq (tgt := 535) hx hb dL_law_179 (by decide) (fun c179 => ?_) (fun c179 => ?_)
        · refine lv_iinc (v := nI (i + 5)) (lv' := [(3, .int (nI (i + 5))), (0, .ref b), (1, .ref B.1.1), (2, .ref (q 0))]) hx hb dL_law_535 hl (k := 0) rfl (nI_add i 5) (by decide) rfl (fun ls hl => ?_)
          refine lv_goto (tgt := 18) hx hb dL_law_538 (by decide) ?_
          exact ih (i + 5) (by omega) (by omega) _ _ (by omega) (by omega) B1 q _ _ _ _ _ (sp_set_inv hI _ _ _) hC1 hR1 hM hN (zl_sym hD) hS ls (by rw [hB1]; exact lv_sub hl [0, 1, 2, 3] rfl)
        · exact absurd rfl c179
      · refine lv_tableIn (off := 152) (tgt := 184) hx hb dL_law_32 (by decide) (by decide) rfl (by decide) ?_
        refine lv_aload_n hx hb dL_law_184 rfl (lv_at hl 2 rfl) ?_
        refine lv_aload_n hx hb dL_law_185 rfl (lv_at hl 1 rfl) ?_
        refine lv_iload_n hx hb dL_law_186 rfl (lv_at hl 0 rfl) ?_
        refine lv_iconst (v := 1) hx hb dL_law_187 (by decide) ?_
        refine lv_iadd hx hb dL_law_188 ?_
        refine zt_eq (v' := .int (nI (i + 1))) (congrArg Value.int (nI_add i 1)) ?_
        refine va_sld hx hb hX hbl hbA hS (vp_in_nI (show i + 1 < L by omega) (by omega)) dL_law_189 ?_
        refine zt_eq (v' := .int (xs (i + 1))) (by rw [nI_clamp (by omega)]) ?_
        refine lv_aload_n hx hb dL_law_190 rfl (lv_at hl 1 rfl) ?_
        refine lv_iload_n hx hb dL_law_191 rfl (lv_at hl 0 rfl) ?_
        refine lv_iconst (v := 2) hx hb dL_law_192 (by decide) ?_
        refine lv_iadd hx hb dL_law_193 ?_
        refine zt_eq (v' := .int (nI (i + 2))) (congrArg Value.int (nI_add i 2)) ?_
        refine va_sld hx hb hX hbl hbA hS (vp_in_nI (show i + 2 < L by omega) (by omega)) dL_law_194 ?_
        refine zt_eq (v' := .int (xs (i + 2))) (by rw [nI_clamp (by omega)]) ?_
        refine zl_callV (As := [.int (xs (i + 1)), .int (xs (i + 2))]) (rest := []) hx hb hml hts hown hE hA hM hN hD hS hC.1 rfl (fun Bx => c_X5_slot l G Bx B S _ (xs (i + 1)) (xs (i + 2)) hI hC) cd_X5_slot ml_L_23 rfl rfl hl.1 (Nat.le_of_ble_eq_true rfl) ⟨Nat.le_of_ble_eq_true rfl, Nat.le_of_ble_eq_true rfl⟩ ⟨by show cs + 0 ≤ 600000; omega, by show sl + 0 ≤ 7302250; omega⟩ dL_law_195 ?_
        rintro r M1 H locs ⟨B1, hB1, rfl, hC1⟩ hM hN hD hS
        refine W.eq (g2 := F0 m 198 ls [.int ((sp_slot S (xs (i + 1)) (xs (i + 2))).1)]) rfl ?_
        refine lv_aload_n hx hb dL_law_198 rfl (lv_at hl 3 rfl) ?_
        refine lv_aload_n hx hb dL_law_199 rfl (lv_at hl 1 rfl) ?_
        refine lv_iload_n hx hb dL_law_200 rfl (lv_at hl 0 rfl) ?_
        refine lv_iconst (v := 1) hx hb dL_law_201 (by decide) ?_
        refine lv_iadd hx hb dL_law_202 ?_
        refine zt_eq (v' := .int (nI (i + 1))) (congrArg Value.int (nI_add i 1)) ?_
        refine va_sld hx hb hX hbl hbA hS (vp_in_nI (show i + 1 < L by omega) (by omega)) dL_law_203 ?_
        refine zt_eq (v' := .int (xs (i + 1))) (by rw [nI_clamp (by omega)]) ?_
        refine lv_aload_n hx hb dL_law_204 rfl (lv_at hl 1 rfl) ?_
        refine lv_iload_n hx hb dL_law_205 rfl (lv_at hl 0 rfl) ?_
        refine lv_iconst (v := 2) hx hb dL_law_206 (by decide) ?_
        refine lv_iadd hx hb dL_law_207 ?_
        refine zt_eq (v' := .int (nI (i + 2))) (congrArg Value.int (nI_add i 2)) ?_
        refine va_sld hx hb hX hbl hbA hS (vp_in_nI (show i + 2 < L by omega) (by omega)) dL_law_208 ?_
        refine zt_eq (v' := .int (xs (i + 2))) (by rw [nI_clamp (by omega)]) ?_
        refine zl_callV (As := [.int (xs (i + 1)), .int (xs (i + 2))]) (rest := [.int ((sp_slot S (xs (i + 1)) (xs (i + 2))).1)]) hx hb hml hts hown hE hA hN hM (zl_sym hD) hS hq0 rfl (fun Bx => c_X6_slot l G Bx q S _ (xs (i + 1)) (xs (i + 2)) hI hR) cd_X6_slot ml_L_26 rfl rfl hl.1 (Nat.le_of_ble_eq_true rfl) ⟨Nat.le_of_ble_eq_true rfl, Nat.le_of_ble_eq_true rfl⟩ ⟨by show (cs + 0) + 0 ≤ 600000; omega, by show (sl + 0) + 0 ≤ 7302250; omega⟩ dL_law_209 ?_
        rintro r N1 H locs ⟨rfl, hR1⟩ hN hM hD hS
        refine W.eq (g2 := F0 m 212 ls [.int ((sp_slot S (xs (i + 1)) (xs (i + 2))).1), .int ((sp_slot S (xs (i + 1)) (xs (i + 2))).1)]) rfl ?_
        refine lv_icmp_eq (tgt := 535) hx hb dL_law_212 (by decide) (fun c212 => ?_) (fun c212 => ?_)
        · refine lv_iinc (v := nI (i + 5)) (lv' := [(3, .int (nI (i + 5))), (0, .ref b), (1, .ref B.1.1), (2, .ref (q 0))]) hx hb dL_law_535 hl (k := 0) rfl (nI_add i 5) (by decide) rfl (fun ls hl => ?_)
          refine lv_goto (tgt := 18) hx hb dL_law_538 (by decide) ?_
          exact ih (i + 5) (by omega) (by omega) _ _ (by omega) (by omega) B1 q _ _ _ _ _ (sp_slot_inv hI _ _) hC1 hR1 hM hN (zl_sym hD) hS ls (by rw [hB1]; exact lv_sub hl [0, 1, 2, 3] rfl)
        · exact absurd rfl c212
      · refine lv_tableIn (off := 185) (tgt := 217) hx hb dL_law_32 (by decide) (by decide) rfl (by decide) ?_
        refine lv_aload_n hx hb dL_law_217 rfl (lv_at hl 2 rfl) ?_
        refine lv_aload_n hx hb dL_law_218 rfl (lv_at hl 1 rfl) ?_
        refine lv_iload_n hx hb dL_law_219 rfl (lv_at hl 0 rfl) ?_
        refine lv_iconst (v := 1) hx hb dL_law_220 (by decide) ?_
        refine lv_iadd hx hb dL_law_221 ?_
        refine zt_eq (v' := .int (nI (i + 1))) (congrArg Value.int (nI_add i 1)) ?_
        refine va_sld hx hb hX hbl hbA hS (vp_in_nI (show i + 1 < L by omega) (by omega)) dL_law_222 ?_
        refine zt_eq (v' := .int (xs (i + 1))) (by rw [nI_clamp (by omega)]) ?_
        refine zl_callV (As := [.int (xs (i + 1))]) (rest := []) hx hb hml hts hown hE hA hM hN hD hS hC.1 rfl (fun Bx => c_X5_held l G Bx B S _ (xs (i + 1)) hI hC) cd_X5_held ml_L_27 rfl rfl hl.1 (Nat.le_of_ble_eq_true rfl) ⟨Nat.le_of_ble_eq_true rfl, Nat.le_of_ble_eq_true rfl⟩ ⟨by show cs + 0 ≤ 600000; omega, by show sl + 0 ≤ 7302250; omega⟩ dL_law_223 ?_
        rintro r M1 H locs ⟨rfl, e1⟩ hM hN hD hS
        rw [e1] at hM hD
        clear e1 M1
        refine W.eq (g2 := F0 m 226 ls [.int (sp_held S (xs (i + 1)))]) rfl ?_
        refine lv_aload_n hx hb dL_law_226 rfl (lv_at hl 3 rfl) ?_
        refine lv_aload_n hx hb dL_law_227 rfl (lv_at hl 1 rfl) ?_
        refine lv_iload_n hx hb dL_law_228 rfl (lv_at hl 0 rfl) ?_
        refine lv_iconst (v := 1) hx hb dL_law_229 (by decide) ?_
        refine lv_iadd hx hb dL_law_230 ?_
        refine zt_eq (v' := .int (nI (i + 1))) (congrArg Value.int (nI_add i 1)) ?_
        refine va_sld hx hb hX hbl hbA hS (vp_in_nI (show i + 1 < L by omega) (by omega)) dL_law_231 ?_
        refine zt_eq (v' := .int (xs (i + 1))) (by rw [nI_clamp (by omega)]) ?_
        refine zl_callV (As := [.int (xs (i + 1))]) (rest := [.int (sp_held S (xs (i + 1)))]) hx hb hml hts hown hE hA hN hM (zl_sym hD) hS hq0 rfl (fun Bx => c_X6_held l G Bx q S _ (xs (i + 1)) hI hR) cd_X6_held ml_L_31 rfl rfl hl.1 (Nat.le_of_ble_eq_true rfl) ⟨Nat.le_of_ble_eq_true rfl, Nat.le_of_ble_eq_true rfl⟩ ⟨by show (cs + 0) + 0 ≤ 600000; omega, by show (sl + 0) + 0 ≤ 7302250; omega⟩ dL_law_232 ?_
        rintro r N1 H locs ⟨rfl, e1⟩ hN hM hD hS
        rw [e1] at hN hD
        clear e1 N1
        refine W.eq (g2 := F0 m 235 ls [.int (sp_held S (xs (i + 1))), .int (sp_held S (xs (i + 1)))]) rfl ?_
        refine lv_icmp_eq (tgt := 535) hx hb dL_law_235 (by decide) (fun c235 => ?_) (fun c235 => ?_)
        · refine lv_iinc (v := nI (i + 5)) (lv' := [(3, .int (nI (i + 5))), (0, .ref b), (1, .ref B.1.1), (2, .ref (q 0))]) hx hb dL_law_535 hl (k := 0) rfl (nI_add i 5) (by decide) rfl (fun ls hl => ?_)
          refine lv_goto (tgt := 18) hx hb dL_law_538 (by decide) ?_
          exact ih (i + 5) (by omega) (by omega) _ _ (by omega) (by omega) B q S _ _ _ _ hI hC hR hM hN (zl_sym hD) hS ls (lv_sub hl [0, 1, 2, 3] rfl)
        · exact absurd rfl c235
      · refine lv_tableIn (off := 208) (tgt := 240) hx hb dL_law_32 (by decide) (by decide) rfl (by decide) ?_
        refine lv_aload_n hx hb dL_law_240 rfl (lv_at hl 2 rfl) ?_
        refine zl_callV (As := []) (rest := []) hx hb hml hts hown hE hA hM hN hD hS hC.1 rfl (fun Bx => c_X5_hand l G Bx B S _ hI hC) cd_X5_hand ml_L_32 rfl rfl hl.1 (Nat.le_of_ble_eq_true rfl) ⟨Nat.le_of_ble_eq_true rfl, Nat.le_of_ble_eq_true rfl⟩ ⟨by show cs + 0 ≤ 600000; omega, by show sl + 0 ≤ 7302250; omega⟩ dL_law_241 ?_
        rintro r M1 H locs ⟨rfl, e1⟩ hM hN hD hS
        rw [e1] at hM hD
        clear e1 M1
        refine W.eq (g2 := F0 m 244 ls [.int (oI (s_hd S))]) rfl ?_
        refine lv_aload_n hx hb dL_law_244 rfl (lv_at hl 3 rfl) ?_
        refine zl_callV (As := []) (rest := [.int (oI (s_hd S))]) hx hb hml hts hown hE hA hN hM (zl_sym hD) hS hq0 rfl (fun Bx => c_X6_hand l G Bx q S _ hI hR) cd_X6_hand ml_L_36 rfl rfl hl.1 (Nat.le_of_ble_eq_true rfl) ⟨Nat.le_of_ble_eq_true rfl, Nat.le_of_ble_eq_true rfl⟩ ⟨by show (cs + 0) + 0 ≤ 600000; omega, by show (sl + 0) + 0 ≤ 7302250; omega⟩ dL_law_245 ?_
        rintro r N1 H locs ⟨rfl, e1⟩ hN hM hD hS
        rw [e1] at hN hD
        clear e1 N1
        refine W.eq (g2 := F0 m 248 ls [.int (oI (s_hd S)), .int (oI (s_hd S))]) rfl ?_
        refine lv_icmp_eq (tgt := 535) hx hb dL_law_248 (by decide) (fun c248 => ?_) (fun c248 => ?_)
        · refine lv_iinc (v := nI (i + 5)) (lv' := [(3, .int (nI (i + 5))), (0, .ref b), (1, .ref B.1.1), (2, .ref (q 0))]) hx hb dL_law_535 hl (k := 0) rfl (nI_add i 5) (by decide) rfl (fun ls hl => ?_)
          refine lv_goto (tgt := 18) hx hb dL_law_538 (by decide) ?_
          exact ih (i + 5) (by omega) (by omega) _ _ (by omega) (by omega) B q S _ _ _ _ hI hC hR hM hN (zl_sym hD) hS ls (lv_sub hl [0, 1, 2, 3] rfl)
        · exact absurd rfl c248
      · refine lv_tableIn (off := 221) (tgt := 253) hx hb dL_law_32 (by decide) (by decide) rfl (by decide) ?_
        refine lv_aload_n hx hb dL_law_253 rfl (lv_at hl 2 rfl) ?_
        refine lv_aload_n hx hb dL_law_254 rfl (lv_at hl 1 rfl) ?_
        refine lv_iload_n hx hb dL_law_255 rfl (lv_at hl 0 rfl) ?_
        refine lv_iconst (v := 1) hx hb dL_law_256 (by decide) ?_
        refine lv_iadd hx hb dL_law_257 ?_
        refine zt_eq (v' := .int (nI (i + 1))) (congrArg Value.int (nI_add i 1)) ?_
        refine va_sld hx hb hX hbl hbA hS (vp_in_nI (show i + 1 < L by omega) (by omega)) dL_law_258 ?_
        refine zt_eq (v' := .int (xs (i + 1))) (by rw [nI_clamp (by omega)]) ?_
        refine lv_aload_n hx hb dL_law_259 rfl (lv_at hl 1 rfl) ?_
        refine lv_iload_n hx hb dL_law_260 rfl (lv_at hl 0 rfl) ?_
        refine lv_iconst (v := 2) hx hb dL_law_261 (by decide) ?_
        refine lv_iadd hx hb dL_law_262 ?_
        refine zt_eq (v' := .int (nI (i + 2))) (congrArg Value.int (nI_add i 2)) ?_
        refine va_sld hx hb hX hbl hbA hS (vp_in_nI (show i + 2 < L by omega) (by omega)) dL_law_263 ?_
        refine zt_eq (v' := .int (xs (i + 2))) (by rw [nI_clamp (by omega)]) ?_
        refine lv_aload_n hx hb dL_law_264 rfl (lv_at hl 1 rfl) ?_
        refine lv_iload_n hx hb dL_law_265 rfl (lv_at hl 0 rfl) ?_
        refine lv_iconst (v := 3) hx hb dL_law_266 (by decide) ?_
        refine lv_iadd hx hb dL_law_267 ?_
        refine zt_eq (v' := .int (nI (i + 3))) (congrArg Value.int (nI_add i 3)) ?_
        refine va_sld hx hb hX hbl hbA hS (vp_in_nI (show i + 3 < L by omega) (by omega)) dL_law_268 ?_
        refine zt_eq (v' := .int (xs (i + 3))) (by rw [nI_clamp (by omega)]) ?_
        refine lv_aload_n hx hb dL_law_269 rfl (lv_at hl 1 rfl) ?_
        refine lv_iload_n hx hb dL_law_270 rfl (lv_at hl 0 rfl) ?_
        refine lv_iconst (v := 4) hx hb dL_law_271 (by decide) ?_
        refine lv_iadd hx hb dL_law_272 ?_
        refine zt_eq (v' := .int (nI (i + 4))) (congrArg Value.int (nI_add i 4)) ?_
        refine va_sld hx hb hX hbl hbA hS (vp_in_nI (show i + 4 < L by omega) (by omega)) dL_law_273 ?_
        refine zt_eq (v' := .int (xs (i + 4))) (by rw [nI_clamp (by omega)]) ?_
        refine zl_callV (As := [.int (xs (i + 1)), .int (xs (i + 2)), .int (xs (i + 3)), .int (xs (i + 4))]) (rest := []) hx hb hml hts hown hE hA hM hN hD hS hC.1 rfl (fun Bx => c_X5_cue l G Bx B S _ (xs (i + 1)) (xs (i + 2)) (xs (i + 3)) (xs (i + 4)) hI hC) cd_X5_cue ml_L_37 rfl rfl hl.1 (Nat.le_of_ble_eq_true rfl) ⟨Nat.le_of_ble_eq_true rfl, Nat.le_of_ble_eq_true rfl⟩ ⟨by show cs + 1 ≤ 600000; omega, by show sl + 4 ≤ 7302250; omega⟩ dL_law_274 ?_
        rintro r M1 H locs ⟨B1, hB1, rfl, hC1⟩ hM hN hD hS
        refine W.eq (g2 := F0 m 277 ls [.int ((sp_cue S (xs (i + 1)) (xs (i + 2)) (xs (i + 3)) (xs (i + 4))).1)]) rfl ?_
        refine lv_aload_n hx hb dL_law_277 rfl (lv_at hl 3 rfl) ?_
        refine lv_aload_n hx hb dL_law_278 rfl (lv_at hl 1 rfl) ?_
        refine lv_iload_n hx hb dL_law_279 rfl (lv_at hl 0 rfl) ?_
        refine lv_iconst (v := 1) hx hb dL_law_280 (by decide) ?_
        refine lv_iadd hx hb dL_law_281 ?_
        refine zt_eq (v' := .int (nI (i + 1))) (congrArg Value.int (nI_add i 1)) ?_
        refine va_sld hx hb hX hbl hbA hS (vp_in_nI (show i + 1 < L by omega) (by omega)) dL_law_282 ?_
        refine zt_eq (v' := .int (xs (i + 1))) (by rw [nI_clamp (by omega)]) ?_
        refine lv_aload_n hx hb dL_law_283 rfl (lv_at hl 1 rfl) ?_
        refine lv_iload_n hx hb dL_law_284 rfl (lv_at hl 0 rfl) ?_
        refine lv_iconst (v := 2) hx hb dL_law_285 (by decide) ?_
        refine lv_iadd hx hb dL_law_286 ?_
        refine zt_eq (v' := .int (nI (i + 2))) (congrArg Value.int (nI_add i 2)) ?_
        refine va_sld hx hb hX hbl hbA hS (vp_in_nI (show i + 2 < L by omega) (by omega)) dL_law_287 ?_
        refine zt_eq (v' := .int (xs (i + 2))) (by rw [nI_clamp (by omega)]) ?_
        refine lv_aload_n hx hb dL_law_288 rfl (lv_at hl 1 rfl) ?_
        refine lv_iload_n hx hb dL_law_289 rfl (lv_at hl 0 rfl) ?_
        refine lv_iconst (v := 3) hx hb dL_law_290 (by decide) ?_
        refine lv_iadd hx hb dL_law_291 ?_
        refine zt_eq (v' := .int (nI (i + 3))) (congrArg Value.int (nI_add i 3)) ?_
        refine va_sld hx hb hX hbl hbA hS (vp_in_nI (show i + 3 < L by omega) (by omega)) dL_law_292 ?_
        refine zt_eq (v' := .int (xs (i + 3))) (by rw [nI_clamp (by omega)]) ?_
        refine lv_aload_n hx hb dL_law_293 rfl (lv_at hl 1 rfl) ?_
        refine lv_iload_n hx hb dL_law_294 rfl (lv_at hl 0 rfl) ?_
        refine lv_iconst (v := 4) hx hb dL_law_295 (by decide) ?_
        refine lv_iadd hx hb dL_law_296 ?_
        refine zt_eq (v' := .int (nI (i + 4))) (congrArg Value.int (nI_add i 4)) ?_
        refine va_sld hx hb hX hbl hbA hS (vp_in_nI (show i + 4 < L by omega) (by omega)) dL_law_297 ?_
        refine zt_eq (v' := .int (xs (i + 4))) (by rw [nI_clamp (by omega)]) ?_
        refine zl_callV (As := [.int (xs (i + 1)), .int (xs (i + 2)), .int (xs (i + 3)), .int (xs (i + 4))]) (rest := [.int ((sp_cue S (xs (i + 1)) (xs (i + 2)) (xs (i + 3)) (xs (i + 4))).1)]) hx hb hml hts hown hE hA hN hM (zl_sym hD) hS hq0 rfl (fun Bx => c_X6_cue l G Bx q S _ (xs (i + 1)) (xs (i + 2)) (xs (i + 3)) (xs (i + 4)) hI hR) cd_X6_cue ml_L_41 rfl rfl hl.1 (Nat.le_of_ble_eq_true rfl) ⟨Nat.le_of_ble_eq_true rfl, Nat.le_of_ble_eq_true rfl⟩ ⟨by show (cs + 1) + 0 ≤ 600000; omega, by show (sl + 4) + 0 ≤ 7302250; omega⟩ dL_law_298 ?_
        rintro r N1 H locs ⟨rfl, hR1⟩ hN hM hD hS
        refine W.eq (g2 := F0 m 301 ls [.int ((sp_cue S (xs (i + 1)) (xs (i + 2)) (xs (i + 3)) (xs (i + 4))).1), .int ((sp_cue S (xs (i + 1)) (xs (i + 2)) (xs (i + 3)) (xs (i + 4))).1)]) rfl ?_
        refine lv_icmp_eq (tgt := 535) hx hb dL_law_301 (by decide) (fun c301 => ?_) (fun c301 => ?_)
        · refine lv_iinc (v := nI (i + 5)) (lv' := [(3, .int (nI (i + 5))), (0, .ref b), (1, .ref B.1.1), (2, .ref (q 0))]) hx hb dL_law_535 hl (k := 0) rfl (nI_add i 5) (by decide) rfl (fun ls hl => ?_)
          refine lv_goto (tgt := 18) hx hb dL_law_538 (by decide) ?_
          exact ih (i + 5) (by omega) (by omega) _ _ (by omega) (by omega) B1 q _ _ _ _ _ (sp_cue_inv hI _ _ _ _) hC1 hR1 hM hN (zl_sym hD) hS ls (by rw [hB1]; exact lv_sub hl [0, 1, 2, 3] rfl)
        · exact absurd rfl c301
      · refine lv_tableIn (off := 274) (tgt := 306) hx hb dL_law_32 (by decide) (by decide) rfl (by decide) ?_
        refine lv_aload_n hx hb dL_law_306 rfl (lv_at hl 2 rfl) ?_
        refine zl_callV (As := []) (rest := []) hx hb hml hts hown hE hA hM hN hD hS hC.1 rfl (fun Bx => c_X5_strike l G Bx B S _ hI hC) cd_X5_strike ml_L_42 rfl rfl hl.1 (Nat.le_of_ble_eq_true rfl) ⟨Nat.le_of_ble_eq_true rfl, Nat.le_of_ble_eq_true rfl⟩ ⟨by show cs + 0 ≤ 600000; omega, by show sl + 0 ≤ 7302250; omega⟩ dL_law_307 ?_
        rintro r M1 H locs ⟨B1, hB1, rfl, hC1⟩ hM hN hD hS
        refine W.eq (g2 := F0 m 310 ls [.int (nI (s_nc S))]) rfl ?_
        refine lv_aload_n hx hb dL_law_310 rfl (lv_at hl 3 rfl) ?_
        refine zl_callV (As := []) (rest := [.int (nI (s_nc S))]) hx hb hml hts hown hE hA hN hM (zl_sym hD) hS hq0 rfl (fun Bx => c_X6_strike l G Bx q S _ hI hR) cd_X6_strike ml_L_45 rfl rfl hl.1 (Nat.le_of_ble_eq_true rfl) ⟨Nat.le_of_ble_eq_true rfl, Nat.le_of_ble_eq_true rfl⟩ ⟨by show (cs + 0) + 0 ≤ 600000; omega, by show (sl + 0) + 0 ≤ 7302250; omega⟩ dL_law_311 ?_
        rintro r N1 H locs ⟨rfl, hR1⟩ hN hM hD hS
        refine W.eq (g2 := F0 m 314 ls [.int (nI (s_nc S)), .int (nI (s_nc S))]) rfl ?_
        refine lv_icmp_eq (tgt := 535) hx hb dL_law_314 (by decide) (fun c314 => ?_) (fun c314 => ?_)
        · refine lv_iinc (v := nI (i + 5)) (lv' := [(3, .int (nI (i + 5))), (0, .ref b), (1, .ref B.1.1), (2, .ref (q 0))]) hx hb dL_law_535 hl (k := 0) rfl (nI_add i 5) (by decide) rfl (fun ls hl => ?_)
          refine lv_goto (tgt := 18) hx hb dL_law_538 (by decide) ?_
          exact ih (i + 5) (by omega) (by omega) _ _ (by omega) (by omega) B1 q _ _ _ _ _ (hI.nc) hC1 hR1 hM hN (zl_sym hD) hS ls (by rw [hB1]; exact lv_sub hl [0, 1, 2, 3] rfl)
        · exact absurd rfl c314
      · refine lv_tableIn (off := 287) (tgt := 319) hx hb dL_law_32 (by decide) (by decide) rfl (by decide) ?_
        refine lv_aload_n hx hb dL_law_319 rfl (lv_at hl 2 rfl) ?_
        refine lv_aload_n hx hb dL_law_320 rfl (lv_at hl 1 rfl) ?_
        refine lv_iload_n hx hb dL_law_321 rfl (lv_at hl 0 rfl) ?_
        refine lv_iconst (v := 1) hx hb dL_law_322 (by decide) ?_
        refine lv_iadd hx hb dL_law_323 ?_
        refine zt_eq (v' := .int (nI (i + 1))) (congrArg Value.int (nI_add i 1)) ?_
        refine va_sld hx hb hX hbl hbA hS (vp_in_nI (show i + 1 < L by omega) (by omega)) dL_law_324 ?_
        refine zt_eq (v' := .int (xs (i + 1))) (by rw [nI_clamp (by omega)]) ?_
        refine lv_aload_n hx hb dL_law_325 rfl (lv_at hl 1 rfl) ?_
        refine lv_iload_n hx hb dL_law_326 rfl (lv_at hl 0 rfl) ?_
        refine lv_iconst (v := 2) hx hb dL_law_327 (by decide) ?_
        refine lv_iadd hx hb dL_law_328 ?_
        refine zt_eq (v' := .int (nI (i + 2))) (congrArg Value.int (nI_add i 2)) ?_
        refine va_sld hx hb hX hbl hbA hS (vp_in_nI (show i + 2 < L by omega) (by omega)) dL_law_329 ?_
        refine zt_eq (v' := .int (xs (i + 2))) (by rw [nI_clamp (by omega)]) ?_
        refine zl_callV (As := [.int (xs (i + 1)), .int (xs (i + 2))]) (rest := []) hx hb hml hts hown hE hA hM hN hD hS hC.1 rfl (fun Bx => c_X5_play l G Bx B S _ (xs (i + 1)) (xs (i + 2)) hI hC) cd_X5_play ml_L_46 rfl rfl hl.1 (Nat.le_of_ble_eq_true rfl) ⟨Nat.le_of_ble_eq_true rfl, Nat.le_of_ble_eq_true rfl⟩ ⟨by show cs + 0 ≤ 600000; omega, by show sl + 0 ≤ 7302250; omega⟩ dL_law_330 ?_
        rintro r M1 H locs ⟨B1, hB1, rfl, hC1⟩ hM hN hD hS
        refine W.eq (g2 := F0 m 333 ls [.int ((sp_play S (xs (i + 1)) (xs (i + 2))).1)]) rfl ?_
        refine lv_aload_n hx hb dL_law_333 rfl (lv_at hl 3 rfl) ?_
        refine lv_aload_n hx hb dL_law_334 rfl (lv_at hl 1 rfl) ?_
        refine lv_iload_n hx hb dL_law_335 rfl (lv_at hl 0 rfl) ?_
        refine lv_iconst (v := 1) hx hb dL_law_336 (by decide) ?_
        refine lv_iadd hx hb dL_law_337 ?_
        refine zt_eq (v' := .int (nI (i + 1))) (congrArg Value.int (nI_add i 1)) ?_
        refine va_sld hx hb hX hbl hbA hS (vp_in_nI (show i + 1 < L by omega) (by omega)) dL_law_338 ?_
        refine zt_eq (v' := .int (xs (i + 1))) (by rw [nI_clamp (by omega)]) ?_
        refine lv_aload_n hx hb dL_law_339 rfl (lv_at hl 1 rfl) ?_
        refine lv_iload_n hx hb dL_law_340 rfl (lv_at hl 0 rfl) ?_
        refine lv_iconst (v := 2) hx hb dL_law_341 (by decide) ?_
        refine lv_iadd hx hb dL_law_342 ?_
        refine zt_eq (v' := .int (nI (i + 2))) (congrArg Value.int (nI_add i 2)) ?_
        refine va_sld hx hb hX hbl hbA hS (vp_in_nI (show i + 2 < L by omega) (by omega)) dL_law_343 ?_
        refine zt_eq (v' := .int (xs (i + 2))) (by rw [nI_clamp (by omega)]) ?_
        refine zl_callV (As := [.int (xs (i + 1)), .int (xs (i + 2))]) (rest := [.int ((sp_play S (xs (i + 1)) (xs (i + 2))).1)]) hx hb hml hts hown hE hA hN hM (zl_sym hD) hS hq0 rfl (fun Bx => c_X6_play l G Bx q S _ (xs (i + 1)) (xs (i + 2)) hI hR) cd_X6_play ml_L_49 rfl rfl hl.1 (Nat.le_of_ble_eq_true rfl) ⟨Nat.le_of_ble_eq_true rfl, Nat.le_of_ble_eq_true rfl⟩ ⟨by show (cs + 0) + 0 ≤ 600000; omega, by show (sl + 0) + 0 ≤ 7302250; omega⟩ dL_law_344 ?_
        rintro r N1 H locs ⟨rfl, hR1⟩ hN hM hD hS
        refine W.eq (g2 := F0 m 347 ls [.int ((sp_play S (xs (i + 1)) (xs (i + 2))).1), .int ((sp_play S (xs (i + 1)) (xs (i + 2))).1)]) rfl ?_
        refine lv_icmp_eq (tgt := 535) hx hb dL_law_347 (by decide) (fun c347 => ?_) (fun c347 => ?_)
        · refine lv_iinc (v := nI (i + 5)) (lv' := [(3, .int (nI (i + 5))), (0, .ref b), (1, .ref B.1.1), (2, .ref (q 0))]) hx hb dL_law_535 hl (k := 0) rfl (nI_add i 5) (by decide) rfl (fun ls hl => ?_)
          refine lv_goto (tgt := 18) hx hb dL_law_538 (by decide) ?_
          exact ih (i + 5) (by omega) (by omega) _ _ (by omega) (by omega) B1 q _ _ _ _ _ (sp_play_inv hI _ _) hC1 hR1 hM hN (zl_sym hD) hS ls (by rw [hB1]; exact lv_sub hl [0, 1, 2, 3] rfl)
        · exact absurd rfl c347
      · refine lv_tableIn (off := 320) (tgt := 352) hx hb dL_law_32 (by decide) (by decide) rfl (by decide) ?_
        refine lv_aload_n hx hb dL_law_352 rfl (lv_at hl 2 rfl) ?_
        refine lv_aload_n hx hb dL_law_353 rfl (lv_at hl 1 rfl) ?_
        refine lv_iload_n hx hb dL_law_354 rfl (lv_at hl 0 rfl) ?_
        refine lv_iconst (v := 1) hx hb dL_law_355 (by decide) ?_
        refine lv_iadd hx hb dL_law_356 ?_
        refine zt_eq (v' := .int (nI (i + 1))) (congrArg Value.int (nI_add i 1)) ?_
        refine va_sld hx hb hX hbl hbA hS (vp_in_nI (show i + 1 < L by omega) (by omega)) dL_law_357 ?_
        refine zt_eq (v' := .int (xs (i + 1))) (by rw [nI_clamp (by omega)]) ?_
        refine zl_callV (As := [.int (xs (i + 1))]) (rest := []) hx hb hml hts hown hE hA hM hN hD hS hC.1 rfl (fun Bx => c_X5_miscue l G Bx B S _ (xs (i + 1)) hI hC) cd_X5_miscue ml_L_50 rfl rfl hl.1 (Nat.le_of_ble_eq_true rfl) ⟨Nat.le_of_ble_eq_true rfl, Nat.le_of_ble_eq_true rfl⟩ ⟨by show cs + 0 ≤ 600000; omega, by show sl + 0 ≤ 7302250; omega⟩ dL_law_358 ?_
        rintro r M1 H locs ⟨rfl, e1⟩ hM hN hD hS
        rw [e1] at hM hD
        clear e1 M1
        refine W.eq (g2 := F0 m 361 ls [.int (sp_miscue S (xs (i + 1)))]) rfl ?_
        refine lv_aload_n hx hb dL_law_361 rfl (lv_at hl 3 rfl) ?_
        refine lv_aload_n hx hb dL_law_362 rfl (lv_at hl 1 rfl) ?_
        refine lv_iload_n hx hb dL_law_363 rfl (lv_at hl 0 rfl) ?_
        refine lv_iconst (v := 1) hx hb dL_law_364 (by decide) ?_
        refine lv_iadd hx hb dL_law_365 ?_
        refine zt_eq (v' := .int (nI (i + 1))) (congrArg Value.int (nI_add i 1)) ?_
        refine va_sld hx hb hX hbl hbA hS (vp_in_nI (show i + 1 < L by omega) (by omega)) dL_law_366 ?_
        refine zt_eq (v' := .int (xs (i + 1))) (by rw [nI_clamp (by omega)]) ?_
        refine zl_callV (As := [.int (xs (i + 1))]) (rest := [.int (sp_miscue S (xs (i + 1)))]) hx hb hml hts hown hE hA hN hM (zl_sym hD) hS hq0 rfl (fun Bx => c_X6_miscue l G Bx q S _ (xs (i + 1)) hI hR) cd_X6_miscue ml_L_53 rfl rfl hl.1 (Nat.le_of_ble_eq_true rfl) ⟨Nat.le_of_ble_eq_true rfl, Nat.le_of_ble_eq_true rfl⟩ ⟨by show (cs + 0) + 0 ≤ 600000; omega, by show (sl + 0) + 0 ≤ 7302250; omega⟩ dL_law_367 ?_
        rintro r N1 H locs ⟨rfl, e1⟩ hN hM hD hS
        rw [e1] at hN hD
        clear e1 N1
        refine W.eq (g2 := F0 m 370 ls [.int (sp_miscue S (xs (i + 1))), .int (sp_miscue S (xs (i + 1)))]) rfl ?_
        refine lv_icmp_eq (tgt := 535) hx hb dL_law_370 (by decide) (fun c370 => ?_) (fun c370 => ?_)
        · refine lv_iinc (v := nI (i + 5)) (lv' := [(3, .int (nI (i + 5))), (0, .ref b), (1, .ref B.1.1), (2, .ref (q 0))]) hx hb dL_law_535 hl (k := 0) rfl (nI_add i 5) (by decide) rfl (fun ls hl => ?_)
          refine lv_goto (tgt := 18) hx hb dL_law_538 (by decide) ?_
          exact ih (i + 5) (by omega) (by omega) _ _ (by omega) (by omega) B q S _ _ _ _ hI hC hR hM hN (zl_sym hD) hS ls (lv_sub hl [0, 1, 2, 3] rfl)
        · exact absurd rfl c370
      · refine lv_tableIn (off := 343) (tgt := 375) hx hb dL_law_32 (by decide) (by decide) rfl (by decide) ?_
        refine lv_aload_n hx hb dL_law_375 rfl (lv_at hl 2 rfl) ?_
        refine zl_callV (As := []) (rest := []) hx hb hml hts hown hE hA hM hN hD hS hC.1 rfl (fun Bx => c_X5_points l G Bx B S _ hI hC) cd_X5_points ml_L_54 rfl rfl hl.1 (Nat.le_of_ble_eq_true rfl) ⟨Nat.le_of_ble_eq_true rfl, Nat.le_of_ble_eq_true rfl⟩ ⟨by show cs + 0 ≤ 600000; omega, by show sl + 0 ≤ 7302250; omega⟩ dL_law_376 ?_
        rintro r M1 H locs ⟨rfl, e1⟩ hM hN hD hS
        rw [e1] at hM hD
        clear e1 M1
        refine W.eq (g2 := F0 m 379 ls [.long (s_po S)]) rfl ?_
        refine lv_aload_n hx hb dL_law_379 rfl (lv_at hl 3 rfl) ?_
        refine zl_callV (As := []) (rest := [.long (s_po S)]) hx hb hml hts hown hE hA hN hM (zl_sym hD) hS hq0 rfl (fun Bx => c_X6_points l G Bx q S _ hI hR) cd_X6_points ml_L_58 rfl rfl hl.1 (Nat.le_of_ble_eq_true rfl) ⟨Nat.le_of_ble_eq_true rfl, Nat.le_of_ble_eq_true rfl⟩ ⟨by show (cs + 0) + 0 ≤ 600000; omega, by show (sl + 0) + 0 ≤ 7302250; omega⟩ dL_law_380 ?_
        rintro r N1 H locs ⟨rfl, e1⟩ hN hM hD hS
        rw [e1] at hN hD
        clear e1 N1
        refine W.eq (g2 := F0 m 383 ls [.long (s_po S), .long (s_po S)]) rfl ?_
        refine W.lcmp hx hb dL_law_383 ?_
        refine lv_if_eq (tgt := 535) hx hb dL_law_384 (by decide) (fun c384 => ?_) (fun c384 => ?_)
        · refine lv_iinc (v := nI (i + 5)) (lv' := [(3, .int (nI (i + 5))), (0, .ref b), (1, .ref B.1.1), (2, .ref (q 0))]) hx hb dL_law_535 hl (k := 0) rfl (nI_add i 5) (by decide) rfl (fun ls hl => ?_)
          refine lv_goto (tgt := 18) hx hb dL_law_538 (by decide) ?_
          exact ih (i + 5) (by omega) (by omega) _ _ (by omega) (by omega) B q S _ _ _ _ hI hC hR hM hN (zl_sym hD) hS ls (lv_sub hl [0, 1, 2, 3] rfl)
        · exact absurd (lg_self _) c384
      · refine lv_tableIn (off := 357) (tgt := 389) hx hb dL_law_32 (by decide) (by decide) rfl (by decide) ?_
        refine lv_aload_n hx hb dL_law_389 rfl (lv_at hl 2 rfl) ?_
        refine lv_aload_n hx hb dL_law_390 rfl (lv_at hl 1 rfl) ?_
        refine lv_iload_n hx hb dL_law_391 rfl (lv_at hl 0 rfl) ?_
        refine lv_iconst (v := 1) hx hb dL_law_392 (by decide) ?_
        refine lv_iadd hx hb dL_law_393 ?_
        refine zt_eq (v' := .int (nI (i + 1))) (congrArg Value.int (nI_add i 1)) ?_
        refine va_sld hx hb hX hbl hbA hS (vp_in_nI (show i + 1 < L by omega) (by omega)) dL_law_394 ?_
        refine zt_eq (v' := .int (xs (i + 1))) (by rw [nI_clamp (by omega)]) ?_
        refine lv_aload_n hx hb dL_law_395 rfl (lv_at hl 1 rfl) ?_
        refine lv_iload_n hx hb dL_law_396 rfl (lv_at hl 0 rfl) ?_
        refine lv_iconst (v := 2) hx hb dL_law_397 (by decide) ?_
        refine lv_iadd hx hb dL_law_398 ?_
        refine zt_eq (v' := .int (nI (i + 2))) (congrArg Value.int (nI_add i 2)) ?_
        refine va_sld hx hb hX hbl hbA hS (vp_in_nI (show i + 2 < L by omega) (by omega)) dL_law_399 ?_
        refine zt_eq (v' := .int (xs (i + 2))) (by rw [nI_clamp (by omega)]) ?_
        refine zl_callV (As := [.int (xs (i + 1)), .int (xs (i + 2))]) (rest := []) hx hb hml hts hown hE hA hM hN hD hS hC.1 rfl (fun Bx => c_X5_is l G Bx B S _ (xs (i + 1)) (xs (i + 2)) hI hC) cd_X5_is ml_L_59 rfl rfl hl.1 (Nat.le_of_ble_eq_true rfl) ⟨Nat.le_of_ble_eq_true rfl, Nat.le_of_ble_eq_true rfl⟩ ⟨by show cs + 0 ≤ 600000; omega, by show sl + 0 ≤ 7302250; omega⟩ dL_law_400 ?_
        rintro r M1 H locs ⟨rfl, e1⟩ hM hN hD hS
        rw [e1] at hM hD
        clear e1 M1
        refine W.eq (g2 := F0 m 403 ls [.int (sp_is S (xs (i + 1)) (xs (i + 2)))]) rfl ?_
        refine lv_aload_n hx hb dL_law_403 rfl (lv_at hl 3 rfl) ?_
        refine lv_aload_n hx hb dL_law_404 rfl (lv_at hl 1 rfl) ?_
        refine lv_iload_n hx hb dL_law_405 rfl (lv_at hl 0 rfl) ?_
        refine lv_iconst (v := 1) hx hb dL_law_406 (by decide) ?_
        refine lv_iadd hx hb dL_law_407 ?_
        refine zt_eq (v' := .int (nI (i + 1))) (congrArg Value.int (nI_add i 1)) ?_
        refine va_sld hx hb hX hbl hbA hS (vp_in_nI (show i + 1 < L by omega) (by omega)) dL_law_408 ?_
        refine zt_eq (v' := .int (xs (i + 1))) (by rw [nI_clamp (by omega)]) ?_
        refine lv_aload_n hx hb dL_law_409 rfl (lv_at hl 1 rfl) ?_
        refine lv_iload_n hx hb dL_law_410 rfl (lv_at hl 0 rfl) ?_
        refine lv_iconst (v := 2) hx hb dL_law_411 (by decide) ?_
        refine lv_iadd hx hb dL_law_412 ?_
        refine zt_eq (v' := .int (nI (i + 2))) (congrArg Value.int (nI_add i 2)) ?_
        refine va_sld hx hb hX hbl hbA hS (vp_in_nI (show i + 2 < L by omega) (by omega)) dL_law_413 ?_
        refine zt_eq (v' := .int (xs (i + 2))) (by rw [nI_clamp (by omega)]) ?_
        refine zl_callV (As := [.int (xs (i + 1)), .int (xs (i + 2))]) (rest := [.int (sp_is S (xs (i + 1)) (xs (i + 2)))]) hx hb hml hts hown hE hA hN hM (zl_sym hD) hS hq0 rfl (fun Bx => c_X6_is l G Bx q S _ (xs (i + 1)) (xs (i + 2)) hI hR) cd_X6_is ml_L_62 rfl rfl hl.1 (Nat.le_of_ble_eq_true rfl) ⟨Nat.le_of_ble_eq_true rfl, Nat.le_of_ble_eq_true rfl⟩ ⟨by show (cs + 0) + 0 ≤ 600000; omega, by show (sl + 0) + 0 ≤ 7302250; omega⟩ dL_law_414 ?_
        rintro r N1 H locs ⟨rfl, e1⟩ hN hM hD hS
        rw [e1] at hN hD
        clear e1 N1
        refine W.eq (g2 := F0 m 417 ls [.int (sp_is S (xs (i + 1)) (xs (i + 2))), .int (sp_is S (xs (i + 1)) (xs (i + 2)))]) rfl ?_
        refine lv_icmp_eq (tgt := 535) hx hb dL_law_417 (by decide) (fun c417 => ?_) (fun c417 => ?_)
        · refine lv_iinc (v := nI (i + 5)) (lv' := [(3, .int (nI (i + 5))), (0, .ref b), (1, .ref B.1.1), (2, .ref (q 0))]) hx hb dL_law_535 hl (k := 0) rfl (nI_add i 5) (by decide) rfl (fun ls hl => ?_)
          refine lv_goto (tgt := 18) hx hb dL_law_538 (by decide) ?_
          exact ih (i + 5) (by omega) (by omega) _ _ (by omega) (by omega) B q S _ _ _ _ hI hC hR hM hN (zl_sym hD) hS ls (lv_sub hl [0, 1, 2, 3] rfl)
        · exact absurd rfl c417
      · refine lv_tableIn (off := 390) (tgt := 422) hx hb dL_law_32 (by decide) (by decide) rfl (by decide) ?_
        refine lv_aload_n hx hb dL_law_422 rfl (lv_at hl 2 rfl) ?_
        refine lv_aload_n hx hb dL_law_423 rfl (lv_at hl 1 rfl) ?_
        refine lv_iload_n hx hb dL_law_424 rfl (lv_at hl 0 rfl) ?_
        refine lv_iconst (v := 1) hx hb dL_law_425 (by decide) ?_
        refine lv_iadd hx hb dL_law_426 ?_
        refine zt_eq (v' := .int (nI (i + 1))) (congrArg Value.int (nI_add i 1)) ?_
        refine va_sld hx hb hX hbl hbA hS (vp_in_nI (show i + 1 < L by omega) (by omega)) dL_law_427 ?_
        refine zt_eq (v' := .int (xs (i + 1))) (by rw [nI_clamp (by omega)]) ?_
        refine lv_aload_n hx hb dL_law_428 rfl (lv_at hl 1 rfl) ?_
        refine lv_iload_n hx hb dL_law_429 rfl (lv_at hl 0 rfl) ?_
        refine lv_iconst (v := 2) hx hb dL_law_430 (by decide) ?_
        refine lv_iadd hx hb dL_law_431 ?_
        refine zt_eq (v' := .int (nI (i + 2))) (congrArg Value.int (nI_add i 2)) ?_
        refine va_sld hx hb hX hbl hbA hS (vp_in_nI (show i + 2 < L by omega) (by omega)) dL_law_432 ?_
        refine zt_eq (v' := .int (xs (i + 2))) (by rw [nI_clamp (by omega)]) ?_
        refine zl_callV (As := [.int (xs (i + 1)), .int (xs (i + 2))]) (rest := []) hx hb hml hts hown hE hA hM hN hD hS hC.1 rfl (fun Bx => c_X5_worth l G Bx B S _ (xs (i + 1)) (xs (i + 2)) hI hC) cd_X5_worth ml_L_63 rfl rfl hl.1 (Nat.le_of_ble_eq_true rfl) ⟨Nat.le_of_ble_eq_true rfl, Nat.le_of_ble_eq_true rfl⟩ ⟨by show cs + 0 ≤ 600000; omega, by show sl + 0 ≤ 7302250; omega⟩ dL_law_433 ?_
        rintro r M1 H locs ⟨rfl, e1⟩ hM hN hD hS
        rw [e1] at hM hD
        clear e1 M1
        refine W.eq (g2 := F0 m 436 ls [.long (sp_worth S (xs (i + 1)) (xs (i + 2)))]) rfl ?_
        refine lv_aload_n hx hb dL_law_436 rfl (lv_at hl 3 rfl) ?_
        refine lv_aload_n hx hb dL_law_437 rfl (lv_at hl 1 rfl) ?_
        refine lv_iload_n hx hb dL_law_438 rfl (lv_at hl 0 rfl) ?_
        refine lv_iconst (v := 1) hx hb dL_law_439 (by decide) ?_
        refine lv_iadd hx hb dL_law_440 ?_
        refine zt_eq (v' := .int (nI (i + 1))) (congrArg Value.int (nI_add i 1)) ?_
        refine va_sld hx hb hX hbl hbA hS (vp_in_nI (show i + 1 < L by omega) (by omega)) dL_law_441 ?_
        refine zt_eq (v' := .int (xs (i + 1))) (by rw [nI_clamp (by omega)]) ?_
        refine lv_aload_n hx hb dL_law_442 rfl (lv_at hl 1 rfl) ?_
        refine lv_iload_n hx hb dL_law_443 rfl (lv_at hl 0 rfl) ?_
        refine lv_iconst (v := 2) hx hb dL_law_444 (by decide) ?_
        refine lv_iadd hx hb dL_law_445 ?_
        refine zt_eq (v' := .int (nI (i + 2))) (congrArg Value.int (nI_add i 2)) ?_
        refine va_sld hx hb hX hbl hbA hS (vp_in_nI (show i + 2 < L by omega) (by omega)) dL_law_446 ?_
        refine zt_eq (v' := .int (xs (i + 2))) (by rw [nI_clamp (by omega)]) ?_
        refine zl_callV (As := [.int (xs (i + 1)), .int (xs (i + 2))]) (rest := [.long (sp_worth S (xs (i + 1)) (xs (i + 2)))]) hx hb hml hts hown hE hA hN hM (zl_sym hD) hS hq0 rfl (fun Bx => c_X6_worth l G Bx q S _ (xs (i + 1)) (xs (i + 2)) hI hR) cd_X6_worth ml_L_67 rfl rfl hl.1 (Nat.le_of_ble_eq_true rfl) ⟨Nat.le_of_ble_eq_true rfl, Nat.le_of_ble_eq_true rfl⟩ ⟨by show (cs + 0) + 0 ≤ 600000; omega, by show (sl + 0) + 0 ≤ 7302250; omega⟩ dL_law_447 ?_
        rintro r N1 H locs ⟨rfl, e1⟩ hN hM hD hS
        rw [e1] at hN hD
        clear e1 N1
        refine W.eq (g2 := F0 m 450 ls [.long (sp_worth S (xs (i + 1)) (xs (i + 2))), .long (sp_worth S (xs (i + 1)) (xs (i + 2)))]) rfl ?_
        refine W.lcmp hx hb dL_law_450 ?_
        refine lv_if_eq (tgt := 535) hx hb dL_law_451 (by decide) (fun c451 => ?_) (fun c451 => ?_)
        · refine lv_iinc (v := nI (i + 5)) (lv' := [(3, .int (nI (i + 5))), (0, .ref b), (1, .ref B.1.1), (2, .ref (q 0))]) hx hb dL_law_535 hl (k := 0) rfl (nI_add i 5) (by decide) rfl (fun ls hl => ?_)
          refine lv_goto (tgt := 18) hx hb dL_law_538 (by decide) ?_
          exact ih (i + 5) (by omega) (by omega) _ _ (by omega) (by omega) B q S _ _ _ _ hI hC hR hM hN (zl_sym hD) hS ls (lv_sub hl [0, 1, 2, 3] rfl)
        · exact absurd (lg_self _) c451
      · refine lv_tableIn (off := 424) (tgt := 456) hx hb dL_law_32 (by decide) (by decide) rfl (by decide) ?_
        refine lv_aload_n hx hb dL_law_456 rfl (lv_at hl 2 rfl) ?_
        refine lv_aload_n hx hb dL_law_457 rfl (lv_at hl 1 rfl) ?_
        refine lv_iload_n hx hb dL_law_458 rfl (lv_at hl 0 rfl) ?_
        refine lv_iconst (v := 1) hx hb dL_law_459 (by decide) ?_
        refine lv_iadd hx hb dL_law_460 ?_
        refine zt_eq (v' := .int (nI (i + 1))) (congrArg Value.int (nI_add i 1)) ?_
        refine va_sld hx hb hX hbl hbA hS (vp_in_nI (show i + 1 < L by omega) (by omega)) dL_law_461 ?_
        refine zt_eq (v' := .int (xs (i + 1))) (by rw [nI_clamp (by omega)]) ?_
        refine zl_callV (As := [.int (xs (i + 1))]) (rest := []) hx hb hml hts hown hE hA hM hN hD hS hC.1 rfl (fun Bx => c_X5_wear l G Bx B S _ (xs (i + 1)) hI hC) cd_X5_wear ml_L_68 rfl rfl hl.1 (Nat.le_of_ble_eq_true rfl) ⟨Nat.le_of_ble_eq_true rfl, Nat.le_of_ble_eq_true rfl⟩ ⟨by show cs + 0 ≤ 600000; omega, by show sl + 0 ≤ 7302250; omega⟩ dL_law_462 ?_
        rintro r M1 H locs ⟨rfl, e1⟩ hM hN hD hS
        rw [e1] at hM hD
        clear e1 M1
        refine W.eq (g2 := F0 m 465 ls [.int (sp_wear S (xs (i + 1)))]) rfl ?_
        refine lv_aload_n hx hb dL_law_465 rfl (lv_at hl 3 rfl) ?_
        refine lv_aload_n hx hb dL_law_466 rfl (lv_at hl 1 rfl) ?_
        refine lv_iload_n hx hb dL_law_467 rfl (lv_at hl 0 rfl) ?_
        refine lv_iconst (v := 1) hx hb dL_law_468 (by decide) ?_
        refine lv_iadd hx hb dL_law_469 ?_
        refine zt_eq (v' := .int (nI (i + 1))) (congrArg Value.int (nI_add i 1)) ?_
        refine va_sld hx hb hX hbl hbA hS (vp_in_nI (show i + 1 < L by omega) (by omega)) dL_law_470 ?_
        refine zt_eq (v' := .int (xs (i + 1))) (by rw [nI_clamp (by omega)]) ?_
        refine zl_callV (As := [.int (xs (i + 1))]) (rest := [.int (sp_wear S (xs (i + 1)))]) hx hb hml hts hown hE hA hN hM (zl_sym hD) hS hq0 rfl (fun Bx => c_X6_wear l G Bx q S _ (xs (i + 1)) hI hR) cd_X6_wear ml_L_71 rfl rfl hl.1 (Nat.le_of_ble_eq_true rfl) ⟨Nat.le_of_ble_eq_true rfl, Nat.le_of_ble_eq_true rfl⟩ ⟨by show (cs + 0) + 0 ≤ 600000; omega, by show (sl + 0) + 0 ≤ 7302250; omega⟩ dL_law_471 ?_
        rintro r N1 H locs ⟨rfl, e1⟩ hN hM hD hS
        rw [e1] at hN hD
        clear e1 N1
        refine W.eq (g2 := F0 m 474 ls [.int (sp_wear S (xs (i + 1))), .int (sp_wear S (xs (i + 1)))]) rfl ?_
        refine lv_icmp_eq (tgt := 535) hx hb dL_law_474 (by decide) (fun c474 => ?_) (fun c474 => ?_)
        · refine lv_iinc (v := nI (i + 5)) (lv' := [(3, .int (nI (i + 5))), (0, .ref b), (1, .ref B.1.1), (2, .ref (q 0))]) hx hb dL_law_535 hl (k := 0) rfl (nI_add i 5) (by decide) rfl (fun ls hl => ?_)
          refine lv_goto (tgt := 18) hx hb dL_law_538 (by decide) ?_
          exact ih (i + 5) (by omega) (by omega) _ _ (by omega) (by omega) B q S _ _ _ _ hI hC hR hM hN (zl_sym hD) hS ls (lv_sub hl [0, 1, 2, 3] rfl)
        · exact absurd rfl c474
      · refine lv_tableIn (off := 447) (tgt := 479) hx hb dL_law_32 (by decide) (by decide) rfl (by decide) ?_
        refine lv_aload_n hx hb dL_law_479 rfl (lv_at hl 2 rfl) ?_
        refine lv_aload_n hx hb dL_law_480 rfl (lv_at hl 1 rfl) ?_
        refine lv_iload_n hx hb dL_law_481 rfl (lv_at hl 0 rfl) ?_
        refine lv_iconst (v := 1) hx hb dL_law_482 (by decide) ?_
        refine lv_iadd hx hb dL_law_483 ?_
        refine zt_eq (v' := .int (nI (i + 1))) (congrArg Value.int (nI_add i 1)) ?_
        refine va_sld hx hb hX hbl hbA hS (vp_in_nI (show i + 1 < L by omega) (by omega)) dL_law_484 ?_
        refine zt_eq (v' := .int (xs (i + 1))) (by rw [nI_clamp (by omega)]) ?_
        refine lv_aload_n hx hb dL_law_485 rfl (lv_at hl 1 rfl) ?_
        refine lv_iload_n hx hb dL_law_486 rfl (lv_at hl 0 rfl) ?_
        refine lv_iconst (v := 2) hx hb dL_law_487 (by decide) ?_
        refine lv_iadd hx hb dL_law_488 ?_
        refine zt_eq (v' := .int (nI (i + 2))) (congrArg Value.int (nI_add i 2)) ?_
        refine va_sld hx hb hX hbl hbA hS (vp_in_nI (show i + 2 < L by omega) (by omega)) dL_law_489 ?_
        refine zt_eq (v' := .int (xs (i + 2))) (by rw [nI_clamp (by omega)]) ?_
        refine zl_callV (As := [.int (xs (i + 1)), .int (xs (i + 2))]) (rest := []) hx hb hml hts hown hE hA hM hN hD hS hC.1 rfl (fun Bx => c_X5_at l G Bx B S _ (xs (i + 1)) (xs (i + 2)) hI hC) cd_X5_at ml_L_72 rfl rfl hl.1 (Nat.le_of_ble_eq_true rfl) ⟨Nat.le_of_ble_eq_true rfl, Nat.le_of_ble_eq_true rfl⟩ ⟨by show cs + 0 ≤ 600000; omega, by show sl + 0 ≤ 7302250; omega⟩ dL_law_490 ?_
        rintro r M1 H locs ⟨rfl, e1⟩ hM hN hD hS
        rw [e1] at hM hD
        clear e1 M1
        refine W.eq (g2 := F0 m 493 ls [.int (sp_at S (xs (i + 1)) (xs (i + 2)))]) rfl ?_
        refine lv_aload_n hx hb dL_law_493 rfl (lv_at hl 3 rfl) ?_
        refine lv_aload_n hx hb dL_law_494 rfl (lv_at hl 1 rfl) ?_
        refine lv_iload_n hx hb dL_law_495 rfl (lv_at hl 0 rfl) ?_
        refine lv_iconst (v := 1) hx hb dL_law_496 (by decide) ?_
        refine lv_iadd hx hb dL_law_497 ?_
        refine zt_eq (v' := .int (nI (i + 1))) (congrArg Value.int (nI_add i 1)) ?_
        refine va_sld hx hb hX hbl hbA hS (vp_in_nI (show i + 1 < L by omega) (by omega)) dL_law_498 ?_
        refine zt_eq (v' := .int (xs (i + 1))) (by rw [nI_clamp (by omega)]) ?_
        refine lv_aload_n hx hb dL_law_499 rfl (lv_at hl 1 rfl) ?_
        refine lv_iload_n hx hb dL_law_500 rfl (lv_at hl 0 rfl) ?_
        refine lv_iconst (v := 2) hx hb dL_law_501 (by decide) ?_
        refine lv_iadd hx hb dL_law_502 ?_
        refine zt_eq (v' := .int (nI (i + 2))) (congrArg Value.int (nI_add i 2)) ?_
        refine va_sld hx hb hX hbl hbA hS (vp_in_nI (show i + 2 < L by omega) (by omega)) dL_law_503 ?_
        refine zt_eq (v' := .int (xs (i + 2))) (by rw [nI_clamp (by omega)]) ?_
        refine zl_callV (As := [.int (xs (i + 1)), .int (xs (i + 2))]) (rest := [.int (sp_at S (xs (i + 1)) (xs (i + 2)))]) hx hb hml hts hown hE hA hN hM (zl_sym hD) hS hq0 rfl (fun Bx => c_X6_at l G Bx q S _ (xs (i + 1)) (xs (i + 2)) hI hR) cd_X6_at ml_L_75 rfl rfl hl.1 (Nat.le_of_ble_eq_true rfl) ⟨Nat.le_of_ble_eq_true rfl, Nat.le_of_ble_eq_true rfl⟩ ⟨by show (cs + 0) + 0 ≤ 600000; omega, by show (sl + 0) + 0 ≤ 7302250; omega⟩ dL_law_504 ?_
        rintro r N1 H locs ⟨rfl, e1⟩ hN hM hD hS
        rw [e1] at hN hD
        clear e1 N1
        refine W.eq (g2 := F0 m 507 ls [.int (sp_at S (xs (i + 1)) (xs (i + 2))), .int (sp_at S (xs (i + 1)) (xs (i + 2)))]) rfl ?_
        refine lv_icmp_eq (tgt := 535) hx hb dL_law_507 (by decide) (fun c507 => ?_) (fun c507 => ?_)
        · refine lv_iinc (v := nI (i + 5)) (lv' := [(3, .int (nI (i + 5))), (0, .ref b), (1, .ref B.1.1), (2, .ref (q 0))]) hx hb dL_law_535 hl (k := 0) rfl (nI_add i 5) (by decide) rfl (fun ls hl => ?_)
          refine lv_goto (tgt := 18) hx hb dL_law_538 (by decide) ?_
          exact ih (i + 5) (by omega) (by omega) _ _ (by omega) (by omega) B q S _ _ _ _ hI hC hR hM hN (zl_sym hD) hS ls (lv_sub hl [0, 1, 2, 3] rfl)
        · exact absurd rfl c507
      · refine lv_tableIn (off := 480) (tgt := 512) hx hb dL_law_32 (by decide) (by decide) rfl (by decide) ?_
        refine lv_aload_n hx hb dL_law_512 rfl (lv_at hl 2 rfl) ?_
        refine lv_aload_n hx hb dL_law_513 rfl (lv_at hl 1 rfl) ?_
        refine lv_iload_n hx hb dL_law_514 rfl (lv_at hl 0 rfl) ?_
        refine lv_iconst (v := 1) hx hb dL_law_515 (by decide) ?_
        refine lv_iadd hx hb dL_law_516 ?_
        refine zt_eq (v' := .int (nI (i + 1))) (congrArg Value.int (nI_add i 1)) ?_
        refine va_sld hx hb hX hbl hbA hS (vp_in_nI (show i + 1 < L by omega) (by omega)) dL_law_517 ?_
        refine zt_eq (v' := .int (xs (i + 1))) (by rw [nI_clamp (by omega)]) ?_
        refine zl_callV (As := [.int (xs (i + 1))]) (rest := []) hx hb hml hts hown hE hA hM hN hD hS hC.1 rfl (fun Bx => c_X5_count l G Bx B S _ (xs (i + 1)) hI hC) cd_X5_count ml_L_76 rfl rfl hl.1 (Nat.le_of_ble_eq_true rfl) ⟨Nat.le_of_ble_eq_true rfl, Nat.le_of_ble_eq_true rfl⟩ ⟨by show cs + 0 ≤ 600000; omega, by show sl + 0 ≤ 7302250; omega⟩ dL_law_518 ?_
        rintro r M1 H locs ⟨rfl, e1⟩ hM hN hD hS
        rw [e1] at hM hD
        clear e1 M1
        refine W.eq (g2 := F0 m 521 ls [.int (sp_count S (xs (i + 1)))]) rfl ?_
        refine lv_aload_n hx hb dL_law_521 rfl (lv_at hl 3 rfl) ?_
        refine lv_aload_n hx hb dL_law_522 rfl (lv_at hl 1 rfl) ?_
        refine lv_iload_n hx hb dL_law_523 rfl (lv_at hl 0 rfl) ?_
        refine lv_iconst (v := 1) hx hb dL_law_524 (by decide) ?_
        refine lv_iadd hx hb dL_law_525 ?_
        refine zt_eq (v' := .int (nI (i + 1))) (congrArg Value.int (nI_add i 1)) ?_
        refine va_sld hx hb hX hbl hbA hS (vp_in_nI (show i + 1 < L by omega) (by omega)) dL_law_526 ?_
        refine zt_eq (v' := .int (xs (i + 1))) (by rw [nI_clamp (by omega)]) ?_
        refine zl_callV (As := [.int (xs (i + 1))]) (rest := [.int (sp_count S (xs (i + 1)))]) hx hb hml hts hown hE hA hN hM (zl_sym hD) hS hq0 rfl (fun Bx => c_X6_count l G Bx q S _ (xs (i + 1)) hI hR) cd_X6_count ml_L_79 rfl rfl hl.1 (Nat.le_of_ble_eq_true rfl) ⟨Nat.le_of_ble_eq_true rfl, Nat.le_of_ble_eq_true rfl⟩ ⟨by show (cs + 0) + 0 ≤ 600000; omega, by show (sl + 0) + 0 ≤ 7302250; omega⟩ dL_law_527 ?_
        rintro r N1 H locs ⟨rfl, e1⟩ hN hM hD hS
        rw [e1] at hN hD
        clear e1 N1
        refine W.eq (g2 := F0 m 530 ls [.int (sp_count S (xs (i + 1))), .int (sp_count S (xs (i + 1)))]) rfl ?_
        refine lv_icmp_eq (tgt := 535) hx hb dL_law_530 (by decide) (fun c530 => ?_) (fun c530 => ?_)
        · refine lv_iinc (v := nI (i + 5)) (lv' := [(3, .int (nI (i + 5))), (0, .ref b), (1, .ref B.1.1), (2, .ref (q 0))]) hx hb dL_law_535 hl (k := 0) rfl (nI_add i 5) (by decide) rfl (fun ls hl => ?_)
          refine lv_goto (tgt := 18) hx hb dL_law_538 (by decide) ?_
          exact ih (i + 5) (by omega) (by omega) _ _ (by omega) (by omega) B q S _ _ _ _ hI hC hR hM hN (zl_sym hD) hS ls (lv_sub hl [0, 1, 2, 3] rfl)
        · exact absurd rfl c530
      · refine lv_tableOut (tgt := 535) hx hb dL_law_32 (by decide) (by decide) ?_
        refine lv_iinc (v := nI (i + 5)) (lv' := [(3, .int (nI (i + 5))), (0, .ref b), (1, .ref B.1.1), (2, .ref (q 0))]) hx hb dL_law_535 hl (k := 0) rfl (nI_add i 5) (by decide) rfl (fun ls hl => ?_)
        refine lv_goto (tgt := 18) hx hb dL_law_538 (by decide) ?_
        exact ih (i + 5) (by omega) (by omega) _ _ (by omega) (by omega) B q S _ _ _ _ hI hC hR hM hN hD hS ls (lv_sub hl [0, 1, 2, 3] rfl)
set_option maxRecDepth 100000 in
set_option maxHeartbeats 8000000 in
theorem whole_start {p : Program} {e : Env} {s : State} {m : MethodId} {below : List Frame} {meth : Method} {c : Code} (l : Launch) {b L : Nat} {xs : Nat → Int32} (hL : L ≤ 2560) (C0 : lw_At p s m meth c b L xs) : W p l e room_1 s m #[Value.ref b] below meth c s.heap [] 0 0 (lw_Z below #[Value.ref b] s) (entryFrame m ([Value.ref b] : List Value).toArray 4) := by
  obtain ⟨hx, hb, hr, hml, hown, htb, hX, hbl, hlk, hgv⟩ := id C0
  have hts := fun w h => htb w (wsL_law_in w h)
  have hA : ∀ z : Nat, s.heap.size ≤ z → (fun z : Nat => s.heap.size ≤ z) z := fun _ h => h
  obtain ⟨G, hE⟩ := zl_E (flat_of_before _ hgv) htb
  have hS : va_S (fun z : Nat => s.heap.size ≤ z) s.heap s.heap [] := va_S.rf
  have hM : zm_P G (fun z : Nat => s.heap.size ≤ z) (zl_U (fun _ => none) (fun _ => none)) s.heap := fun a e h => by cases h
  have hl := lv_entry ([.ref b]) (n := 4) (Nat.le_of_ble_eq_true rfl)
  rw [lg_entry_eq]
  generalize (lg_sl ([.ref b]) ++ List.replicate (4 - (lg_sl ([.ref b])).length) Slot.unset).toArray = ls at hl ⊢
  have hl : lv_has ls 4 [(0, .ref b)] := hl
  refine zm_new (own := RL) (fs := [.null, .int 0, .null, .null, .null, .int 0, .long 0, .int 0, .int 0, .int 0]) hx hb hts hown hE hA hM hS 4 rfl inlX5 tyX5 tyX5_ok clk_L_7 in_X5.1 in_X5.2 (fun j hj => by rcases (show j = 0 ∨ j = 1 ∨ j = 2 ∨ j = 3 ∨ j = 4 ∨ j = 5 ∨ j = 6 ∨ j = 7 ∨ j = 8 ∨ j = 9 by omega) with rfl | rfl | rfl | rfl | rfl | rfl | rfl | rfl | rfl | rfl <;> rfl) (Nat.le_of_ble_eq_true rfl) (Nat.le_of_ble_eq_true rfl) dL_law_0 (fun a0 H hq hM hS => ?_)
  obtain ⟨hN, hM, hD, -⟩ := zl_U_new (fun z hz => absurd rfl hz) hq hM
  refine lv_dup hx hb dL_law_3 rfl ?_
  refine zl_callI (As := []) (rest := [.ref a0]) (own := RL) hx hb hml hts hown hE hA hM hN (zl_sym hD) hS (fun Bx => c_X5_init l G Bx _ a0 zm_up_s) cd_X5_init ml_L_9 rfl rfl hl.1 (Nat.le_of_ble_eq_true rfl) ⟨Nat.le_of_ble_eq_true rfl, Nat.le_of_ble_eq_true rfl⟩ ⟨Nat.le_of_ble_eq_true rfl, Nat.le_of_ble_eq_true rfl⟩ dL_law_4 ?_
  rintro r M1 H locs ⟨rfl, B, hB, hC⟩ hM hN hD hS
  refine W.eq (g2 := F0 m 7 ls [.ref a0]) rfl ?_
  refine lv_astore_n (lv' := [(1, .ref a0), (0, .ref b)]) hx hb dL_law_7 rfl hl (by decide) rfl (fun ls hl => ?_)
  have hU := zl_U_P hM hN
  refine zm_new (own := RL) (fs := [.int 0, .null, .null, .null, .null, .null, .null, .int 0, .int 0, .null, .null, .null, .null, .long 0, .int 0, .int 0, .int 0]) hx hb hts hown hE hA hU hS 5 rfl inlX6 tyX6 tyX6_ok clk_L_10 in_X6.1 in_X6.2 (fun j hj => by rcases (show j = 0 ∨ j = 1 ∨ j = 2 ∨ j = 3 ∨ j = 4 ∨ j = 5 ∨ j = 6 ∨ j = 7 ∨ j = 8 ∨ j = 9 ∨ j = 10 ∨ j = 11 ∨ j = 12 ∨ j = 13 ∨ j = 14 ∨ j = 15 ∨ j = 16 by omega) with rfl | rfl | rfl | rfl | rfl | rfl | rfl | rfl | rfl | rfl | rfl | rfl | rfl | rfl | rfl | rfl | rfl <;> rfl) (Nat.le_of_ble_eq_true rfl) (Nat.le_of_ble_eq_true rfl) dL_law_8 (fun a1 H hq hU hS => ?_)
  obtain ⟨hM, hN, hD, -⟩ := zl_U_new hD hq hU
  refine lv_dup hx hb dL_law_11 rfl ?_
  refine zl_callI (As := []) (rest := [.ref a1]) (own := RL) hx hb hml hts hown hE hA hN hM (zl_sym hD) hS (fun Bx => c_X6_init l G Bx _ a1 zm_up_s) cd_X6_init ml_L_12 rfl rfl hl.1 (Nat.le_of_ble_eq_true rfl) ⟨Nat.le_of_ble_eq_true rfl, Nat.le_of_ble_eq_true rfl⟩ ⟨Nat.le_of_ble_eq_true rfl, Nat.le_of_ble_eq_true rfl⟩ dL_law_12 ?_
  rintro r N1 H locs ⟨rfl, q, hq0, hR⟩ hN hM hD hS
  refine W.eq (g2 := F0 m 15 ls [.ref a1]) rfl ?_
  refine lv_astore_n (lv' := [(2, .ref a1), (1, .ref a0), (0, .ref b)]) hx hb dL_law_15 rfl hl (by decide) rfl (fun ls hl => ?_)
  refine lv_iconst (v := 0) hx hb dL_law_16 (by decide) ?_
  refine lv_istore_n (lv' := [(3, .int 0), (2, .ref a1), (1, .ref a0), (0, .ref b)]) hx hb dL_law_17 rfl hl (by decide) rfl (fun ls hl => ?_)
  rw [← hB, ← hq0] at hl
  exact law_loop hL C0 G hE (L + 1) 0 (Nat.zero_le _) (by omega) _ _ (Nat.le_of_ble_eq_true rfl) (Nat.le_of_ble_eq_true rfl) B q s_0 _ _ _ _ s_0_inv hC hR hM hN (zl_sym hD) hS ls (lv_sub hl [0, 3, 2, 1] rfl)
