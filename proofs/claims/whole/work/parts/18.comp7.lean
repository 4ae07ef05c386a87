theorem zm_sw {M : zm_M} {a b : Nat} {x y z : va_E} (h : b ≠ a) : zm_up (zm_up (zm_up M a x) b y) a z = zm_up (zm_up (zm_up M b y) a x) a z := by
  funext q
  by_cases h1 : q = a
  · subst h1; rw [zm_up_s, zm_up_s]
  · rw [zm_up_n h1, zm_up_n h1, zm_up_n h1]
    by_cases h2 : q = b
    · subst h2; rw [zm_up_s, zm_up_s]
    · rw [zm_up_n h2, zm_up_n h2, zm_up_n h1]
set_option maxRecDepth 100000 in
set_option maxHeartbeats 4000000 in
theorem c_X5_play (l : Launch) (G : zm_G) (A : Nat → Prop) (B : zB) (S : zS) (M : zm_M) (a b : Int32) (hI : zInv S) (hR : RepC G B S M) : Met l yX5_play (zm_W yX5_play cX5_play 5 (some .int)) (zm_rm 6 0 0) (zm_Pc G [.ref B.1.1, .int a, .int b] A M) (zm_Q G (fun r M' => ∃ B', B'.1 = B.1 ∧ r = some (.int (sp_play S a b).1) ∧ RepC G B' (sp_play S a b).2 M') A) 0 0 A := by
  refine zm_start (by decide) (Nat.le_of_ble_eq_true rfl) ?_
  intro p e s m below meth c hx hb hml hr hts hown hlk hnm hE hA ls hl hM hS
  have hl : lv_has ls 5 [(0, .ref B.1.1), (1, .int a), (2, .int b)] := hl
  refine lv_iload_n hx hb dX5_play_0 rfl (lv_at hl 1 rfl) ?_
  refine lv_if_lt (tgt := 17) hx hb dX5_play_1 (by decide) (fun c1 => ?_) (fun c1 => ?_)
  · refine lv_bipush (v := (-2)) hx hb dX5_play_17 (by decide) ?_
    refine zm_iret hx hb hr hlk hM hS ?_ ⟨Nat.le_refl _, Nat.le_refl _⟩ dX5_play_19
    have hs : sp_play S a b = (-2, S) := play_bad hI (by first | exact Or.inl c1 | exact Or.inr (Or.inl c6) | exact Or.inr (Or.inr (by rw [Int32.not_lt] at c14; exact c14)))
    exact ⟨B, rfl, by rw [hs], by rw [hs]; exact hR⟩
  · refine lv_iload_n hx hb dX5_play_4 rfl (lv_at hl 2 rfl) ?_
    refine lv_iload_n hx hb dX5_play_5 rfl (lv_at hl 1 rfl) ?_
    refine lv_icmp_lt (tgt := 17) hx hb dX5_play_6 (by decide) (fun c6 => ?_) (fun c6 => ?_)
    · refine lv_bipush (v := (-2)) hx hb dX5_play_17 (by decide) ?_
      refine zm_iret hx hb hr hlk hM hS ?_ ⟨Nat.le_refl _, Nat.le_refl _⟩ dX5_play_19
      have hs : sp_play S a b = (-2, S) := play_bad hI (by first | exact Or.inl c1 | exact Or.inr (Or.inl c6) | exact Or.inr (Or.inr (by rw [Int32.not_lt] at c14; exact c14)))
      exact ⟨B, rfl, by rw [hs], by rw [hs]; exact hR⟩
    · refine lv_iload_n hx hb dX5_play_9 rfl (lv_at hl 2 rfl) ?_
      refine lv_aload_n hx hb dX5_play_10 rfl (lv_at hl 0 rfl) ?_
      refine zm_get hx hb hts hown hE hM hR.1 fl_X5_71_4 rfl dX5_play_11 ?_
      refine lv_icmp_lt (tgt := 20) hx hb dX5_play_14 (by decide) (fun c14 => ?_) (fun c14 => ?_)
      · obtain ⟨x, y, rfl, rfl, hxy, hy, hs⟩ := play_ok hI c1 c6 c14
        have hnc := hI.2.1
        refine lv_aload_n hx hb dX5_play_20 rfl (lv_at hl 0 rfl) ?_
        refine lv_iconst (v := 0) hx hb dX5_play_21 (by decide) ?_
        refine zm_put hx hb hts hown hE hM hS hR.1 fp_X5_77_4 rfl rfl (Nat.le_of_ble_eq_true rfl) dX5_play_22 (fun H locs hM hS => ?_)
        have hR1 := hR.fld (S' := w_ms S 0 (s_at S) (s_of S)) rfl rfl rfl rfl (Nat.le_refl _) rfl
        refine lv_aload_n hx hb dX5_play_25 rfl (lv_at hl 0 rfl) ?_
        refine lv_iconst (v := (-1)) hx hb dX5_play_26 (by decide) ?_
        refine zm_put hx hb hts hown hE hM hS hR1.1 fp_X5_24_4 rfl rfl (Nat.le_of_ble_eq_true rfl) dX5_play_27 (fun H locs hM hS => ?_)
        have hR0 := hR1.fld (S' := w_ms S 0 (-1) (s_of S)) rfl rfl rfl rfl (Nat.le_refl _) rfl
        refine lv_iload_n hx hb dX5_play_30 rfl (lv_at hl 1 rfl) ?_
        refine lv_istore_n (lv' := [(3, .int (nI x)), (0, .ref B.1.1), (1, .int (nI x)), (2, .int (nI y))]) hx hb dX5_play_31 rfl hl (by decide) rfl (fun ls hl => ?_)
        have loop : ∀ (n k : Nat), x ≤ k → k ≤ y + 1 → y + 2 ≤ k + n → ∀ (ls : Array Slot) (S1 : zS) (M : zm_M) (H : Heap) (locs : List Loc), zInv S1 → s_nc S1 = s_nc S → pls (y + 1 - x) x (w_ms S 0 (-1) (s_of S)) = ((pls (y + 1 - k) k S1).1 + (k - x), (pls (y + 1 - k) k S1).2) → RepC G B S1 M → zm_P G A M H → va_S A s.heap H locs → lv_has ls 5 [(3, .int (nI k)), (0, .ref B.1.1), (1, .int (nI x)), (2, .int (nI y))] → W p l e (zm_rm 6 0 0) s m [.ref B.1.1, .int (nI x), .int (nI y)].toArray below meth c H locs 0 0 (MQ below (zm_Q G (fun r M' => ∃ B', B'.1 = B.1 ∧ r = some (.int (sp_play S (nI x) (nI y)).1) ∧ RepC G B' (sp_play S (nI x) (nI y)).2 M') A) [.ref B.1.1, .int (nI x), .int (nI y)].toArray s 0 0 A) (F0 m 32 ls []) := by
          intro n
          induction n with
          | zero => intro k h0 h1 h2; exact absurd h2 (by omega)
          | succ n ih =>
            intro k hk0 hk1 hk2 ls S1 M H locs hI1 hn1 hp hR1 hM hS hl
            refine lv_iload_n hx hb dX5_play_32 rfl (lv_at hl 0 rfl) ?_
            refine lv_iload_n hx hb dX5_play_33 rfl (lv_at hl 3 rfl) ?_
            refine lv_icmp_gt (tgt := 85) hx hb dX5_play_34 (by decide) (fun c34 => ?_) (fun c34 => ?_)
            · rw [nI_ltI (by omega) (by omega)] at c34
              refine lv_iload_n hx hb dX5_play_85 rfl (lv_at hl 3 rfl) ?_
              refine lv_iload_n hx hb dX5_play_86 rfl (lv_at hl 2 rfl) ?_
              refine lv_isub hx hb dX5_play_87 ?_
              refine lv_iconst (v := 1) hx hb dX5_play_88 (by decide) ?_
              refine lv_iadd hx hb dX5_play_89 ?_
              refine zm_iret hx hb hr hlk hM hS ?_ ⟨Nat.le_refl _, Nat.le_refl _⟩ dX5_play_90
              rw [show y + 1 - k = 0 by omega] at hp
              rw [hs, hp]
              exact ⟨B, rfl, by rw [pk_sub hxy, nI_1]; show _ = some (Value.int (nI (0 + (k - x)))); rw [show y - x + 1 = 0 + (k - x) by omega], hR1⟩
            · rw [nI_ltI (by omega) (by omega)] at c34
              refine lv_aload_n hx hb dX5_play_37 rfl (lv_at hl 1 rfl) ?_
              refine lv_aload_n hx hb dX5_play_38 rfl (lv_at hl 1 rfl) ?_
              refine zm_get hx hb hts hown hE hM hR1.1 fl_X5_20_4 rfl dX5_play_39 ?_
              refine lv_iload_n hx hb dX5_play_42 rfl (lv_at hl 0 rfl) ?_
              have hkn : k < s_nc S1 := by omega
              obtain ⟨f3, h3, e3⟩ := hR1.2.2.2.1
              refine zm_aldC hx hb hE hM h3 (vp_in_nI (show k < 30 by omega) (by decide)) dX5_play_43 ?_
              refine zt_eq (v' := .ref (B.2.2.2 k)) (by rw [nI_clamp (by omega), e3 k hkn]; rfl) ?_
              refine zm_callV (As := [.ref (B.2.2.2 k)]) (rest := []) hx hb hml hts hown hE hA hM hS hR1.1 rfl (c_X5_perform l G A B S1 _ k hkn hI1 hR1) cd_X5_perform ml_X5_80 rfl rfl hl.1 (Nat.le_of_ble_eq_true rfl) ⟨Nat.le_of_ble_eq_true rfl, Nat.le_of_ble_eq_true rfl⟩ ⟨Nat.le_of_ble_eq_true rfl, Nat.le_of_ble_eq_true rfl⟩ dX5_play_44 ?_
              rintro r M1 H locs ⟨rfl, hR2⟩ hM hS
              refine W.eq (g2 := F0 m 47 ls [.int ((stp S1 k).1)]) rfl ?_
              refine lv_istore (lv' := [(4, .int ((stp S1 k).1)), (3, .int (nI k)), (0, .ref B.1.1), (1, .int (nI x)), (2, .int (nI y))]) hx hb dX5_play_47 hl (by decide) rfl (fun ls hl => ?_)
              refine lv_iload hx hb dX5_play_49 (lv_at hl 0 rfl) ?_
              refine lv_if_eq (tgt := 79) hx hb dX5_play_51 (by decide) (fun c51 => ?_) (fun c51 => ?_)
              · refine lv_iinc (v := nI (k + 1)) (lv' := [(3, .int (nI (k + 1))), (4, .int ((stp S1 k).1)), (0, .ref B.1.1), (1, .int (nI x)), (2, .int (nI y))]) hx hb dX5_play_79 hl (k := 1) rfl (nI_1 k) (by decide) rfl (fun ls hl => ?_)
                refine lv_goto (tgt := 32) hx hb dX5_play_82 (by decide) ?_
                exact ih (k + 1) (by omega) (by omega) (by omega) ls _ _ _ _ (stp_inv hI1 hkn).1 ((stp_inv hI1 hkn).2.1.trans hn1) (by rw [hp, show y + 1 - k = (y + 1 - (k + 1)) + 1 by omega, pls_s c51]; exact Prod.ext (by show _ + 1 + (k - x) = _ + (k + 1 - x); omega) rfl) hR2 hM hS (lv_sub hl [0, 2, 3, 4] rfl)
              · have hS1 := (stp_inv hI1 hkn).2.2.2.2.2 c51
                rw [hS1] at hR2
                refine lv_aload_n hx hb dX5_play_54 rfl (lv_at hl 2 rfl) ?_
                refine lv_iload hx hb dX5_play_55 (lv_at hl 0 rfl) ?_
                refine zm_put hx hb hts hown hE hM hS hR2.1 fp_X5_77_4 rfl rfl (Nat.le_of_ble_eq_true rfl) dX5_play_57 (fun H locs hM hS => ?_)
                have hR3 := hR2.fld (S' := w_ms S1 (stp S1 k).1 (s_at S1) (s_of S1)) rfl rfl rfl rfl (Nat.le_refl _) rfl
                refine lv_aload_n hx hb dX5_play_60 rfl (lv_at hl 2 rfl) ?_
                refine lv_iload_n hx hb dX5_play_61 rfl (lv_at hl 1 rfl) ?_
                refine zm_put hx hb hts hown hE hM hS hR3.1 fp_X5_24_4 rfl rfl (Nat.le_of_ble_eq_true rfl) dX5_play_62 (fun H locs hM hS => ?_)
                have hR4 := hR3.fld (S' := w_ms S1 (stp S1 k).1 (nI k) (s_of S1)) rfl rfl rfl rfl (Nat.le_refl _) rfl
                refine lv_aload_n hx hb dX5_play_65 rfl (lv_at hl 2 rfl) ?_
                refine lv_dup hx hb dX5_play_66 rfl ?_
                refine zm_get hx hb hts hown hE hM hR4.1 fl_X5_84_4 rfl dX5_play_67 ?_
                refine lv_iconst (v := 1) hx hb dX5_play_70 (by decide) ?_
                refine lv_iadd hx hb dX5_play_71 ?_
                refine zm_put hx hb hts hown hE hM hS hR4.1 fp_X5_84_4 rfl rfl (Nat.le_of_ble_eq_true rfl) dX5_play_72 (fun H locs hM hS => ?_)
                have hR5 := hR4.fld (S' := w_ms S1 (stp S1 k).1 (nI k) (s_of S1 + 1)) rfl rfl rfl rfl (Nat.le_refl _) rfl
                refine lv_iload_n hx hb dX5_play_75 rfl (lv_at hl 1 rfl) ?_
                refine lv_iload_n hx hb dX5_play_76 rfl (lv_at hl 3 rfl) ?_
                refine lv_isub hx hb dX5_play_77 ?_
                refine zm_iret hx hb hr hlk hM hS ?_ ⟨Nat.le_refl _, Nat.le_refl _⟩ dX5_play_78
                rw [show y + 1 - k = (y - k) + 1 by omega, pls_f c51] at hp
                rw [hs, hp]
                exact ⟨B, rfl, by rw [pk_sub hk0]; simp, hR5⟩
        exact loop (y + 2) x (Nat.le_refl _) (by omega) (by omega) ls (w_ms S 0 (-1) (s_of S)) _ _ _ (hI.ms 0 (-1) (s_of S)) rfl (by simp) hR0 hM hS (lv_sub hl [0, 1, 2, 3] rfl)
      · refine lv_bipush (v := (-2)) hx hb dX5_play_17 (by decide) ?_
        refine zm_iret hx hb hr hlk hM hS ?_ ⟨Nat.le_refl _, Nat.le_refl _⟩ dX5_play_19
        have hs : sp_play S a b = (-2, S) := play_bad hI (by first | exact Or.inl c1 | exact Or.inr (Or.inl c6) | exact Or.inr (Or.inr (by rw [Int32.not_lt] at c14; exact c14)))
        exact ⟨B, rfl, by rw [hs], by rw [hs]; exact hR⟩
set_option maxRecDepth 100000 in
set_option maxHeartbeats 4000000 in
theorem c_X3_init_1 (l : Launch) (G : zm_G) (A : Nat → Prop) (M : zm_M) (a : Nat) (n k : Int32) (h0 : M a = some (.inr (1, [.int 0, .int 0, .null]))) : Met l yX3_init (zm_W yX3_init cX3_init 3 none) (zm_rm 1 0 0) (zm_Pc G [.ref a, .int n, .int k] A M) (zm_Q G (fun r M' => r = none ∧ M' = zm_up M a (.inr (1, [.int n, .int k, .null]))) A) 0 0 A := by
  refine zm_start (by decide) (Nat.le_of_ble_eq_true rfl) ?_
  intro p e s m below meth c hx hb hml hr hts hown hlk hnm hE hA ls hl hM hS
  have hl : lv_has ls 3 [(0, .ref a), (1, .int n), (2, .int k)] := hl
  refine lv_aload_n hx hb dX3_init_0 rfl (lv_at hl 0 rfl) ?_
  refine zm_objInit hx hb hml hts hown ml_X3_1 hl.1 (by decide) (Nat.le_of_ble_eq_true rfl) dX3_init_1 ?_
  refine lv_aload_n hx hb dX3_init_4 rfl (lv_at hl 0 rfl) ?_
  refine lv_iload_n hx hb dX3_init_5 rfl (lv_at hl 1 rfl) ?_
  refine zm_putF hx hb hts hown hnm hE hM hS h0 fp_X3_7_1 rfl rfl (Nat.le_of_ble_eq_true rfl) dX3_init_6 (fun H locs hM hS => ?_)
  refine lv_aload_n hx hb dX3_init_9 rfl (lv_at hl 0 rfl) ?_
  refine lv_iload_n hx hb dX3_init_10 rfl (lv_at hl 2 rfl) ?_
  refine zm_putF hx hb hts hown hnm hE hM hS zm_up_s fp_X3_13_1 rfl rfl (Nat.le_of_ble_eq_true rfl) dX3_init_11 (fun H locs hM hS => ?_)
  rw [zm_uu] at hM
  refine zm_vret hx hb hr hlk hM hS ?_ ⟨Nat.le_refl _, Nat.le_refl _⟩ dX3_init_14
  exact ⟨rfl, rfl⟩
set_option maxRecDepth 100000 in
set_option maxHeartbeats 4000000 in
theorem c_X3_init_2 (l : Launch) (G : zm_G) (A : Nat → Prop) (M : zm_M) (a : Nat) (n k : Int32) (h0 : M a = some (.inr (2, [.int 0, .int 0, .int 0, .int 0]))) : Met l yX3_init (zm_W yX3_init cX3_init 3 none) (zm_rm 1 0 0) (zm_Pc G [.ref a, .int n, .int k] A M) (zm_Q G (fun r M' => r = none ∧ M' = zm_up M a (.inr (2, [.int n, .int k, .int 0, .int 0]))) A) 0 0 A := by
  refine zm_start (by decide) (Nat.le_of_ble_eq_true rfl) ?_
  intro p e s m below meth c hx hb hml hr hts hown hlk hnm hE hA ls hl hM hS
  have hl : lv_has ls 3 [(0, .ref a), (1, .int n), (2, .int k)] := hl
  refine lv_aload_n hx hb dX3_init_0 rfl (lv_at hl 0 rfl) ?_
  refine zm_objInit hx hb hml hts hown ml_X3_1 hl.1 (by decide) (Nat.le_of_ble_eq_true rfl) dX3_init_1 ?_
  refine lv_aload_n hx hb dX3_init_4 rfl (lv_at hl 0 rfl) ?_
  refine lv_iload_n hx hb dX3_init_5 rfl (lv_at hl 1 rfl) ?_
  refine zm_putF hx hb hts hown hnm hE hM hS h0 fp_X3_7_2 rfl rfl (Nat.le_of_ble_eq_true rfl) dX3_init_6 (fun H locs hM hS => ?_)
  refine lv_aload_n hx hb dX3_init_9 rfl (lv_at hl 0 rfl) ?_
  refine lv_iload_n hx hb dX3_init_10 rfl (lv_at hl 2 rfl) ?_
  refine zm_putF hx hb hts hown hnm hE hM hS zm_up_s fp_X3_13_2 rfl rfl (Nat.le_of_ble_eq_true rfl) dX3_init_11 (fun H locs hM hS => ?_)
  rw [zm_uu] at hM
  refine zm_vret hx hb hr hlk hM hS ?_ ⟨Nat.le_refl _, Nat.le_refl _⟩ dX3_init_14
  exact ⟨rfl, rfl⟩
set_option maxRecDepth 100000 in
set_option maxHeartbeats 4000000 in
theorem c_X3_init_3 (l : Launch) (G : zm_G) (A : Nat → Prop) (M : zm_M) (a : Nat) (n k : Int32) (h0 : M a = some (.inr (3, [.int 0, .int 0, .null]))) : Met l yX3_init (zm_W yX3_init cX3_init 3 none) (zm_rm 1 0 0) (zm_Pc G [.ref a, .int n, .int k] A M) (zm_Q G (fun r M' => r = none ∧ M' = zm_up M a (.inr (3, [.int n, .int k, .null]))) A) 0 0 A := by
  refine zm_start (by decide) (Nat.le_of_ble_eq_true rfl) ?_
  intro p e s m below meth c hx hb hml hr hts hown hlk hnm hE hA ls hl hM hS
  have hl : lv_has ls 3 [(0, .ref a), (1, .int n), (2, .int k)] := hl
  refine lv_aload_n hx hb dX3_init_0 rfl (lv_at hl 0 rfl) ?_
  refine zm_objInit hx hb hml hts hown ml_X3_1 hl.1 (by decide) (Nat.le_of_ble_eq_true rfl) dX3_init_1 ?_
  refine lv_aload_n hx hb dX3_init_4 rfl (lv_at hl 0 rfl) ?_
  refine lv_iload_n hx hb dX3_init_5 rfl (lv_at hl 1 rfl) ?_
  refine zm_putF hx hb hts hown hnm hE hM hS h0 fp_X3_7_3 rfl rfl (Nat.le_of_ble_eq_true rfl) dX3_init_6 (fun H locs hM hS => ?_)
  refine lv_aload_n hx hb dX3_init_9 rfl (lv_at hl 0 rfl) ?_
  refine lv_iload_n hx hb dX3_init_10 rfl (lv_at hl 2 rfl) ?_
  refine zm_putF hx hb hts hown hnm hE hM hS zm_up_s fp_X3_13_3 rfl rfl (Nat.le_of_ble_eq_true rfl) dX3_init_11 (fun H locs hM hS => ?_)
  rw [zm_uu] at hM
  refine zm_vret hx hb hr hlk hM hS ?_ ⟨Nat.le_refl _, Nat.le_refl _⟩ dX3_init_14
  exact ⟨rfl, rfl⟩
set_option maxRecDepth 100000 in
set_option maxHeartbeats 4000000 in
theorem c_X2_init (l : Launch) (G : zm_G) (A : Nat → Prop) (M : zm_M) (a : Nat) (n k z : Int32) (h0 : M a = some (.inr (2, [.int 0, .int 0, .int 0, .int 0]))) : Met l yX2_init (zm_W yX2_init cX2_init 4 none) (zm_rm 2 0 0) (zm_Pc G [.ref a, .int n, .int k, .int z] A M) (zm_Q G (fun r M' => r = none ∧ M' = zm_up M a (.inr (2, [.int n, .int k, .int z, .int 0]))) A) 0 0 A := by
  refine zm_start (by decide) (Nat.le_of_ble_eq_true rfl) ?_
  intro p e s m below meth c hx hb hml hr hts hown hlk hnm hE hA ls hl hM hS
  have hl : lv_has ls 4 [(0, .ref a), (1, .int n), (2, .int k), (3, .int z)] := hl
  refine lv_aload_n hx hb dX2_init_0 rfl (lv_at hl 0 rfl) ?_
  refine lv_iload_n hx hb dX2_init_1 rfl (lv_at hl 1 rfl) ?_
  refine lv_iload_n hx hb dX2_init_2 rfl (lv_at hl 2 rfl) ?_
  refine zm_callI (As := [.int n, .int k]) (rest := []) hx hb hml hts hown hE hA hM hS (c_X3_init_2 l G A _ a n k h0) cd_X3_init ml_X2_3 rfl rfl hl.1 (Nat.le_of_ble_eq_true rfl) ⟨Nat.le_of_ble_eq_true rfl, Nat.le_of_ble_eq_true rfl⟩ ⟨Nat.le_of_ble_eq_true rfl, Nat.le_of_ble_eq_true rfl⟩ dX2_init_3 ?_
  rintro r M1 H locs ⟨rfl, rfl⟩ hM hS
  refine W.eq (g2 := F0 m 6 ls []) rfl ?_
  refine lv_aload_n hx hb dX2_init_6 rfl (lv_at hl 0 rfl) ?_
  refine lv_iload_n hx hb dX2_init_7 rfl (lv_at hl 3 rfl) ?_
  refine zm_putF hx hb hts hown hnm hE hM hS zm_up_s fp_X2_9_2 rfl rfl (Nat.le_of_ble_eq_true rfl) dX2_init_8 (fun H locs hM hS => ?_)
  rw [zm_uu] at hM
  refine zm_vret hx hb hr hlk hM hS ?_ ⟨Nat.le_refl _, Nat.le_refl _⟩ dX2_init_11
  exact ⟨rfl, rfl⟩
set_option maxRecDepth 100000 in
set_option maxHeartbeats 4000000 in
theorem c_X4_init (l : Launch) (G : zm_G) (A : Nat → Prop) (M : zm_M) (a len : Nat) (n k : Int32) (hlen : len ≤ 5) (h0 : M a = some (.inr (3, [.int 0, .int 0, .null]))) : Met l yX4_init (zm_W yX4_init cX4_init 4 none) (zm_rm 2 1 5) (zm_Pc G [.ref a, .int n, .int k, .int (nI len)] A M) (zm_Q G (fun r M' => r = none ∧ ∃ q, q ≠ a ∧ M q = none ∧ M' = zm_up (zm_up M q (zm_R G len (fun _ => none))) a (.inr (3, [.int n, .int k, .ref q]))) A) 1 5 A := by
  refine zm_start (by decide) (Nat.le_of_ble_eq_true rfl) ?_
  intro p e s m below meth c hx hb hml hr hts hown hlk hnm hE hA ls hl hM hS
  have hl : lv_has ls 4 [(0, .ref a), (1, .int n), (2, .int k), (3, .int (nI len))] := hl
  refine lv_aload_n hx hb dX4_init_0 rfl (lv_at hl 0 rfl) ?_
  refine lv_iload_n hx hb dX4_init_1 rfl (lv_at hl 1 rfl) ?_
  refine lv_iload_n hx hb dX4_init_2 rfl (lv_at hl 2 rfl) ?_
  refine zm_callI (As := [.int n, .int k]) (rest := []) hx hb hml hts hown hE hA hM hS (c_X3_init_3 l G A _ a n k h0) cd_X3_init ml_X4_1 rfl rfl hl.1 (Nat.le_of_ble_eq_true rfl) ⟨Nat.le_of_ble_eq_true rfl, Nat.le_of_ble_eq_true rfl⟩ ⟨Nat.le_of_ble_eq_true rfl, Nat.le_of_ble_eq_true rfl⟩ dX4_init_3 ?_
  rintro r M1 H locs ⟨rfl, rfl⟩ hM hS
  refine W.eq (g2 := F0 m 6 ls []) rfl ?_
  refine lv_aload_n hx hb dX4_init_6 rfl (lv_at hl 0 rfl) ?_
  refine lv_iload_n hx hb dX4_init_7 rfl (lv_at hl 3 rfl) ?_
  refine zm_newq hx hb hts hown hE hA hM hS 3 rfl clk_X4_2 hE.2.2.2.1.2 (nI_pos (by omega)) (nI_clamp (by omega)) (by omega) (Nat.le_of_ble_eq_true rfl) (by show 0 + len ≤ 5; omega) dX4_init_8 (fun q H hq hM hS => ?_)
  have hqa : q ≠ a := fun z => by rw [z, zm_up_s] at hq; cases hq
  have hq0 : M q = none := by rw [← hq, zm_up_n hqa]
  refine zm_putF hx hb hts hown hnm hE hM hS (zm_up_k (Ne.symm hqa) zm_up_s) fp_X4_7_3 rfl rfl (Nat.le_of_ble_eq_true rfl) dX4_init_11 (fun H locs hM hS => ?_)
  rw [zm_sw hqa, zm_uu] at hM
  refine zm_vret hx hb hr hlk hM hS ?_ ⟨Nat.le_refl _, by show 0 + len ≤ 5; omega⟩ dX4_init_14
  exact ⟨rfl, q, hqa, hq0, rfl⟩
set_option maxRecDepth 100000 in
set_option maxHeartbeats 4000000 in
theorem c_X1_init (l : Launch) (G : zm_G) (A : Nat → Prop) (M : zm_M) (a len : Nat) (n k : Int32) (hlen : len ≤ 15) (h0 : M a = some (.inr (1, [.int 0, .int 0, .null]))) : Met l yX1_init (zm_W yX1_init cX1_init 4 none) (zm_rm 2 1 15) (zm_Pc G [.ref a, .int n, .int k, .int (nI len)] A M) (zm_Q G (fun r M' => r = none ∧ ∃ q, q ≠ a ∧ M q = none ∧ M' = zm_up (zm_up M q (zm_J G len (fun _ => 0))) a (.inr (1, [.int n, .int k, .ref q]))) A) 1 15 A := by
  refine zm_start (by decide) (Nat.le_of_ble_eq_true rfl) ?_
  intro p e s m below meth c hx hb hml hr hts hown hlk hnm hE hA ls hl hM hS
  have hl : lv_has ls 4 [(0, .ref a), (1, .int n), (2, .int k), (3, .int (nI len))] := hl
  refine lv_aload_n hx hb dX1_init_0 rfl (lv_at hl 0 rfl) ?_
  refine lv_iload_n hx hb dX1_init_1 rfl (lv_at hl 1 rfl) ?_
  refine lv_iload_n hx hb dX1_init_2 rfl (lv_at hl 2 rfl) ?_
  refine zm_callI (As := [.int n, .int k]) (rest := []) hx hb hml hts hown hE hA hM hS (c_X3_init_1 l G A _ a n k h0) cd_X3_init ml_X1_3 rfl rfl hl.1 (Nat.le_of_ble_eq_true rfl) ⟨Nat.le_of_ble_eq_true rfl, Nat.le_of_ble_eq_true rfl⟩ ⟨Nat.le_of_ble_eq_true rfl, Nat.le_of_ble_eq_true rfl⟩ dX1_init_3 ?_
  rintro r M1 H locs ⟨rfl, rfl⟩ hM hS
  refine W.eq (g2 := F0 m 6 ls []) rfl ?_
  refine lv_aload_n hx hb dX1_init_6 rfl (lv_at hl 0 rfl) ?_
  refine lv_iload_n hx hb dX1_init_7 rfl (lv_at hl 3 rfl) ?_
  refine zm_newJ hx hb hts hE hA hM hS aw_long (nI_pos (by omega)) (nI_clamp (by omega)) (by show len * 8 ≤ _; omega) (Nat.le_of_ble_eq_true rfl) (by show 0 + len ≤ 15; omega) dX1_init_8 (fun q H hq hM hS => ?_)
  have hqa : q ≠ a := fun z => by rw [z, zm_up_s] at hq; cases hq
  have hq0 : M q = none := by rw [← hq, zm_up_n hqa]
  refine zm_putF hx hb hts hown hnm hE hM hS (zm_up_k (Ne.symm hqa) zm_up_s) fp_X1_9_1 rfl rfl (Nat.le_of_ble_eq_true rfl) dX1_init_10 (fun H locs hM hS => ?_)
  rw [zm_sw hqa, zm_uu] at hM
  refine zm_vret hx hb hr hlk hM hS ?_ ⟨Nat.le_refl _, by show 0 + len ≤ 15; omega⟩ dX1_init_13
  exact ⟨rfl, q, hqa, hq0, rfl⟩
set_option maxRecDepth 100000 in
set_option maxHeartbeats 4000000 in
theorem c_X0_init (l : Launch) (G : zm_G) (A : Nat → Prop) (M : zm_M) (a : Nat) (x1 x2 x3 x4 : Int32) (h0 : M a = some (.inr (0, [.int 0, .int 0, .int 0, .int 0]))) : Met l yX0_init (zm_W yX0_init cX0_init 5 none) (zm_rm 1 0 0) (zm_Pc G [.ref a, .int x1, .int x2, .int x3, .int x4] A M) (zm_Q G (fun r M' => r = none ∧ M' = zm_up M a (.inr (0, [.int x1, .int x2, .int x3, .int x4]))) A) 0 0 A := by
  refine zm_start (by decide) (Nat.le_of_ble_eq_true rfl) ?_
  intro p e s m below meth c hx hb hml hr hts hown hlk hnm hE hA ls hl hM hS
  have hl : lv_has ls 5 [(0, .ref a), (1, .int x1), (2, .int x2), (3, .int x3), (4, .int x4)] := hl
  refine lv_aload_n hx hb dX0_init_0 rfl (lv_at hl 0 rfl) ?_
  refine zm_objInit hx hb hml hts hown ml_X0_1 hl.1 (by decide) (Nat.le_of_ble_eq_true rfl) dX0_init_1 ?_
  refine lv_aload_n hx hb dX0_init_4 rfl (lv_at hl 0 rfl) ?_
  refine lv_iload_n hx hb dX0_init_5 rfl (lv_at hl 1 rfl) ?_
  refine zm_putF hx hb hts hown hnm hE hM hS h0 fp_X0_7_0 rfl rfl (Nat.le_of_ble_eq_true rfl) dX0_init_6 (fun H locs hM hS => ?_)
  refine lv_aload_n hx hb dX0_init_9 rfl (lv_at hl 0 rfl) ?_
  refine lv_iload_n hx hb dX0_init_10 rfl (lv_at hl 2 rfl) ?_
  refine zm_putF hx hb hts hown hnm hE hM hS zm_up_s fp_X0_13_0 rfl rfl (Nat.le_of_ble_eq_true rfl) dX0_init_11 (fun H locs hM hS => ?_)
  rw [zm_uu] at hM
  refine lv_aload_n hx hb dX0_init_14 rfl (lv_at hl 0 rfl) ?_
  refine lv_iload_n hx hb dX0_init_15 rfl (lv_at hl 3 rfl) ?_
  refine zm_putF hx hb hts hown hnm hE hM hS zm_up_s fp_X0_16_0 rfl rfl (Nat.le_of_ble_eq_true rfl) dX0_init_16 (fun H locs hM hS => ?_)
  rw [zm_uu] at hM
  refine lv_aload_n hx hb dX0_init_19 rfl (lv_at hl 0 rfl) ?_
  refine lv_iload hx hb dX0_init_20 (lv_at hl 4 rfl) ?_
  refine zm_putF hx hb hts hown hnm hE hM hS zm_up_s fp_X0_19_0 rfl rfl (Nat.le_of_ble_eq_true rfl) dX0_init_22 (fun H locs hM hS => ?_)
  rw [zm_uu] at hM
  refine zm_vret hx hb hr hlk hM hS ?_ ⟨Nat.le_refl _, Nat.le_refl _⟩ dX0_init_25
  exact ⟨rfl, rfl⟩
