theorem abs_add {S : zS} {f : Nat → Nat → Int32} {g g2 : Nat → Int64} {u : Nat → Int32} {kk nn : Nat} (h : zAbs S f g) (hg1 : ∀ m, m < 15 * s_np S → g2 m = g m) (hg2 : ∀ i, i < 15 → g2 (15 * s_np S + i) = 0) (hu1 : ∀ m, m < 5 * s_np S → u m = f 5 m) (hu2 : ∀ i, i < 5 → u (5 * s_np S + i) = -1) : zAbs (addS S kk nn) (va_up (va_up (va_up (va_up f 1 (upd (f 1) (s_np S) (nI kk))) 2 (upd (f 2) (s_np S) (nI nn))) 3 (upd (f 3) (s_np S) 0)) 5 u) g2 := by
  obtain ⟨h1, h2, h3, h4, h5⟩ := h
  refine ⟨fun j hj => ?_, fun j i hj hi => ?_, fun j i hj hi => ?_, h4, h5⟩
  · have hj : j < s_np S + 1 := hj
    show upd (f 1) (s_np S) (nI kk) j = nI (va_up (s_kd S) (s_np S) kk j) ∧ upd (f 2) (s_np S) (nI nn) j = nI (va_up (s_sz S) (s_np S) nn j) ∧ upd (f 3) (s_np S) 0 j = upd (s_wr S) (s_np S) 0 j
    by_cases e : j = s_np S
    · subst e; rw [pk_us, pk_us, pk_us, pk_us, va_up_self, va_up_self]; exact ⟨rfl, rfl, rfl⟩
    · rw [pk_un e, pk_un e, pk_un e, pk_un e, va_up_ne _ _ e, va_up_ne _ _ e]; exact h1 j (by omega)
  · have hj : j < s_np S + 1 := hj
    show g2 (15 * j + i) = va_up (s_nu S) (s_np S) (fun _ => 0) j i
    by_cases e : j = s_np S
    · subst e; rw [va_up_self]; exact hg2 i hi
    · rw [va_up_ne _ _ e, hg1 _ (by omega)]; exact h2 j i (by omega) hi
  · have hj : j < s_np S + 1 := hj
    show u (5 * j + i) = oI (va_up (s_th S) (s_np S) (fun _ => none) j i)
    by_cases e : j = s_np S
    · subst e; rw [va_up_self]; exact hu2 i hi
    · rw [va_up_ne _ _ e, hu1 _ (by omega)]; exact h3 j i (by omega) hi
theorem zbt_100 {x : Int32} : zbt 0 100 x = (ix 101 x).isSome := zbt_c (by decide) (by decide)
theorem num_ext {g2 : Nat → Int64} {b k : Nat} (h : ∀ i, i < k → g2 (b + i) = 0) : ∀ i, i < k + 1 → vp_updL g2 (b + k) 0 (b + i) = 0 := by
  intro i hi
  by_cases e : i = k
  · rw [e, pk_uLs]
  · rw [pk_uLn (by omega)]; exact h i (by omega)
theorem thi_ext {u : Nat → Int32} {b k : Nat} (h : ∀ i, i < k → u (b + i) = -1) : ∀ i, i < k + 1 → upd u (b + k) (-1) (b + i) = -1 := by
  intro i hi
  by_cases e : i = k
  · rw [e, pk_us]
  · rw [pk_un (by omega)]; exact h i (by omega)
theorem va_uu2 {α : Type} (f : Nat → α) (k : Nat) (v w : α) : va_up (va_up f k v) k w = va_up f k w := bx_uu f k v w
theorem va_id5 {f : Nat → Nat → Int32} {a b c : Nat → Int32} : va_up (va_up (va_up (va_up f 1 a) 2 b) 3 c) 5 (f 5) = va_up (va_up (va_up f 1 a) 2 b) 3 c := by
  funext z
  by_cases h : z = 5
  · subst h; rw [va_up_self]; rfl
  · rw [va_up_ne _ _ h]
set_option maxRecDepth 100000 in
set_option maxHeartbeats 4000000 in
theorem c_X6_prop (l : Launch) (G : zm_G) (A : Nat → Prop) (q : Nat → Nat) (S : zS) (M : zm_M) (k n : Int32) (hI : zInv S) (hR : RepR G q S M) : Met l yX6_prop (zm_W yX6_prop cX6_prop 4 (some .int)) (zm_rm 2 0 0) (zm_Pc G [.ref (q 0), .int k, .int n] A M) (zm_Q G (fun r M' => r = some (.int (sp_prop S k n).1) ∧ RepR G q (sp_prop S k n).2 M') A) 0 0 A := by
  refine zm_start (by decide) (Nat.le_of_ble_eq_true rfl) ?_
  intro p e s m below meth c hx hb hml hr hts hown hlk hnm hE hA ls hl hM hS
  have hl : lv_has ls 4 [(0, .ref (q 0)), (1, .int k), (2, .int n)] := hl
  obtain ⟨f, g, hZ, hAb⟩ := hR
  have hnp := hI.1
  have hncc := hI.2.1
  refine lv_iload_n hx hb dX6_prop_0 rfl (lv_at hl 1 rfl) ?_
  refine lv_iconst (v := 0) hx hb dX6_prop_1 (by decide) ?_
  refine lv_bipush (v := 15) hx hb dX6_prop_2 (by decide) ?_
  refine zm_callS (As := [.int k, .int 0, .int 15]) (rest := []) hx hb hml hts hown hE hA hM hS (c_X6_isIn l G A _ k 0 15) cd_X6_isIn ml_X6_51 rfl rfl hl.1 (Nat.le_of_ble_eq_true rfl) ⟨Nat.le_of_ble_eq_true rfl, Nat.le_of_ble_eq_true rfl⟩ ⟨Nat.le_of_ble_eq_true rfl, Nat.le_of_ble_eq_true rfl⟩ dX6_prop_4 ?_
  rintro r M1 H locs ⟨rfl, e1⟩ hM hS
  rw [e1] at hM
  clear e1 M1
  refine W.eq (g2 := F0 m 7 ls [.int (bI (zbt 0 15 k))]) rfl ?_
  refine lv_if_eq (tgt := 31) hx hb dX6_prop_7 (by decide) (fun c7 => ?_) (fun c7 => ?_)
  · rw [zbt_k, bI_0] at c7
    have hik := isS_f c7
    refine lv_bipush (v := (-2)) hx hb dX6_prop_31 (by decide) ?_
    refine zm_iret hx hb hr hlk hM hS ?_ ⟨Nat.le_refl _, Nat.le_refl _⟩ dX6_prop_33
    have hs : sp_prop S k n = (-2, S) := by first | exact prop_bad1 hik | exact prop_bad2 hik hin
    exact ⟨by rw [hs], by rw [hs]; exact ⟨f, g, hZ, hAb⟩⟩
  · rw [zbt_k, bI_n] at c7
    obtain ⟨kk, hik⟩ := isS_t c7
    obtain ⟨hkk16, rfl⟩ := ix_some (by decide) hik
    refine lv_iload_n hx hb dX6_prop_10 rfl (lv_at hl 2 rfl) ?_
    refine lv_iconst (v := 0) hx hb dX6_prop_11 (by decide) ?_
    refine lv_iload_n hx hb dX6_prop_12 rfl (lv_at hl 1 rfl) ?_
    refine zm_callS (As := [.int (nI kk)]) (rest := [.int 0, .int n]) hx hb hml hts hown hE hA hM hS (c_X6_isSingle l G A _ (nI kk)) cd_X6_isSingle ml_X6_59 rfl rfl hl.1 (Nat.le_of_ble_eq_true rfl) ⟨Nat.le_of_ble_eq_true rfl, Nat.le_of_ble_eq_true rfl⟩ ⟨Nat.le_of_ble_eq_true rfl, Nat.le_of_ble_eq_true rfl⟩ dX6_prop_13 ?_
    rintro r M1 H locs ⟨rfl, e1⟩ hM hS
    rw [e1] at hM
    clear e1 M1
    refine W.eq (g2 := F0 m 16 ls [.int (bI (zbt 4 7 (nI kk))), .int 0, .int n]) rfl ?_
    refine lv_if_eq (tgt := 24) hx hb dX6_prop_16 (by decide) (fun c16 => ?_) (fun c16 => ?_)
    · rw [zbt_pc _ hkk16, bI_0] at c16
      have hmx : (6 : Nat) = if isPc kk = true then 101 else 6 := by rw [if_neg (by rw [c16]; decide)]
      refine lv_iconst (v := 5) hx hb dX6_prop_24 (by decide) ?_
      refine zm_callS (As := [.int n, .int 0, .int 5]) (rest := []) hx hb hml hts hown hE hA hM hS (c_X6_isIn l G A _ n 0 5) cd_X6_isIn ml_X6_51 rfl rfl hl.1 (Nat.le_of_ble_eq_true rfl) ⟨Nat.le_of_ble_eq_true rfl, Nat.le_of_ble_eq_true rfl⟩ ⟨Nat.le_of_ble_eq_true rfl, Nat.le_of_ble_eq_true rfl⟩ dX6_prop_25 ?_
      rintro r M1 H locs ⟨rfl, e1⟩ hM hS
      rw [e1] at hM
      clear e1 M1
      refine W.eq (g2 := F0 m 28 ls [.int (bI (zbt 0 5 n))]) rfl ?_
      refine lv_if_ne (tgt := 34) hx hb dX6_prop_28 (by decide) (fun c28 => ?_) (fun c28 => ?_)
      · rw [zbt_a, bI_n] at c28
        rw [hmx] at c28
        obtain ⟨nn, hin⟩ := isS_t c28
        obtain ⟨hnn, rfl⟩ := ix_some (by split <;> decide) hin
        refine lv_aload_n hx hb dX6_prop_34 rfl (lv_at hl 0 rfl) ?_
        refine zm_get hx hb hts hown hE hM hZ.2.1 fl_X6_48_5 rfl dX6_prop_35 ?_
        refine lv_bipush (v := 50) hx hb dX6_prop_38 (by decide) ?_
        refine lv_icmp_ne (tgt := 46) hx hb dX6_prop_40 (by decide) (fun c40 => ?_) (fun c40 => ?_)
        · have hnp5 : ¬ s_np S = 50 := fun e => c40 (by rw [e]; rfl)
          refine lv_aload_n hx hb dX6_prop_46 rfl (lv_at hl 0 rfl) ?_
          refine zm_get hx hb hts hown hE hM hZ.2.1 fl_X6_7_5 rfl dX6_prop_47 ?_
          refine lv_aload_n hx hb dX6_prop_50 rfl (lv_at hl 0 rfl) ?_
          refine zm_get hx hb hts hown hE hM hZ.2.1 fl_X6_48_5 rfl dX6_prop_51 ?_
          refine lv_iload_n hx hb dX6_prop_54 rfl (lv_at hl 1 rfl) ?_
          refine zm_iast hx hb hE hM hS (hZ.ar 1) (vp_in_nI (show s_np S < 50 by omega) (by decide)) dX6_prop_55 (fun H locs hM hS => ?_)
          rw [nI_clamp (by omega)] at hM
          have hZ1 := hZ.arr 1 (upd (f 1) (s_np S) (nI kk))
          refine lv_aload_n hx hb dX6_prop_56 rfl (lv_at hl 0 rfl) ?_
          refine zm_get hx hb hts hown hE hM hZ1.2.1 fl_X6_13_5 rfl dX6_prop_57 ?_
          refine lv_aload_n hx hb dX6_prop_60 rfl (lv_at hl 0 rfl) ?_
          refine zm_get hx hb hts hown hE hM hZ1.2.1 fl_X6_48_5 rfl dX6_prop_61 ?_
          refine lv_iload_n hx hb dX6_prop_64 rfl (lv_at hl 2 rfl) ?_
          refine zm_iast hx hb hE hM hS (hZ1.ar 2) (vp_in_nI (show s_np S < 50 by omega) (by decide)) dX6_prop_65 (fun H locs hM hS => ?_)
          rw [nI_clamp (by omega)] at hM
          have hZ2 := hZ1.arr 2 (upd (f 2) (s_np S) (nI nn))
          refine lv_aload_n hx hb dX6_prop_66 rfl (lv_at hl 0 rfl) ?_
          refine zm_get hx hb hts hown hE hM hZ2.2.1 fl_X6_16_5 rfl dX6_prop_67 ?_
          refine lv_aload_n hx hb dX6_prop_70 rfl (lv_at hl 0 rfl) ?_
          refine zm_get hx hb hts hown hE hM hZ2.2.1 fl_X6_48_5 rfl dX6_prop_71 ?_
          refine lv_iconst (v := 0) hx hb dX6_prop_74 (by decide) ?_
          refine zm_iast hx hb hE hM hS (hZ2.ar 3) (vp_in_nI (show s_np S < 50 by omega) (by decide)) dX6_prop_75 (fun H locs hM hS => ?_)
          rw [nI_clamp (by omega)] at hM
          have hZ3 := hZ2.arr 3 (upd (f 3) (s_np S) 0)
          refine lv_iconst (v := 0) hx hb dX6_prop_76 (by decide) ?_
          refine lv_istore_n (lv' := [(3, .int 0), (0, .ref (q 0)), (1, .int (nI kk)), (2, .int (nI nn))]) hx hb dX6_prop_77 rfl hl (by decide) rfl (fun ls hl => ?_)
          have loop : ∀ (n k : Nat), k ≤ 15 → 16 ≤ k + n → ∀ (ls : Array Slot) (g2 : Nat → Int64) (M : zm_M) (H : Heap) (locs : List Loc), zRA G q (objR q S) (va_up (va_up (va_up f 1 (upd (f 1) (s_np S) (nI kk))) 2 (upd (f 2) (s_np S) (nI nn))) 3 (upd (f 3) (s_np S) 0)) g2 M → (∀ m, m < 15 * s_np S → g2 m = g m) → (∀ i, i < k → g2 (15 * s_np S + i) = 0) → zm_P G A M H → va_S A s.heap H locs → lv_has ls 4 [(3, .int (nI k)), (0, .ref (q 0)), (1, .int (nI kk)), (2, .int (nI nn))] → W p l e (zm_rm 2 0 0) s m [.ref (q 0), .int (nI kk), .int (nI nn)].toArray below meth c H locs 0 0 (MQ below (zm_Q G (fun r M' => r = some (.int (sp_prop S (nI kk) (nI nn)).1) ∧ RepR G q (sp_prop S (nI kk) (nI nn)).2 M') A) [.ref (q 0), .int (nI kk), .int (nI nn)].toArray s 0 0 A) (F0 m 78 ls []) := by
            intro n
            induction n with
            | zero => intro k h1 h2; exact absurd h2 (by omega)
            | succ n ih =>
              intro k hk1 hk2 ls g2 M H locs hZ1 hg1 hg2 hM hS hl
              refine lv_iload_n hx hb dX6_prop_78 rfl (lv_at hl 0 rfl) ?_
              refine lv_bipush (v := 15) hx hb dX6_prop_79 (by decide) ?_
              refine lv_icmp_ge (tgt := 105) hx hb dX6_prop_81 (by decide) (fun c81 => ?_) (fun c81 => ?_)
              · obtain rfl : k = 15 := by rw [show (15 : Int32) = nI 15 from rfl, nI_leI (by omega) (by omega)] at c81; omega
                refine lv_iconst (v := 0) hx hb dX6_prop_105 (by decide) ?_
                refine lv_istore_n (lv' := [(3, .int 0), (0, .ref (q 0)), (1, .int (nI kk)), (2, .int (nI nn))]) hx hb dX6_prop_106 rfl hl (by decide) rfl (fun ls hl => ?_)
                have loop : ∀ (n k : Nat), k ≤ 5 → 6 ≤ k + n → ∀ (ls : Array Slot) (u : Nat → Int32) (M : zm_M) (H : Heap) (locs : List Loc), zRA G q (objR q S) (va_up (va_up (va_up (va_up f 1 (upd (f 1) (s_np S) (nI kk))) 2 (upd (f 2) (s_np S) (nI nn))) 3 (upd (f 3) (s_np S) 0)) 5 u) g2 M → (∀ m, m < 5 * s_np S → u m = f 5 m) → (∀ i, i < k → u (5 * s_np S + i) = -1) → zm_P G A M H → va_S A s.heap H locs → lv_has ls 4 [(3, .int (nI k)), (0, .ref (q 0)), (1, .int (nI kk)), (2, .int (nI nn))] → W p l e (zm_rm 2 0 0) s m [.ref (q 0), .int (nI kk), .int (nI nn)].toArray below meth c H locs 0 0 (MQ below (zm_Q G (fun r M' => r = some (.int (sp_prop S (nI kk) (nI nn)).1) ∧ RepR G q (sp_prop S (nI kk) (nI nn)).2 M') A) [.ref (q 0), .int (nI kk), .int (nI nn)].toArray s 0 0 A) (F0 m 107 ls []) := by
                  intro n
                  induction n with
                  | zero => intro k h1 h2; exact absurd h2 (by omega)
                  | succ n ih =>
                    intro k hk3 hk4 ls u M H locs hZ4 hu1 hu2 hM hS hl
                    refine lv_iload_n hx hb dX6_prop_107 rfl (lv_at hl 0 rfl) ?_
                    refine lv_iconst (v := 5) hx hb dX6_prop_108 (by decide) ?_
                    refine lv_icmp_ge (tgt := 132) hx hb dX6_prop_109 (by decide) (fun c109 => ?_) (fun c109 => ?_)
                    · obtain rfl : k = 5 := by rw [show (5 : Int32) = nI 5 from rfl, nI_leI (by omega) (by omega)] at c109; omega
                      refine lv_aload_n hx hb dX6_prop_132 rfl (lv_at hl 1 rfl) ?_
                      refine lv_dup hx hb dX6_prop_133 rfl ?_
                      refine zm_get hx hb hts hown hE hM hZ4.2.1 fl_X6_48_5 rfl dX6_prop_134 ?_
                      refine lv_iconst (v := 1) hx hb dX6_prop_137 (by decide) ?_
                      refine lv_iadd hx hb dX6_prop_138 ?_
                      refine zm_put hx hb hts hown hE hM hS hZ4.2.1 fp_X6_48_5 rfl rfl (Nat.le_of_ble_eq_true rfl) dX6_prop_139 (fun H locs hM hS => ?_)
                      rw [show (objR q S).set 0 (.int (nI (s_np S) + 1)) = objR q (addS S kk nn) by rw [nI_1]; rfl] at hM
                      have hZ5 := hZ4.fld (objR q (addS S kk nn))
                      refine lv_aload_n hx hb dX6_prop_142 rfl (lv_at hl 1 rfl) ?_
                      refine zm_get hx hb hts hown hE hM hZ5.2.1 fl_X6_48_5 rfl dX6_prop_143 ?_
                      refine lv_iconst (v := 1) hx hb dX6_prop_146 (by decide) ?_
                      refine lv_isub hx hb dX6_prop_147 ?_
                      refine zm_iret hx hb hr hlk hM hS ?_ ⟨Nat.le_refl _, Nat.le_refl _⟩ dX6_prop_148
                      rw [prop_ok hik hin hnp5]
                      exact ⟨by rw [nI_pred], _, _, hZ5, abs_add hAb hg1 hg2 hu1 hu2⟩
                    · have hkk : k < 5 := by rw [show (5 : Int32) = nI 5 from rfl, nI_leI (by omega) (by omega)] at c109; omega
                      refine lv_aload_n hx hb dX6_prop_112 rfl (lv_at hl 1 rfl) ?_
                      refine zm_get hx hb hts hown hE hM hZ4.2.1 fl_X6_23_5 rfl dX6_prop_113 ?_
                      refine lv_iconst (v := 5) hx hb dX6_prop_116 (by decide) ?_
                      refine lv_aload_n hx hb dX6_prop_117 rfl (lv_at hl 1 rfl) ?_
                      refine zm_get hx hb hts hown hE hM hZ4.2.1 fl_X6_48_5 rfl dX6_prop_118 ?_
                      refine lv_imul hx hb dX6_prop_121 ?_
                      refine lv_iload_n hx hb dX6_prop_122 rfl (lv_at hl 0 rfl) ?_
                      refine lv_iadd hx hb dX6_prop_123 ?_
                      refine lv_iconst (v := (-1)) hx hb dX6_prop_124 (by decide) ?_
                      refine W.eq (g2 := F0 m 125 ls (.int (-1) :: .int (nI (5 * s_np S + k)) :: .ref (q 5) :: [])) (by rw [idx5]) ?_
                      refine zm_iast hx hb hE hM hS (hZ4.ar 5) (vp_in_nI (show 5 * s_np S + k < 250 by omega) (by decide)) dX6_prop_125 (fun H locs hM hS => ?_)
                      rw [nI_clamp (by omega)] at hM
                      have hZ2 := hZ4.arr 5 (upd u (5 * s_np S + k) (-1))
                      rw [va_uu2] at hZ2
                      have hu1n : ∀ m, m < 5 * s_np S → upd u (5 * s_np S + k) (-1) m = f 5 m := fun m hm => by rw [pk_un (by omega)]; exact hu1 m hm
                      have hu2n : ∀ i, i < k + 1 → upd u (5 * s_np S + k) (-1) (5 * s_np S + i) = -1 := thi_ext hu2
                      refine lv_iinc (v := nI (k + 1)) (lv' := [(3, .int (nI (k + 1))), (0, .ref (q 0)), (1, .int (nI kk)), (2, .int (nI nn))]) hx hb dX6_prop_126 hl (k := 0) rfl (nI_1 k) (by decide) rfl (fun ls hl => ?_)
                      refine lv_goto (tgt := 107) hx hb dX6_prop_129 (by decide) ?_
                      exact ih (k + 1) (by omega) (by omega) ls _ _ _ _ hZ2 hu1n hu2n hM hS (lv_sub hl [0, 1, 2, 3] rfl)
                exact loop 6 0 (by omega) (by omega) ls (f 5) _ _ _ (by rw [va_id5]; exact hZ1) (fun _ _ => rfl) (fun i hi => absurd hi (Nat.not_lt_zero _)) hM hS (lv_sub hl [0, 1, 2, 3] rfl)
              · have hkk : k < 15 := by rw [show (15 : Int32) = nI 15 from rfl, nI_leI (by omega) (by omega)] at c81; omega
                refine lv_aload_n hx hb dX6_prop_84 rfl (lv_at hl 1 rfl) ?_
                refine zm_get hx hb hts hown hE hM hZ1.2.1 fl_X6_19_5 rfl dX6_prop_85 ?_
                refine lv_bipush (v := 15) hx hb dX6_prop_88 (by decide) ?_
                refine lv_aload_n hx hb dX6_prop_90 rfl (lv_at hl 1 rfl) ?_
                refine zm_get hx hb hts hown hE hM hZ1.2.1 fl_X6_48_5 rfl dX6_prop_91 ?_
                refine lv_imul hx hb dX6_prop_94 ?_
                refine lv_iload_n hx hb dX6_prop_95 rfl (lv_at hl 0 rfl) ?_
                refine lv_iadd hx hb dX6_prop_96 ?_
                refine lv_lconst (v := 0) hx hb dX6_prop_97 (by decide) ?_
                refine W.eq (g2 := F0 m 98 ls (.long 0 :: .int (nI (15 * s_np S + k)) :: .ref (q 4) :: [])) (by rw [idx15]) ?_
                refine zm_last hx hb hE hM hS hZ1.2.2.2 (vp_in_nI (show 15 * s_np S + k < 750 by omega) (by decide)) dX6_prop_98 (fun H locs hM hS => ?_)
                rw [nI_clamp (by omega)] at hM
                have hZ2 := hZ1.num (vp_updL g2 (15 * s_np S + k) 0)
                have hg1n : ∀ m, m < 15 * s_np S → vp_updL g2 (15 * s_np S + k) 0 m = g m := fun m hm => by rw [pk_uLn (by omega)]; exact hg1 m hm
                have hg2n : ∀ i, i < k + 1 → vp_updL g2 (15 * s_np S + k) 0 (15 * s_np S + i) = 0 := num_ext hg2
                refine lv_iinc (v := nI (k + 1)) (lv' := [(3, .int (nI (k + 1))), (0, .ref (q 0)), (1, .int (nI kk)), (2, .int (nI nn))]) hx hb dX6_prop_99 hl (k := 0) rfl (nI_1 k) (by decide) rfl (fun ls hl => ?_)
                refine lv_goto (tgt := 78) hx hb dX6_prop_102 (by decide) ?_
                exact ih (k + 1) (by omega) (by omega) ls _ _ _ _ hZ2 hg1n hg2n hM hS (lv_sub hl [0, 1, 2, 3] rfl)
          exact loop 16 0 (by omega) (by omega) ls _ _ _ _ hZ3 (fun _ _ => rfl) (fun i hi => absurd hi (Nat.not_lt_zero _)) hM hS (lv_sub hl [0, 1, 2, 3] rfl)
        · refine lv_bipush (v := (-3)) hx hb dX6_prop_43 (by decide) ?_
          refine zm_iret hx hb hr hlk hM hS ?_ ⟨Nat.le_refl _, Nat.le_refl _⟩ dX6_prop_45
          have h3 : s_np S = 50 := (nI_eq (b := 50) (by omega) (by omega)).mp c40
          exact ⟨by rw [prop_full hik hin h3], by rw [prop_full hik hin h3]; exact ⟨f, g, hZ, hAb⟩⟩
      · rw [zbt_a, bI_0] at c28
        rw [hmx] at c28
        have hin := isS_f c28
        refine lv_bipush (v := (-2)) hx hb dX6_prop_31 (by decide) ?_
        refine zm_iret hx hb hr hlk hM hS ?_ ⟨Nat.le_refl _, Nat.le_refl _⟩ dX6_prop_33
        have hs : sp_prop S (nI kk) n = (-2, S) := by first | exact prop_bad1 hik | exact prop_bad2 hik hin
        exact ⟨by rw [hs], by rw [hs]; exact ⟨f, g, hZ, hAb⟩⟩
    · rw [zbt_pc _ hkk16, bI_n] at c16
      have hmx : (101 : Nat) = if isPc kk = true then 101 else 6 := by rw [if_pos c16]
      refine lv_bipush (v := 100) hx hb dX6_prop_19 (by decide) ?_
      refine lv_goto (tgt := 25) hx hb dX6_prop_21 (by decide) ?_
      refine zm_callS (As := [.int n, .int 0, .int 100]) (rest := []) hx hb hml hts hown hE hA hM hS (c_X6_isIn l G A _ n 0 100) cd_X6_isIn ml_X6_51 rfl rfl hl.1 (Nat.le_of_ble_eq_true rfl) ⟨Nat.le_of_ble_eq_true rfl, Nat.le_of_ble_eq_true rfl⟩ ⟨Nat.le_of_ble_eq_true rfl, Nat.le_of_ble_eq_true rfl⟩ dX6_prop_25 ?_
      rintro r M1 H locs ⟨rfl, e1⟩ hM hS
      rw [e1] at hM
      clear e1 M1
      refine W.eq (g2 := F0 m 28 ls [.int (bI (zbt 0 100 n))]) rfl ?_
      refine lv_if_ne (tgt := 34) hx hb dX6_prop_28 (by decide) (fun c28 => ?_) (fun c28 => ?_)
      · rw [zbt_100, bI_n] at c28
        rw [hmx] at c28
        obtain ⟨nn, hin⟩ := isS_t c28
        obtain ⟨hnn, rfl⟩ := ix_some (by split <;> decide) hin
        refine lv_aload_n hx hb dX6_prop_34 rfl (lv_at hl 0 rfl) ?_
        refine zm_get hx hb hts hown hE hM hZ.2.1 fl_X6_48_5 rfl dX6_prop_35 ?_
        refine lv_bipush (v := 50) hx hb dX6_prop_38 (by decide) ?_
        refine lv_icmp_ne (tgt := 46) hx hb dX6_prop_40 (by decide) (fun c40 => ?_) (fun c40 => ?_)
        · have hnp5 : ¬ s_np S = 50 := fun e => c40 (by rw [e]; rfl)
          refine lv_aload_n hx hb dX6_prop_46 rfl (lv_at hl 0 rfl) ?_
          refine zm_get hx hb hts hown hE hM hZ.2.1 fl_X6_7_5 rfl dX6_prop_47 ?_
          refine lv_aload_n hx hb dX6_prop_50 rfl (lv_at hl 0 rfl) ?_
          refine zm_get hx hb hts hown hE hM hZ.2.1 fl_X6_48_5 rfl dX6_prop_51 ?_
          refine lv_iload_n hx hb dX6_prop_54 rfl (lv_at hl 1 rfl) ?_
          refine zm_iast hx hb hE hM hS (hZ.ar 1) (vp_in_nI (show s_np S < 50 by omega) (by decide)) dX6_prop_55 (fun H locs hM hS => ?_)
          rw [nI_clamp (by omega)] at hM
          have hZ1 := hZ.arr 1 (upd (f 1) (s_np S) (nI kk))
          refine lv_aload_n hx hb dX6_prop_56 rfl (lv_at hl 0 rfl) ?_
          refine zm_get hx hb hts hown hE hM hZ1.2.1 fl_X6_13_5 rfl dX6_prop_57 ?_
          refine lv_aload_n hx hb dX6_prop_60 rfl (lv_at hl 0 rfl) ?_
          refine zm_get hx hb hts hown hE hM hZ1.2.1 fl_X6_48_5 rfl dX6_prop_61 ?_
          refine lv_iload_n hx hb dX6_prop_64 rfl (lv_at hl 2 rfl) ?_
          refine zm_iast hx hb hE hM hS (hZ1.ar 2) (vp_in_nI (show s_np S < 50 by omega) (by decide)) dX6_prop_65 (fun H locs hM hS => ?_)
          rw [nI_clamp (by omega)] at hM
          have hZ2 := hZ1.arr 2 (upd (f 2) (s_np S) (nI nn))
          refine lv_aload_n hx hb dX6_prop_66 rfl (lv_at hl 0 rfl) ?_
          refine zm_get hx hb hts hown hE hM hZ2.2.1 fl_X6_16_5 rfl dX6_prop_67 ?_
          refine lv_aload_n hx hb dX6_prop_70 rfl (lv_at hl 0 rfl) ?_
          refine zm_get hx hb hts hown hE hM hZ2.2.1 fl_X6_48_5 rfl dX6_prop_71 ?_
          refine lv_iconst (v := 0) hx hb dX6_prop_74 (by decide) ?_
          refine zm_iast hx hb hE hM hS (hZ2.ar 3) (vp_in_nI (show s_np S < 50 by omega) (by decide)) dX6_prop_75 (fun H locs hM hS => ?_)
          rw [nI_clamp (by omega)] at hM
          have hZ3 := hZ2.arr 3 (upd (f 3) (s_np S) 0)
          refine lv_iconst (v := 0) hx hb dX6_prop_76 (by decide) ?_
          refine lv_istore_n (lv' := [(3, .int 0), (0, .ref (q 0)), (1, .int (nI kk)), (2, .int (nI nn))]) hx hb dX6_prop_77 rfl hl (by decide) rfl (fun ls hl => ?_)
          have loop : ∀ (n k : Nat), k ≤ 15 → 16 ≤ k + n → ∀ (ls : Array Slot) (g2 : Nat → Int64) (M : zm_M) (H : Heap) (locs : List Loc), zRA G q (objR q S) (va_up (va_up (va_up f 1 (upd (f 1) (s_np S) (nI kk))) 2 (upd (f 2) (s_np S) (nI nn))) 3 (upd (f 3) (s_np S) 0)) g2 M → (∀ m, m < 15 * s_np S → g2 m = g m) → (∀ i, i < k → g2 (15 * s_np S + i) = 0) → zm_P G A M H → va_S A s.heap H locs → lv_has ls 4 [(3, .int (nI k)), (0, .ref (q 0)), (1, .int (nI kk)), (2, .int (nI nn))] → W p l e (zm_rm 2 0 0) s m [.ref (q 0), .int (nI kk), .int (nI nn)].toArray below meth c H locs 0 0 (MQ below (zm_Q G (fun r M' => r = some (.int (sp_prop S (nI kk) (nI nn)).1) ∧ RepR G q (sp_prop S (nI kk) (nI nn)).2 M') A) [.ref (q 0), .int (nI kk), .int (nI nn)].toArray s 0 0 A) (F0 m 78 ls []) := by
            intro n
            induction n with
            | zero => intro k h1 h2; exact absurd h2 (by omega)
            | succ n ih =>
              intro k hk1 hk2 ls g2 M H locs hZ1 hg1 hg2 hM hS hl
              refine lv_iload_n hx hb dX6_prop_78 rfl (lv_at hl 0 rfl) ?_
              refine lv_bipush (v := 15) hx hb dX6_prop_79 (by decide) ?_
              refine lv_icmp_ge (tgt := 105) hx hb dX6_prop_81 (by decide) (fun c81 => ?_) (fun c81 => ?_)
              · obtain rfl : k = 15 := by rw [show (15 : Int32) = nI 15 from rfl, nI_leI (by omega) (by omega)] at c81; omega
                refine lv_iconst (v := 0) hx hb dX6_prop_105 (by decide) ?_
                refine lv_istore_n (lv' := [(3, .int 0), (0, .ref (q 0)), (1, .int (nI kk)), (2, .int (nI nn))]) hx hb dX6_prop_106 rfl hl (by decide) rfl (fun ls hl => ?_)
                have loop : ∀ (n k : Nat), k ≤ 5 → 6 ≤ k + n → ∀ (ls : Array Slot) (u : Nat → Int32) (M : zm_M) (H : Heap) (locs : List Loc), zRA G q (objR q S) (va_up (va_up (va_up (va_up f 1 (upd (f 1) (s_np S) (nI kk))) 2 (upd (f 2) (s_np S) (nI nn))) 3 (upd (f 3) (s_np S) 0)) 5 u) g2 M → (∀ m, m < 5 * s_np S → u m = f 5 m) → (∀ i, i < k → u (5 * s_np S + i) = -1) → zm_P G A M H → va_S A s.heap H locs → lv_has ls 4 [(3, .int (nI k)), (0, .ref (q 0)), (1, .int (nI kk)), (2, .int (nI nn))] → W p l e (zm_rm 2 0 0) s m [.ref (q 0), .int (nI kk), .int (nI nn)].toArray below meth c H locs 0 0 (MQ below (zm_Q G (fun r M' => r = some (.int (sp_prop S (nI kk) (nI nn)).1) ∧ RepR G q (sp_prop S (nI kk) (nI nn)).2 M') A) [.ref (q 0), .int (nI kk), .int (nI nn)].toArray s 0 0 A) (F0 m 107 ls []) := by
                  intro n
                  induction n with
                  | zero => intro k h1 h2; exact absurd h2 (by omega)
                  | succ n ih =>
                    intro k hk3 hk4 ls u M H locs hZ4 hu1 hu2 hM hS hl
                    refine lv_iload_n hx hb dX6_prop_107 rfl (lv_at hl 0 rfl) ?_
                    refine lv_iconst (v := 5) hx hb dX6_prop_108 (by decide) ?_
                    refine lv_icmp_ge (tgt := 132) hx hb dX6_prop_109 (by decide) (fun c109 => ?_) (fun c109 => ?_)
                    · obtain rfl : k = 5 := by rw [show (5 : Int32) = nI 5 from rfl, nI_leI (by omega) (by omega)] at c109; omega
                      refine lv_aload_n hx hb dX6_prop_132 rfl (lv_at hl 1 rfl) ?_
                      refine lv_dup hx hb dX6_prop_133 rfl ?_
                      refine zm_get hx hb hts hown hE hM hZ4.2.1 fl_X6_48_5 rfl dX6_prop_134 ?_
                      refine lv_iconst (v := 1) hx hb dX6_prop_137 (by decide) ?_
                      refine lv_iadd hx hb dX6_prop_138 ?_
                      refine zm_put hx hb hts hown hE hM hS hZ4.2.1 fp_X6_48_5 rfl rfl (Nat.le_of_ble_eq_true rfl) dX6_prop_139 (fun H locs hM hS => ?_)
                      rw [show (objR q S).set 0 (.int (nI (s_np S) + 1)) = objR q (addS S kk nn) by rw [nI_1]; rfl] at hM
                      have hZ5 := hZ4.fld (objR q (addS S kk nn))
                      refine lv_aload_n hx hb dX6_prop_142 rfl (lv_at hl 1 rfl) ?_
                      refine zm_get hx hb hts hown hE hM hZ5.2.1 fl_X6_48_5 rfl dX6_prop_143 ?_
                      refine lv_iconst (v := 1) hx hb dX6_prop_146 (by decide) ?_
                      refine lv_isub hx hb dX6_prop_147 ?_
                      refine zm_iret hx hb hr hlk hM hS ?_ ⟨Nat.le_refl _, Nat.le_refl _⟩ dX6_prop_148
                      rw [prop_ok hik hin hnp5]
                      exact ⟨by rw [nI_pred], _, _, hZ5, abs_add hAb hg1 hg2 hu1 hu2⟩
                    · have hkk : k < 5 := by rw [show (5 : Int32) = nI 5 from rfl, nI_leI (by omega) (by omega)] at c109; omega
                      refine lv_aload_n hx hb dX6_prop_112 rfl (lv_at hl 1 rfl) ?_
                      refine zm_get hx hb hts hown hE hM hZ4.2.1 fl_X6_23_5 rfl dX6_prop_113 ?_
                      refine lv_iconst (v := 5) hx hb dX6_prop_116 (by decide) ?_
                      refine lv_aload_n hx hb dX6_prop_117 rfl (lv_at hl 1 rfl) ?_
                      refine zm_get hx hb hts hown hE hM hZ4.2.1 fl_X6_48_5 rfl dX6_prop_118 ?_
                      refine lv_imul hx hb dX6_prop_121 ?_
                      refine lv_iload_n hx hb dX6_prop_122 rfl (lv_at hl 0 rfl) ?_
                      refine lv_iadd hx hb dX6_prop_123 ?_
                      refine lv_iconst (v := (-1)) hx hb dX6_prop_124 (by decide) ?_
                      refine W.eq (g2 := F0 m 125 ls (.int (-1) :: .int (nI (5 * s_np S + k)) :: .ref (q 5) :: [])) (by rw [idx5]) ?_
                      refine zm_iast hx hb hE hM hS (hZ4.ar 5) (vp_in_nI (show 5 * s_np S + k < 250 by omega) (by decide)) dX6_prop_125 (fun H locs hM hS => ?_)
                      rw [nI_clamp (by omega)] at hM
                      have hZ2 := hZ4.arr 5 (upd u (5 * s_np S + k) (-1))
                      rw [va_uu2] at hZ2
                      have hu1n : ∀ m, m < 5 * s_np S → upd u (5 * s_np S + k) (-1) m = f 5 m := fun m hm => by rw [pk_un (by omega)]; exact hu1 m hm
                      have hu2n : ∀ i, i < k + 1 → upd u (5 * s_np S + k) (-1) (5 * s_np S + i) = -1 := thi_ext hu2
                      refine lv_iinc (v := nI (k + 1)) (lv' := [(3, .int (nI (k + 1))), (0, .ref (q 0)), (1, .int (nI kk)), (2, .int (nI nn))]) hx hb dX6_prop_126 hl (k := 0) rfl (nI_1 k) (by decide) rfl (fun ls hl => ?_)
                      refine lv_goto (tgt := 107) hx hb dX6_prop_129 (by decide) ?_
                      exact ih (k + 1) (by omega) (by omega) ls _ _ _ _ hZ2 hu1n hu2n hM hS (lv_sub hl [0, 1, 2, 3] rfl)
                exact loop 6 0 (by omega) (by omega) ls (f 5) _ _ _ (by rw [va_id5]; exact hZ1) (fun _ _ => rfl) (fun i hi => absurd hi (Nat.not_lt_zero _)) hM hS (lv_sub hl [0, 1, 2, 3] rfl)
              · have hkk : k < 15 := by rw [show (15 : Int32) = nI 15 from rfl, nI_leI (by omega) (by omega)] at c81; omega
                refine lv_aload_n hx hb dX6_prop_84 rfl (lv_at hl 1 rfl) ?_
                refine zm_get hx hb hts hown hE hM hZ1.2.1 fl_X6_19_5 rfl dX6_prop_85 ?_
                refine lv_bipush (v := 15) hx hb dX6_prop_88 (by decide) ?_
                refine lv_aload_n hx hb dX6_prop_90 rfl (lv_at hl 1 rfl) ?_
                refine zm_get hx hb hts hown hE hM hZ1.2.1 fl_X6_48_5 rfl dX6_prop_91 ?_
                refine lv_imul hx hb dX6_prop_94 ?_
                refine lv_iload_n hx hb dX6_prop_95 rfl (lv_at hl 0 rfl) ?_
                refine lv_iadd hx hb dX6_prop_96 ?_
                refine lv_lconst (v := 0) hx hb dX6_prop_97 (by decide) ?_
                refine W.eq (g2 := F0 m 98 ls (.long 0 :: .int (nI (15 * s_np S + k)) :: .ref (q 4) :: [])) (by rw [idx15]) ?_
                refine zm_last hx hb hE hM hS hZ1.2.2.2 (vp_in_nI (show 15 * s_np S + k < 750 by omega) (by decide)) dX6_prop_98 (fun H locs hM hS => ?_)
                rw [nI_clamp (by omega)] at hM
                have hZ2 := hZ1.num (vp_updL g2 (15 * s_np S + k) 0)
                have hg1n : ∀ m, m < 15 * s_np S → vp_updL g2 (15 * s_np S + k) 0 m = g m := fun m hm => by rw [pk_uLn (by omega)]; exact hg1 m hm
                have hg2n : ∀ i, i < k + 1 → vp_updL g2 (15 * s_np S + k) 0 (15 * s_np S + i) = 0 := num_ext hg2
                refine lv_iinc (v := nI (k + 1)) (lv' := [(3, .int (nI (k + 1))), (0, .ref (q 0)), (1, .int (nI kk)), (2, .int (nI nn))]) hx hb dX6_prop_99 hl (k := 0) rfl (nI_1 k) (by decide) rfl (fun ls hl => ?_)
                refine lv_goto (tgt := 78) hx hb dX6_prop_102 (by decide) ?_
                exact ih (k + 1) (by omega) (by omega) ls _ _ _ _ hZ2 hg1n hg2n hM hS (lv_sub hl [0, 1, 2, 3] rfl)
          exact loop 16 0 (by omega) (by omega) ls _ _ _ _ hZ3 (fun _ _ => rfl) (fun i hi => absurd hi (Nat.not_lt_zero _)) hM hS (lv_sub hl [0, 1, 2, 3] rfl)
        · refine lv_bipush (v := (-3)) hx hb dX6_prop_43 (by decide) ?_
          refine zm_iret hx hb hr hlk hM hS ?_ ⟨Nat.le_refl _, Nat.le_refl _⟩ dX6_prop_45
          have h3 : s_np S = 50 := (nI_eq (b := 50) (by omega) (by omega)).mp c40
          exact ⟨by rw [prop_full hik hin h3], by rw [prop_full hik hin h3]; exact ⟨f, g, hZ, hAb⟩⟩
      · rw [zbt_100, bI_0] at c28
        rw [hmx] at c28
        have hin := isS_f c28
        refine lv_bipush (v := (-2)) hx hb dX6_prop_31 (by decide) ?_
        refine zm_iret hx hb hr hlk hM hS ?_ ⟨Nat.le_refl _, Nat.le_refl _⟩ dX6_prop_33
        have hs : sp_prop S (nI kk) n = (-2, S) := by first | exact prop_bad1 hik | exact prop_bad2 hik hin
        exact ⟨by rw [hs], by rw [hs]; exact ⟨f, g, hZ, hAb⟩⟩
theorem ns_up {M : zm_M} {L : List Nat} (h : ∀ x ∈ L, M x ≠ none) (b : Nat) (e : va_E) : ∀ x ∈ L, zm_up M b e x ≠ none := by
  intro x hx
  by_cases q : x = b
  · subst q; rw [zm_up_s]; exact fun z => by cases z
  · rw [zm_up_n q]; exact h x hx
theorem ns_new {M : zm_M} {L : List Nat} (h : ∀ x ∈ L, M x ≠ none) (b : Nat) (e : va_E) : ∀ x ∈ L ++ [b], zm_up M b e x ≠ none := by
  intro x hx
  rcases List.mem_append.mp hx with hx | hx
  · exact ns_up h b e x hx
  · rw [List.mem_singleton.mp hx, zm_up_s]; exact fun z => by cases z
theorem nd_new {M : zm_M} {L : List Nat} {b : Nat} (hd : L.Nodup) (h : ∀ x ∈ L, M x ≠ none) (hb : M b = none) : (L ++ [b]).Nodup := by
  rw [List.nodup_append]
  refine ⟨hd, by simp, fun x hx y hy e => ?_⟩
  rw [List.mem_singleton.mp hy] at e
  exact h x hx (by rw [e]; exact hb)
theorem nd_inj {L : List Nat} (h : L.Nodup) : ∀ i j, i < L.length → j < L.length → L.getD i 0 = L.getD j 0 → i = j := by
  intro i j hi hj e
  have e2 : L[i] = L[j] := by simpa [List.getD, hi, hj] using e
  have hp := List.pairwise_iff_getElem.mp h
  rcases Nat.lt_trichotomy i j with q | q | q
  · exact absurd e2 (hp i j hi hj q)
  · exact q
  · exact absurd e2.symm (hp j i hj hi q)
theorem sl_ext {f : Nat → Nat → Int32} {k : Nat} (h : ∀ i, i < k → f 6 i = -1) : ∀ i, i < k + 1 → va_up f 6 (upd (f 6) k (-1)) 6 i = -1 := by
  intro i hi
  rw [va_up_self]
  by_cases e : i = k
  · rw [e, pk_us]
  · rw [pk_un e]; exact h i (by omega)
set_option maxRecDepth 100000 in
set_option maxHeartbeats 4000000 in
theorem c_X6_init (l : Launch) (G : zm_G) (A : Nat → Prop) (M : zm_M) (a : Nat) (h0 : M a = some (.inr (5, [.int 0, .null, .null, .null, .null, .null, .null, .int 0, .int 0, .null, .null, .null, .null, .long 0, .int 0, .int 0, .int 0]))) : Met l yX6_init (zm_W yX6_init cX6_init 2 none) (zm_rm 1 10 1280) (zm_Pc G [.ref a] A M) (zm_Q G (fun r M' => r = none ∧ ∃ q : Nat → Nat, q 0 = a ∧ RepR G q s_0 M') A) 10 1280 A := by
  refine zm_start (by decide) (Nat.le_of_ble_eq_true rfl) ?_
  intro p e s m below meth c hx hb hml hr hts hown hlk hnm hE hA ls hl hM hS
  have hl : lv_has ls 2 [(0, .ref a)] := hl
  have hnd : [a].Nodup := by simp
  have hns : ∀ x ∈ [a], M x ≠ none := fun x hx => by rw [List.mem_singleton.mp hx, h0]; exact fun z => by cases z
  refine lv_aload_n hx hb dX6_init_0 rfl (lv_at hl 0 rfl) ?_
  refine zm_objInit hx hb hml hts hown ml_X6_1 hl.1 (by decide) (Nat.le_of_ble_eq_true rfl) dX6_init_1 ?_
  refine lv_aload_n hx hb dX6_init_4 rfl (lv_at hl 0 rfl) ?_
  refine lv_bipush (v := 50) hx hb dX6_init_5 (by decide) ?_
  refine zm_newI hx hb hts hE hA hM hS aw_int (by decide) (N := 50) (by decide) (by decide) (Nat.le_of_ble_eq_true rfl) (Nat.le_of_ble_eq_true rfl) dX6_init_7 (fun q1 H nq1 hM hS => ?_)
  have hnd := nd_new hnd hns nq1
  have hns := ns_new hns q1 (zm_I G 50 (fun _ => 0))
  have h0 := zm_up_k (e := (zm_I G 50 (fun _ => 0))) (zm_neN h0 nq1) h0
  have kq1 : zm_up M q1 (zm_I G 50 (fun _ => 0)) q1 = some (zm_I G 50 (fun _ => 0)) := zm_up_s
  generalize hMx : zm_up M q1 (zm_I G 50 (fun _ => 0)) = Mx at *
  clear hMx nq1
  refine zm_putF hx hb hts hown hnm hE hM hS h0 fp_X6_7_5 rfl rfl (Nat.le_of_ble_eq_true rfl) dX6_init_9 (fun H locs hM hS => ?_)
  have hM : zm_P G A (zm_up Mx a (.inr (5, [.int 0, .ref q1, .null, .null, .null, .null, .null, .int 0, .int 0, .null, .null, .null, .null, .long 0, .int 0, .int 0, .int 0]) : va_E)) H := hM
  have kq1 := zm_up_k (e := (.inr (5, [.int 0, .ref q1, .null, .null, .null, .null, .null, .int 0, .int 0, .null, .null, .null, .null, .long 0, .int 0, .int 0, .int 0]) : va_E)) (zm_ne kq1 h0 (by simp)) kq1
  have hns := ns_up hns a (.inr (5, [.int 0, .ref q1, .null, .null, .null, .null, .null, .int 0, .int 0, .null, .null, .null, .null, .long 0, .int 0, .int 0, .int 0]) : va_E)
  have h0 : zm_up Mx a (.inr (5, [.int 0, .ref q1, .null, .null, .null, .null, .null, .int 0, .int 0, .null, .null, .null, .null, .long 0, .int 0, .int 0, .int 0]) : va_E) a = some (.inr (5, [.int 0, .ref q1, .null, .null, .null, .null, .null, .int 0, .int 0, .null, .null, .null, .null, .long 0, .int 0, .int 0, .int 0]) : va_E) := zm_up_s
  generalize hMx : zm_up Mx a (.inr (5, [.int 0, .ref q1, .null, .null, .null, .null, .null, .int 0, .int 0, .null, .null, .null, .null, .long 0, .int 0, .int 0, .int 0]) : va_E) = Mx at *
  clear hMx
  refine lv_aload_n hx hb dX6_init_12 rfl (lv_at hl 0 rfl) ?_
  refine lv_bipush (v := 50) hx hb dX6_init_13 (by decide) ?_
  refine zm_newI hx hb hts hE hA hM hS aw_int (by decide) (N := 50) (by decide) (by decide) (Nat.le_of_ble_eq_true rfl) (Nat.le_of_ble_eq_true rfl) dX6_init_15 (fun q2 H nq2 hM hS => ?_)
  have hnd := nd_new hnd hns nq2
  have hns := ns_new hns q2 (zm_I G 50 (fun _ => 0))
  have h0 := zm_up_k (e := (zm_I G 50 (fun _ => 0))) (zm_neN h0 nq2) h0
  have kq1 := zm_up_k (e := (zm_I G 50 (fun _ => 0))) (zm_neN kq1 nq2) kq1
  have kq2 : zm_up Mx q2 (zm_I G 50 (fun _ => 0)) q2 = some (zm_I G 50 (fun _ => 0)) := zm_up_s
  generalize hMx : zm_up Mx q2 (zm_I G 50 (fun _ => 0)) = Mx at *
  clear hMx nq2
  refine zm_putF hx hb hts hown hnm hE hM hS h0 fp_X6_13_5 rfl rfl (Nat.le_of_ble_eq_true rfl) dX6_init_17 (fun H locs hM hS => ?_)
  have hM : zm_P G A (zm_up Mx a (.inr (5, [.int 0, .ref q1, .ref q2, .null, .null, .null, .null, .int 0, .int 0, .null, .null, .null, .null, .long 0, .int 0, .int 0, .int 0]) : va_E)) H := hM
  have kq1 := zm_up_k (e := (.inr (5, [.int 0, .ref q1, .ref q2, .null, .null, .null, .null, .int 0, .int 0, .null, .null, .null, .null, .long 0, .int 0, .int 0, .int 0]) : va_E)) (zm_ne kq1 h0 (by simp)) kq1
  have kq2 := zm_up_k (e := (.inr (5, [.int 0, .ref q1, .ref q2, .null, .null, .null, .null, .int 0, .int 0, .null, .null, .null, .null, .long 0, .int 0, .int 0, .int 0]) : va_E)) (zm_ne kq2 h0 (by simp)) kq2
  have hns := ns_up hns a (.inr (5, [.int 0, .ref q1, .ref q2, .null, .null, .null, .null, .int 0, .int 0, .null, .null, .null, .null, .long 0, .int 0, .int 0, .int 0]) : va_E)
  have h0 : zm_up Mx a (.inr (5, [.int 0, .ref q1, .ref q2, .null, .null, .null, .null, .int 0, .int 0, .null, .null, .null, .null, .long 0, .int 0, .int 0, .int 0]) : va_E) a = some (.inr (5, [.int 0, .ref q1, .ref q2, .null, .null, .null, .null, .int 0, .int 0, .null, .null, .null, .null, .long 0, .int 0, .int 0, .int 0]) : va_E) := zm_up_s
  generalize hMx : zm_up Mx a (.inr (5, [.int 0, .ref q1, .ref q2, .null, .null, .null, .null, .int 0, .int 0, .null, .null, .null, .null, .long 0, .int 0, .int 0, .int 0]) : va_E) = Mx at *
  clear hMx
  refine lv_aload_n hx hb dX6_init_20 rfl (lv_at hl 0 rfl) ?_
  refine lv_bipush (v := 50) hx hb dX6_init_21 (by decide) ?_
  refine zm_newI hx hb hts hE hA hM hS aw_int (by decide) (N := 50) (by decide) (by decide) (Nat.le_of_ble_eq_true rfl) (Nat.le_of_ble_eq_true rfl) dX6_init_23 (fun q3 H nq3 hM hS => ?_)
  have hnd := nd_new hnd hns nq3
  have hns := ns_new hns q3 (zm_I G 50 (fun _ => 0))
  have h0 := zm_up_k (e := (zm_I G 50 (fun _ => 0))) (zm_neN h0 nq3) h0
  have kq1 := zm_up_k (e := (zm_I G 50 (fun _ => 0))) (zm_neN kq1 nq3) kq1
  have kq2 := zm_up_k (e := (zm_I G 50 (fun _ => 0))) (zm_neN kq2 nq3) kq2
  have kq3 : zm_up Mx q3 (zm_I G 50 (fun _ => 0)) q3 = some (zm_I G 50 (fun _ => 0)) := zm_up_s
  generalize hMx : zm_up Mx q3 (zm_I G 50 (fun _ => 0)) = Mx at *
  clear hMx nq3
  refine zm_putF hx hb hts hown hnm hE hM hS h0 fp_X6_16_5 rfl rfl (Nat.le_of_ble_eq_true rfl) dX6_init_25 (fun H locs hM hS => ?_)
  have hM : zm_P G A (zm_up Mx a (.inr (5, [.int 0, .ref q1, .ref q2, .ref q3, .null, .null, .null, .int 0, .int 0, .null, .null, .null, .null, .long 0, .int 0, .int 0, .int 0]) : va_E)) H := hM
  have kq1 := zm_up_k (e := (.inr (5, [.int 0, .ref q1, .ref q2, .ref q3, .null, .null, .null, .int 0, .int 0, .null, .null, .null, .null, .long 0, .int 0, .int 0, .int 0]) : va_E)) (zm_ne kq1 h0 (by simp)) kq1
  have kq2 := zm_up_k (e := (.inr (5, [.int 0, .ref q1, .ref q2, .ref q3, .null, .null, .null, .int 0, .int 0, .null, .null, .null, .null, .long 0, .int 0, .int 0, .int 0]) : va_E)) (zm_ne kq2 h0 (by simp)) kq2
  have kq3 := zm_up_k (e := (.inr (5, [.int 0, .ref q1, .ref q2, .ref q3, .null, .null, .null, .int 0, .int 0, .null, .null, .null, .null, .long 0, .int 0, .int 0, .int 0]) : va_E)) (zm_ne kq3 h0 (by simp)) kq3
  have hns := ns_up hns a (.inr (5, [.int 0, .ref q1, .ref q2, .ref q3, .null, .null, .null, .int 0, .int 0, .null, .null, .null, .null, .long 0, .int 0, .int 0, .int 0]) : va_E)
  have h0 : zm_up Mx a (.inr (5, [.int 0, .ref q1, .ref q2, .ref q3, .null, .null, .null, .int 0, .int 0, .null, .null, .null, .null, .long 0, .int 0, .int 0, .int 0]) : va_E) a = some (.inr (5, [.int 0, .ref q1, .ref q2, .ref q3, .null, .null, .null, .int 0, .int 0, .null, .null, .null, .null, .long 0, .int 0, .int 0, .int 0]) : va_E) := zm_up_s
  generalize hMx : zm_up Mx a (.inr (5, [.int 0, .ref q1, .ref q2, .ref q3, .null, .null, .null, .int 0, .int 0, .null, .null, .null, .null, .long 0, .int 0, .int 0, .int 0]) : va_E) = Mx at *
  clear hMx
  refine lv_aload_n hx hb dX6_init_28 rfl (lv_at hl 0 rfl) ?_
  refine lv_sipush (v := 750) hx hb dX6_init_29 (by decide) ?_
  refine zm_newJ hx hb hts hE hA hM hS aw_long (by decide) (N := 750) (by decide) (by decide) (Nat.le_of_ble_eq_true rfl) (Nat.le_of_ble_eq_true rfl) dX6_init_32 (fun q4 H nq4 hM hS => ?_)
  have hnd := nd_new hnd hns nq4
  have hns := ns_new hns q4 (zm_J G 750 (fun _ => 0))
  have h0 := zm_up_k (e := (zm_J G 750 (fun _ => 0))) (zm_neN h0 nq4) h0
  have kq1 := zm_up_k (e := (zm_J G 750 (fun _ => 0))) (zm_neN kq1 nq4) kq1
  have kq2 := zm_up_k (e := (zm_J G 750 (fun _ => 0))) (zm_neN kq2 nq4) kq2
  have kq3 := zm_up_k (e := (zm_J G 750 (fun _ => 0))) (zm_neN kq3 nq4) kq3
  have kq4 : zm_up Mx q4 (zm_J G 750 (fun _ => 0)) q4 = some (zm_J G 750 (fun _ => 0)) := zm_up_s
  generalize hMx : zm_up Mx q4 (zm_J G 750 (fun _ => 0)) = Mx at *
  clear hMx nq4
  refine zm_putF hx hb hts hown hnm hE hM hS h0 fp_X6_19_5 rfl rfl (Nat.le_of_ble_eq_true rfl) dX6_init_34 (fun H locs hM hS => ?_)
  have hM : zm_P G A (zm_up Mx a (.inr (5, [.int 0, .ref q1, .ref q2, .ref q3, .ref q4, .null, .null, .int 0, .int 0, .null, .null, .null, .null, .long 0, .int 0, .int 0, .int 0]) : va_E)) H := hM
  have kq1 := zm_up_k (e := (.inr (5, [.int 0, .ref q1, .ref q2, .ref q3, .ref q4, .null, .null, .int 0, .int 0, .null, .null, .null, .null, .long 0, .int 0, .int 0, .int 0]) : va_E)) (zm_ne kq1 h0 (by simp)) kq1
  have kq2 := zm_up_k (e := (.inr (5, [.int 0, .ref q1, .ref q2, .ref q3, .ref q4, .null, .null, .int 0, .int 0, .null, .null, .null, .null, .long 0, .int 0, .int 0, .int 0]) : va_E)) (zm_ne kq2 h0 (by simp)) kq2
  have kq3 := zm_up_k (e := (.inr (5, [.int 0, .ref q1, .ref q2, .ref q3, .ref q4, .null, .null, .int 0, .int 0, .null, .null, .null, .null, .long 0, .int 0, .int 0, .int 0]) : va_E)) (zm_ne kq3 h0 (by simp)) kq3
  have kq4 := zm_up_k (e := (.inr (5, [.int 0, .ref q1, .ref q2, .ref q3, .ref q4, .null, .null, .int 0, .int 0, .null, .null, .null, .null, .long 0, .int 0, .int 0, .int 0]) : va_E)) (zm_ne kq4 h0 (by simp)) kq4
  have hns := ns_up hns a (.inr (5, [.int 0, .ref q1, .ref q2, .ref q3, .ref q4, .null, .null, .int 0, .int 0, .null, .null, .null, .null, .long 0, .int 0, .int 0, .int 0]) : va_E)
  have h0 : zm_up Mx a (.inr (5, [.int 0, .ref q1, .ref q2, .ref q3, .ref q4, .null, .null, .int 0, .int 0, .null, .null, .null, .null, .long 0, .int 0, .int 0, .int 0]) : va_E) a = some (.inr (5, [.int 0, .ref q1, .ref q2, .ref q3, .ref q4, .null, .null, .int 0, .int 0, .null, .null, .null, .null, .long 0, .int 0, .int 0, .int 0]) : va_E) := zm_up_s
  generalize hMx : zm_up Mx a (.inr (5, [.int 0, .ref q1, .ref q2, .ref q3, .ref q4, .null, .null, .int 0, .int 0, .null, .null, .null, .null, .long 0, .int 0, .int 0, .int 0]) : va_E) = Mx at *
  clear hMx
  refine lv_aload_n hx hb dX6_init_37 rfl (lv_at hl 0 rfl) ?_
  refine lv_sipush (v := 250) hx hb dX6_init_38 (by decide) ?_
  refine zm_newI hx hb hts hE hA hM hS aw_int (by decide) (N := 250) (by decide) (by decide) (Nat.le_of_ble_eq_true rfl) (Nat.le_of_ble_eq_true rfl) dX6_init_41 (fun q5 H nq5 hM hS => ?_)
  have hnd := nd_new hnd hns nq5
  have hns := ns_new hns q5 (zm_I G 250 (fun _ => 0))
  have h0 := zm_up_k (e := (zm_I G 250 (fun _ => 0))) (zm_neN h0 nq5) h0
  have kq1 := zm_up_k (e := (zm_I G 250 (fun _ => 0))) (zm_neN kq1 nq5) kq1
  have kq2 := zm_up_k (e := (zm_I G 250 (fun _ => 0))) (zm_neN kq2 nq5) kq2
  have kq3 := zm_up_k (e := (zm_I G 250 (fun _ => 0))) (zm_neN kq3 nq5) kq3
  have kq4 := zm_up_k (e := (zm_I G 250 (fun _ => 0))) (zm_neN kq4 nq5) kq4
  have kq5 : zm_up Mx q5 (zm_I G 250 (fun _ => 0)) q5 = some (zm_I G 250 (fun _ => 0)) := zm_up_s
  generalize hMx : zm_up Mx q5 (zm_I G 250 (fun _ => 0)) = Mx at *
  clear hMx nq5
  refine zm_putF hx hb hts hown hnm hE hM hS h0 fp_X6_23_5 rfl rfl (Nat.le_of_ble_eq_true rfl) dX6_init_43 (fun H locs hM hS => ?_)
  have hM : zm_P G A (zm_up Mx a (.inr (5, [.int 0, .ref q1, .ref q2, .ref q3, .ref q4, .ref q5, .null, .int 0, .int 0, .null, .null, .null, .null, .long 0, .int 0, .int 0, .int 0]) : va_E)) H := hM
  have kq1 := zm_up_k (e := (.inr (5, [.int 0, .ref q1, .ref q2, .ref q3, .ref q4, .ref q5, .null, .int 0, .int 0, .null, .null, .null, .null, .long 0, .int 0, .int 0, .int 0]) : va_E)) (zm_ne kq1 h0 (by simp)) kq1
  have kq2 := zm_up_k (e := (.inr (5, [.int 0, .ref q1, .ref q2, .ref q3, .ref q4, .ref q5, .null, .int 0, .int 0, .null, .null, .null, .null, .long 0, .int 0, .int 0, .int 0]) : va_E)) (zm_ne kq2 h0 (by simp)) kq2
  have kq3 := zm_up_k (e := (.inr (5, [.int 0, .ref q1, .ref q2, .ref q3, .ref q4, .ref q5, .null, .int 0, .int 0, .null, .null, .null, .null, .long 0, .int 0, .int 0, .int 0]) : va_E)) (zm_ne kq3 h0 (by simp)) kq3
  have kq4 := zm_up_k (e := (.inr (5, [.int 0, .ref q1, .ref q2, .ref q3, .ref q4, .ref q5, .null, .int 0, .int 0, .null, .null, .null, .null, .long 0, .int 0, .int 0, .int 0]) : va_E)) (zm_ne kq4 h0 (by simp)) kq4
  have kq5 := zm_up_k (e := (.inr (5, [.int 0, .ref q1, .ref q2, .ref q3, .ref q4, .ref q5, .null, .int 0, .int 0, .null, .null, .null, .null, .long 0, .int 0, .int 0, .int 0]) : va_E)) (zm_ne kq5 h0 (by simp)) kq5
  have hns := ns_up hns a (.inr (5, [.int 0, .ref q1, .ref q2, .ref q3, .ref q4, .ref q5, .null, .int 0, .int 0, .null, .null, .null, .null, .long 0, .int 0, .int 0, .int 0]) : va_E)
  have h0 : zm_up Mx a (.inr (5, [.int 0, .ref q1, .ref q2, .ref q3, .ref q4, .ref q5, .null, .int 0, .int 0, .null, .null, .null, .null, .long 0, .int 0, .int 0, .int 0]) : va_E) a = some (.inr (5, [.int 0, .ref q1, .ref q2, .ref q3, .ref q4, .ref q5, .null, .int 0, .int 0, .null, .null, .null, .null, .long 0, .int 0, .int 0, .int 0]) : va_E) := zm_up_s
  generalize hMx : zm_up Mx a (.inr (5, [.int 0, .ref q1, .ref q2, .ref q3, .ref q4, .ref q5, .null, .int 0, .int 0, .null, .null, .null, .null, .long 0, .int 0, .int 0, .int 0]) : va_E) = Mx at *
  clear hMx
  refine lv_aload_n hx hb dX6_init_46 rfl (lv_at hl 0 rfl) ?_
  refine lv_bipush (v := 10) hx hb dX6_init_47 (by decide) ?_
  refine zm_newI hx hb hts hE hA hM hS aw_int (by decide) (N := 10) (by decide) (by decide) (Nat.le_of_ble_eq_true rfl) (Nat.le_of_ble_eq_true rfl) dX6_init_49 (fun q6 H nq6 hM hS => ?_)
  have hnd := nd_new hnd hns nq6
  have hns := ns_new hns q6 (zm_I G 10 (fun _ => 0))
  have h0 := zm_up_k (e := (zm_I G 10 (fun _ => 0))) (zm_neN h0 nq6) h0
  have kq1 := zm_up_k (e := (zm_I G 10 (fun _ => 0))) (zm_neN kq1 nq6) kq1
  have kq2 := zm_up_k (e := (zm_I G 10 (fun _ => 0))) (zm_neN kq2 nq6) kq2
  have kq3 := zm_up_k (e := (zm_I G 10 (fun _ => 0))) (zm_neN kq3 nq6) kq3
  have kq4 := zm_up_k (e := (zm_I G 10 (fun _ => 0))) (zm_neN kq4 nq6) kq4
  have kq5 := zm_up_k (e := (zm_I G 10 (fun _ => 0))) (zm_neN kq5 nq6) kq5
  have kq6 : zm_up Mx q6 (zm_I G 10 (fun _ => 0)) q6 = some (zm_I G 10 (fun _ => 0)) := zm_up_s
  generalize hMx : zm_up Mx q6 (zm_I G 10 (fun _ => 0)) = Mx at *
  clear hMx nq6
  refine zm_putF hx hb hts hown hnm hE hM hS h0 fp_X6_26_5 rfl rfl (Nat.le_of_ble_eq_true rfl) dX6_init_51 (fun H locs hM hS => ?_)
  have hM : zm_P G A (zm_up Mx a (.inr (5, [.int 0, .ref q1, .ref q2, .ref q3, .ref q4, .ref q5, .ref q6, .int 0, .int 0, .null, .null, .null, .null, .long 0, .int 0, .int 0, .int 0]) : va_E)) H := hM
  have kq1 := zm_up_k (e := (.inr (5, [.int 0, .ref q1, .ref q2, .ref q3, .ref q4, .ref q5, .ref q6, .int 0, .int 0, .null, .null, .null, .null, .long 0, .int 0, .int 0, .int 0]) : va_E)) (zm_ne kq1 h0 (by simp)) kq1
  have kq2 := zm_up_k (e := (.inr (5, [.int 0, .ref q1, .ref q2, .ref q3, .ref q4, .ref q5, .ref q6, .int 0, .int 0, .null, .null, .null, .null, .long 0, .int 0, .int 0, .int 0]) : va_E)) (zm_ne kq2 h0 (by simp)) kq2
  have kq3 := zm_up_k (e := (.inr (5, [.int 0, .ref q1, .ref q2, .ref q3, .ref q4, .ref q5, .ref q6, .int 0, .int 0, .null, .null, .null, .null, .long 0, .int 0, .int 0, .int 0]) : va_E)) (zm_ne kq3 h0 (by simp)) kq3
  have kq4 := zm_up_k (e := (.inr (5, [.int 0, .ref q1, .ref q2, .ref q3, .ref q4, .ref q5, .ref q6, .int 0, .int 0, .null, .null, .null, .null, .long 0, .int 0, .int 0, .int 0]) : va_E)) (zm_ne kq4 h0 (by simp)) kq4
  have kq5 := zm_up_k (e := (.inr (5, [.int 0, .ref q1, .ref q2, .ref q3, .ref q4, .ref q5, .ref q6, .int 0, .int 0, .null, .null, .null, .null, .long 0, .int 0, .int 0, .int 0]) : va_E)) (zm_ne kq5 h0 (by simp)) kq5
  have kq6 := zm_up_k (e := (.inr (5, [.int 0, .ref q1, .ref q2, .ref q3, .ref q4, .ref q5, .ref q6, .int 0, .int 0, .null, .null, .null, .null, .long 0, .int 0, .int 0, .int 0]) : va_E)) (zm_ne kq6 h0 (by simp)) kq6
  have hns := ns_up hns a (.inr (5, [.int 0, .ref q1, .ref q2, .ref q3, .ref q4, .ref q5, .ref q6, .int 0, .int 0, .null, .null, .null, .null, .long 0, .int 0, .int 0, .int 0]) : va_E)
  have h0 : zm_up Mx a (.inr (5, [.int 0, .ref q1, .ref q2, .ref q3, .ref q4, .ref q5, .ref q6, .int 0, .int 0, .null, .null, .null, .null, .long 0, .int 0, .int 0, .int 0]) : va_E) a = some (.inr (5, [.int 0, .ref q1, .ref q2, .ref q3, .ref q4, .ref q5, .ref q6, .int 0, .int 0, .null, .null, .null, .null, .long 0, .int 0, .int 0, .int 0]) : va_E) := zm_up_s
  generalize hMx : zm_up Mx a (.inr (5, [.int 0, .ref q1, .ref q2, .ref q3, .ref q4, .ref q5, .ref q6, .int 0, .int 0, .null, .null, .null, .null, .long 0, .int 0, .int 0, .int 0]) : va_E) = Mx at *
  clear hMx
  refine lv_aload_n hx hb dX6_init_54 rfl (lv_at hl 0 rfl) ?_
  refine lv_iconst (v := (-1)) hx hb dX6_init_55 (by decide) ?_
  refine zm_put hx hb hts hown hE hM hS h0 fp_X6_29_5 rfl rfl (Nat.le_of_ble_eq_true rfl) dX6_init_56 (fun H locs hM hS => ?_)
  have hM : zm_P G A (zm_up Mx a (.inr (5, [.int 0, .ref q1, .ref q2, .ref q3, .ref q4, .ref q5, .ref q6, .int (-1), .int 0, .null, .null, .null, .null, .long 0, .int 0, .int 0, .int 0]) : va_E)) H := hM
  have kq1 := zm_up_k (e := (.inr (5, [.int 0, .ref q1, .ref q2, .ref q3, .ref q4, .ref q5, .ref q6, .int (-1), .int 0, .null, .null, .null, .null, .long 0, .int 0, .int 0, .int 0]) : va_E)) (zm_ne kq1 h0 (by simp)) kq1
  have kq2 := zm_up_k (e := (.inr (5, [.int 0, .ref q1, .ref q2, .ref q3, .ref q4, .ref q5, .ref q6, .int (-1), .int 0, .null, .null, .null, .null, .long 0, .int 0, .int 0, .int 0]) : va_E)) (zm_ne kq2 h0 (by simp)) kq2
  have kq3 := zm_up_k (e := (.inr (5, [.int 0, .ref q1, .ref q2, .ref q3, .ref q4, .ref q5, .ref q6, .int (-1), .int 0, .null, .null, .null, .null, .long 0, .int 0, .int 0, .int 0]) : va_E)) (zm_ne kq3 h0 (by simp)) kq3
  have kq4 := zm_up_k (e := (.inr (5, [.int 0, .ref q1, .ref q2, .ref q3, .ref q4, .ref q5, .ref q6, .int (-1), .int 0, .null, .null, .null, .null, .long 0, .int 0, .int 0, .int 0]) : va_E)) (zm_ne kq4 h0 (by simp)) kq4
  have kq5 := zm_up_k (e := (.inr (5, [.int 0, .ref q1, .ref q2, .ref q3, .ref q4, .ref q5, .ref q6, .int (-1), .int 0, .null, .null, .null, .null, .long 0, .int 0, .int 0, .int 0]) : va_E)) (zm_ne kq5 h0 (by simp)) kq5
  have kq6 := zm_up_k (e := (.inr (5, [.int 0, .ref q1, .ref q2, .ref q3, .ref q4, .ref q5, .ref q6, .int (-1), .int 0, .null, .null, .null, .null, .long 0, .int 0, .int 0, .int 0]) : va_E)) (zm_ne kq6 h0 (by simp)) kq6
  have hns := ns_up hns a (.inr (5, [.int 0, .ref q1, .ref q2, .ref q3, .ref q4, .ref q5, .ref q6, .int (-1), .int 0, .null, .null, .null, .null, .long 0, .int 0, .int 0, .int 0]) : va_E)
  have h0 : zm_up Mx a (.inr (5, [.int 0, .ref q1, .ref q2, .ref q3, .ref q4, .ref q5, .ref q6, .int (-1), .int 0, .null, .null, .null, .null, .long 0, .int 0, .int 0, .int 0]) : va_E) a = some (.inr (5, [.int 0, .ref q1, .ref q2, .ref q3, .ref q4, .ref q5, .ref q6, .int (-1), .int 0, .null, .null, .null, .null, .long 0, .int 0, .int 0, .int 0]) : va_E) := zm_up_s
  generalize hMx : zm_up Mx a (.inr (5, [.int 0, .ref q1, .ref q2, .ref q3, .ref q4, .ref q5, .ref q6, .int (-1), .int 0, .null, .null, .null, .null, .long 0, .int 0, .int 0, .int 0]) : va_E) = Mx at *
  clear hMx
  refine lv_aload_n hx hb dX6_init_59 rfl (lv_at hl 0 rfl) ?_
  refine lv_bipush (v := 30) hx hb dX6_init_60 (by decide) ?_
  refine zm_newI hx hb hts hE hA hM hS aw_int (by decide) (N := 30) (by decide) (by decide) (Nat.le_of_ble_eq_true rfl) (Nat.le_of_ble_eq_true rfl) dX6_init_62 (fun q7 H nq7 hM hS => ?_)
  have hnd := nd_new hnd hns nq7
  have hns := ns_new hns q7 (zm_I G 30 (fun _ => 0))
  have h0 := zm_up_k (e := (zm_I G 30 (fun _ => 0))) (zm_neN h0 nq7) h0
  have kq1 := zm_up_k (e := (zm_I G 30 (fun _ => 0))) (zm_neN kq1 nq7) kq1
  have kq2 := zm_up_k (e := (zm_I G 30 (fun _ => 0))) (zm_neN kq2 nq7) kq2
  have kq3 := zm_up_k (e := (zm_I G 30 (fun _ => 0))) (zm_neN kq3 nq7) kq3
  have kq4 := zm_up_k (e := (zm_I G 30 (fun _ => 0))) (zm_neN kq4 nq7) kq4
  have kq5 := zm_up_k (e := (zm_I G 30 (fun _ => 0))) (zm_neN kq5 nq7) kq5
  have kq6 := zm_up_k (e := (zm_I G 30 (fun _ => 0))) (zm_neN kq6 nq7) kq6
  have kq7 : zm_up Mx q7 (zm_I G 30 (fun _ => 0)) q7 = some (zm_I G 30 (fun _ => 0)) := zm_up_s
  generalize hMx : zm_up Mx q7 (zm_I G 30 (fun _ => 0)) = Mx at *
  clear hMx nq7
  refine zm_putF hx hb hts hown hnm hE hM hS h0 fp_X6_33_5 rfl rfl (Nat.le_of_ble_eq_true rfl) dX6_init_64 (fun H locs hM hS => ?_)
  have hM : zm_P G A (zm_up Mx a (.inr (5, [.int 0, .ref q1, .ref q2, .ref q3, .ref q4, .ref q5, .ref q6, .int (-1), .int 0, .ref q7, .null, .null, .null, .long 0, .int 0, .int 0, .int 0]) : va_E)) H := hM
  have kq1 := zm_up_k (e := (.inr (5, [.int 0, .ref q1, .ref q2, .ref q3, .ref q4, .ref q5, .ref q6, .int (-1), .int 0, .ref q7, .null, .null, .null, .long 0, .int 0, .int 0, .int 0]) : va_E)) (zm_ne kq1 h0 (by simp)) kq1
  have kq2 := zm_up_k (e := (.inr (5, [.int 0, .ref q1, .ref q2, .ref q3, .ref q4, .ref q5, .ref q6, .int (-1), .int 0, .ref q7, .null, .null, .null, .long 0, .int 0, .int 0, .int 0]) : va_E)) (zm_ne kq2 h0 (by simp)) kq2
  have kq3 := zm_up_k (e := (.inr (5, [.int 0, .ref q1, .ref q2, .ref q3, .ref q4, .ref q5, .ref q6, .int (-1), .int 0, .ref q7, .null, .null, .null, .long 0, .int 0, .int 0, .int 0]) : va_E)) (zm_ne kq3 h0 (by simp)) kq3
  have kq4 := zm_up_k (e := (.inr (5, [.int 0, .ref q1, .ref q2, .ref q3, .ref q4, .ref q5, .ref q6, .int (-1), .int 0, .ref q7, .null, .null, .null, .long 0, .int 0, .int 0, .int 0]) : va_E)) (zm_ne kq4 h0 (by simp)) kq4
  have kq5 := zm_up_k (e := (.inr (5, [.int 0, .ref q1, .ref q2, .ref q3, .ref q4, .ref q5, .ref q6, .int (-1), .int 0, .ref q7, .null, .null, .null, .long 0, .int 0, .int 0, .int 0]) : va_E)) (zm_ne kq5 h0 (by simp)) kq5
  have kq6 := zm_up_k (e := (.inr (5, [.int 0, .ref q1, .ref q2, .ref q3, .ref q4, .ref q5, .ref q6, .int (-1), .int 0, .ref q7, .null, .null, .null, .long 0, .int 0, .int 0, .int 0]) : va_E)) (zm_ne kq6 h0 (by simp)) kq6
  have kq7 := zm_up_k (e := (.inr (5, [.int 0, .ref q1, .ref q2, .ref q3, .ref q4, .ref q5, .ref q6, .int (-1), .int 0, .ref q7, .null, .null, .null, .long 0, .int 0, .int 0, .int 0]) : va_E)) (zm_ne kq7 h0 (by simp)) kq7
  have hns := ns_up hns a (.inr (5, [.int 0, .ref q1, .ref q2, .ref q3, .ref q4, .ref q5, .ref q6, .int (-1), .int 0, .ref q7, .null, .null, .null, .long 0, .int 0, .int 0, .int 0]) : va_E)
  have h0 : zm_up Mx a (.inr (5, [.int 0, .ref q1, .ref q2, .ref q3, .ref q4, .ref q5, .ref q6, .int (-1), .int 0, .ref q7, .null, .null, .null, .long 0, .int 0, .int 0, .int 0]) : va_E) a = some (.inr (5, [.int 0, .ref q1, .ref q2, .ref q3, .ref q4, .ref q5, .ref q6, .int (-1), .int 0, .ref q7, .null, .null, .null, .long 0, .int 0, .int 0, .int 0]) : va_E) := zm_up_s
  generalize hMx : zm_up Mx a (.inr (5, [.int 0, .ref q1, .ref q2, .ref q3, .ref q4, .ref q5, .ref q6, .int (-1), .int 0, .ref q7, .null, .null, .null, .long 0, .int 0, .int 0, .int 0]) : va_E) = Mx at *
  clear hMx
  refine lv_aload_n hx hb dX6_init_67 rfl (lv_at hl 0 rfl) ?_
  refine lv_bipush (v := 30) hx hb dX6_init_68 (by decide) ?_
  refine zm_newI hx hb hts hE hA hM hS aw_int (by decide) (N := 30) (by decide) (by decide) (Nat.le_of_ble_eq_true rfl) (Nat.le_of_ble_eq_true rfl) dX6_init_70 (fun q8 H nq8 hM hS => ?_)
  have hnd := nd_new hnd hns nq8
  have hns := ns_new hns q8 (zm_I G 30 (fun _ => 0))
  have h0 := zm_up_k (e := (zm_I G 30 (fun _ => 0))) (zm_neN h0 nq8) h0
  have kq1 := zm_up_k (e := (zm_I G 30 (fun _ => 0))) (zm_neN kq1 nq8) kq1
  have kq2 := zm_up_k (e := (zm_I G 30 (fun _ => 0))) (zm_neN kq2 nq8) kq2
  have kq3 := zm_up_k (e := (zm_I G 30 (fun _ => 0))) (zm_neN kq3 nq8) kq3
  have kq4 := zm_up_k (e := (zm_I G 30 (fun _ => 0))) (zm_neN kq4 nq8) kq4
  have kq5 := zm_up_k (e := (zm_I G 30 (fun _ => 0))) (zm_neN kq5 nq8) kq5
  have kq6 := zm_up_k (e := (zm_I G 30 (fun _ => 0))) (zm_neN kq6 nq8) kq6
  have kq7 := zm_up_k (e := (zm_I G 30 (fun _ => 0))) (zm_neN kq7 nq8) kq7
  have kq8 : zm_up Mx q8 (zm_I G 30 (fun _ => 0)) q8 = some (zm_I G 30 (fun _ => 0)) := zm_up_s
  generalize hMx : zm_up Mx q8 (zm_I G 30 (fun _ => 0)) = Mx at *
  clear hMx nq8
  refine zm_putF hx hb hts hown hnm hE hM hS h0 fp_X6_36_5 rfl rfl (Nat.le_of_ble_eq_true rfl) dX6_init_72 (fun H locs hM hS => ?_)
  have hM : zm_P G A (zm_up Mx a (.inr (5, [.int 0, .ref q1, .ref q2, .ref q3, .ref q4, .ref q5, .ref q6, .int (-1), .int 0, .ref q7, .ref q8, .null, .null, .long 0, .int 0, .int 0, .int 0]) : va_E)) H := hM
  have kq1 := zm_up_k (e := (.inr (5, [.int 0, .ref q1, .ref q2, .ref q3, .ref q4, .ref q5, .ref q6, .int (-1), .int 0, .ref q7, .ref q8, .null, .null, .long 0, .int 0, .int 0, .int 0]) : va_E)) (zm_ne kq1 h0 (by simp)) kq1
  have kq2 := zm_up_k (e := (.inr (5, [.int 0, .ref q1, .ref q2, .ref q3, .ref q4, .ref q5, .ref q6, .int (-1), .int 0, .ref q7, .ref q8, .null, .null, .long 0, .int 0, .int 0, .int 0]) : va_E)) (zm_ne kq2 h0 (by simp)) kq2
  have kq3 := zm_up_k (e := (.inr (5, [.int 0, .ref q1, .ref q2, .ref q3, .ref q4, .ref q5, .ref q6, .int (-1), .int 0, .ref q7, .ref q8, .null, .null, .long 0, .int 0, .int 0, .int 0]) : va_E)) (zm_ne kq3 h0 (by simp)) kq3
  have kq4 := zm_up_k (e := (.inr (5, [.int 0, .ref q1, .ref q2, .ref q3, .ref q4, .ref q5, .ref q6, .int (-1), .int 0, .ref q7, .ref q8, .null, .null, .long 0, .int 0, .int 0, .int 0]) : va_E)) (zm_ne kq4 h0 (by simp)) kq4
  have kq5 := zm_up_k (e := (.inr (5, [.int 0, .ref q1, .ref q2, .ref q3, .ref q4, .ref q5, .ref q6, .int (-1), .int 0, .ref q7, .ref q8, .null, .null, .long 0, .int 0, .int 0, .int 0]) : va_E)) (zm_ne kq5 h0 (by simp)) kq5
  have kq6 := zm_up_k (e := (.inr (5, [.int 0, .ref q1, .ref q2, .ref q3, .ref q4, .ref q5, .ref q6, .int (-1), .int 0, .ref q7, .ref q8, .null, .null, .long 0, .int 0, .int 0, .int 0]) : va_E)) (zm_ne kq6 h0 (by simp)) kq6
  have kq7 := zm_up_k (e := (.inr (5, [.int 0, .ref q1, .ref q2, .ref q3, .ref q4, .ref q5, .ref q6, .int (-1), .int 0, .ref q7, .ref q8, .null, .null, .long 0, .int 0, .int 0, .int 0]) : va_E)) (zm_ne kq7 h0 (by simp)) kq7
  have kq8 := zm_up_k (e := (.inr (5, [.int 0, .ref q1, .ref q2, .ref q3, .ref q4, .ref q5, .ref q6, .int (-1), .int 0, .ref q7, .ref q8, .null, .null, .long 0, .int 0, .int 0, .int 0]) : va_E)) (zm_ne kq8 h0 (by simp)) kq8
  have hns := ns_up hns a (.inr (5, [.int 0, .ref q1, .ref q2, .ref q3, .ref q4, .ref q5, .ref q6, .int (-1), .int 0, .ref q7, .ref q8, .null, .null, .long 0, .int 0, .int 0, .int 0]) : va_E)
  have h0 : zm_up Mx a (.inr (5, [.int 0, .ref q1, .ref q2, .ref q3, .ref q4, .ref q5, .ref q6, .int (-1), .int 0, .ref q7, .ref q8, .null, .null, .long 0, .int 0, .int 0, .int 0]) : va_E) a = some (.inr (5, [.int 0, .ref q1, .ref q2, .ref q3, .ref q4, .ref q5, .ref q6, .int (-1), .int 0, .ref q7, .ref q8, .null, .null, .long 0, .int 0, .int 0, .int 0]) : va_E) := zm_up_s
  generalize hMx : zm_up Mx a (.inr (5, [.int 0, .ref q1, .ref q2, .ref q3, .ref q4, .ref q5, .ref q6, .int (-1), .int 0, .ref q7, .ref q8, .null, .null, .long 0, .int 0, .int 0, .int 0]) : va_E) = Mx at *
  clear hMx
  refine lv_aload_n hx hb dX6_init_75 rfl (lv_at hl 0 rfl) ?_
  refine lv_bipush (v := 30) hx hb dX6_init_76 (by decide) ?_
  refine zm_newI hx hb hts hE hA hM hS aw_int (by decide) (N := 30) (by decide) (by decide) (Nat.le_of_ble_eq_true rfl) (Nat.le_of_ble_eq_true rfl) dX6_init_78 (fun q9 H nq9 hM hS => ?_)
  have hnd := nd_new hnd hns nq9
  have hns := ns_new hns q9 (zm_I G 30 (fun _ => 0))
  have h0 := zm_up_k (e := (zm_I G 30 (fun _ => 0))) (zm_neN h0 nq9) h0
  have kq1 := zm_up_k (e := (zm_I G 30 (fun _ => 0))) (zm_neN kq1 nq9) kq1
  have kq2 := zm_up_k (e := (zm_I G 30 (fun _ => 0))) (zm_neN kq2 nq9) kq2
  have kq3 := zm_up_k (e := (zm_I G 30 (fun _ => 0))) (zm_neN kq3 nq9) kq3
  have kq4 := zm_up_k (e := (zm_I G 30 (fun _ => 0))) (zm_neN kq4 nq9) kq4
  have kq5 := zm_up_k (e := (zm_I G 30 (fun _ => 0))) (zm_neN kq5 nq9) kq5
  have kq6 := zm_up_k (e := (zm_I G 30 (fun _ => 0))) (zm_neN kq6 nq9) kq6
  have kq7 := zm_up_k (e := (zm_I G 30 (fun _ => 0))) (zm_neN kq7 nq9) kq7
  have kq8 := zm_up_k (e := (zm_I G 30 (fun _ => 0))) (zm_neN kq8 nq9) kq8
  have kq9 : zm_up Mx q9 (zm_I G 30 (fun _ => 0)) q9 = some (zm_I G 30 (fun _ => 0)) := zm_up_s
  generalize hMx : zm_up Mx q9 (zm_I G 30 (fun _ => 0)) = Mx at *
  clear hMx nq9
  refine zm_putF hx hb hts hown hnm hE hM hS h0 fp_X6_39_5 rfl rfl (Nat.le_of_ble_eq_true rfl) dX6_init_80 (fun H locs hM hS => ?_)
  have hM : zm_P G A (zm_up Mx a (.inr (5, [.int 0, .ref q1, .ref q2, .ref q3, .ref q4, .ref q5, .ref q6, .int (-1), .int 0, .ref q7, .ref q8, .ref q9, .null, .long 0, .int 0, .int 0, .int 0]) : va_E)) H := hM
  have kq1 := zm_up_k (e := (.inr (5, [.int 0, .ref q1, .ref q2, .ref q3, .ref q4, .ref q5, .ref q6, .int (-1), .int 0, .ref q7, .ref q8, .ref q9, .null, .long 0, .int 0, .int 0, .int 0]) : va_E)) (zm_ne kq1 h0 (by simp)) kq1
  have kq2 := zm_up_k (e := (.inr (5, [.int 0, .ref q1, .ref q2, .ref q3, .ref q4, .ref q5, .ref q6, .int (-1), .int 0, .ref q7, .ref q8, .ref q9, .null, .long 0, .int 0, .int 0, .int 0]) : va_E)) (zm_ne kq2 h0 (by simp)) kq2
  have kq3 := zm_up_k (e := (.inr (5, [.int 0, .ref q1, .ref q2, .ref q3, .ref q4, .ref q5, .ref q6, .int (-1), .int 0, .ref q7, .ref q8, .ref q9, .null, .long 0, .int 0, .int 0, .int 0]) : va_E)) (zm_ne kq3 h0 (by simp)) kq3
  have kq4 := zm_up_k (e := (.inr (5, [.int 0, .ref q1, .ref q2, .ref q3, .ref q4, .ref q5, .ref q6, .int (-1), .int 0, .ref q7, .ref q8, .ref q9, .null, .long 0, .int 0, .int 0, .int 0]) : va_E)) (zm_ne kq4 h0 (by simp)) kq4
  have kq5 := zm_up_k (e := (.inr (5, [.int 0, .ref q1, .ref q2, .ref q3, .ref q4, .ref q5, .ref q6, .int (-1), .int 0, .ref q7, .ref q8, .ref q9, .null, .long 0, .int 0, .int 0, .int 0]) : va_E)) (zm_ne kq5 h0 (by simp)) kq5
  have kq6 := zm_up_k (e := (.inr (5, [.int 0, .ref q1, .ref q2, .ref q3, .ref q4, .ref q5, .ref q6, .int (-1), .int 0, .ref q7, .ref q8, .ref q9, .null, .long 0, .int 0, .int 0, .int 0]) : va_E)) (zm_ne kq6 h0 (by simp)) kq6
  have kq7 := zm_up_k (e := (.inr (5, [.int 0, .ref q1, .ref q2, .ref q3, .ref q4, .ref q5, .ref q6, .int (-1), .int 0, .ref q7, .ref q8, .ref q9, .null, .long 0, .int 0, .int 0, .int 0]) : va_E)) (zm_ne kq7 h0 (by simp)) kq7
  have kq8 := zm_up_k (e := (.inr (5, [.int 0, .ref q1, .ref q2, .ref q3, .ref q4, .ref q5, .ref q6, .int (-1), .int 0, .ref q7, .ref q8, .ref q9, .null, .long 0, .int 0, .int 0, .int 0]) : va_E)) (zm_ne kq8 h0 (by simp)) kq8
  have kq9 := zm_up_k (e := (.inr (5, [.int 0, .ref q1, .ref q2, .ref q3, .ref q4, .ref q5, .ref q6, .int (-1), .int 0, .ref q7, .ref q8, .ref q9, .null, .long 0, .int 0, .int 0, .int 0]) : va_E)) (zm_ne kq9 h0 (by simp)) kq9
  have hns := ns_up hns a (.inr (5, [.int 0, .ref q1, .ref q2, .ref q3, .ref q4, .ref q5, .ref q6, .int (-1), .int 0, .ref q7, .ref q8, .ref q9, .null, .long 0, .int 0, .int 0, .int 0]) : va_E)
  have h0 : zm_up Mx a (.inr (5, [.int 0, .ref q1, .ref q2, .ref q3, .ref q4, .ref q5, .ref q6, .int (-1), .int 0, .ref q7, .ref q8, .ref q9, .null, .long 0, .int 0, .int 0, .int 0]) : va_E) a = some (.inr (5, [.int 0, .ref q1, .ref q2, .ref q3, .ref q4, .ref q5, .ref q6, .int (-1), .int 0, .ref q7, .ref q8, .ref q9, .null, .long 0, .int 0, .int 0, .int 0]) : va_E) := zm_up_s
  generalize hMx : zm_up Mx a (.inr (5, [.int 0, .ref q1, .ref q2, .ref q3, .ref q4, .ref q5, .ref q6, .int (-1), .int 0, .ref q7, .ref q8, .ref q9, .null, .long 0, .int 0, .int 0, .int 0]) : va_E) = Mx at *
  clear hMx
  refine lv_aload_n hx hb dX6_init_83 rfl (lv_at hl 0 rfl) ?_
  refine lv_bipush (v := 30) hx hb dX6_init_84 (by decide) ?_
  refine zm_newI hx hb hts hE hA hM hS aw_int (by decide) (N := 30) (by decide) (by decide) (Nat.le_of_ble_eq_true rfl) (Nat.le_of_ble_eq_true rfl) dX6_init_86 (fun q10 H nq10 hM hS => ?_)
  have hnd := nd_new hnd hns nq10
  have hns := ns_new hns q10 (zm_I G 30 (fun _ => 0))
  have h0 := zm_up_k (e := (zm_I G 30 (fun _ => 0))) (zm_neN h0 nq10) h0
  have kq1 := zm_up_k (e := (zm_I G 30 (fun _ => 0))) (zm_neN kq1 nq10) kq1
  have kq2 := zm_up_k (e := (zm_I G 30 (fun _ => 0))) (zm_neN kq2 nq10) kq2
  have kq3 := zm_up_k (e := (zm_I G 30 (fun _ => 0))) (zm_neN kq3 nq10) kq3
  have kq4 := zm_up_k (e := (zm_I G 30 (fun _ => 0))) (zm_neN kq4 nq10) kq4
  have kq5 := zm_up_k (e := (zm_I G 30 (fun _ => 0))) (zm_neN kq5 nq10) kq5
  have kq6 := zm_up_k (e := (zm_I G 30 (fun _ => 0))) (zm_neN kq6 nq10) kq6
  have kq7 := zm_up_k (e := (zm_I G 30 (fun _ => 0))) (zm_neN kq7 nq10) kq7
  have kq8 := zm_up_k (e := (zm_I G 30 (fun _ => 0))) (zm_neN kq8 nq10) kq8
  have kq9 := zm_up_k (e := (zm_I G 30 (fun _ => 0))) (zm_neN kq9 nq10) kq9
  have kq10 : zm_up Mx q10 (zm_I G 30 (fun _ => 0)) q10 = some (zm_I G 30 (fun _ => 0)) := zm_up_s
  generalize hMx : zm_up Mx q10 (zm_I G 30 (fun _ => 0)) = Mx at *
  clear hMx nq10
  refine zm_putF hx hb hts hown hnm hE hM hS h0 fp_X6_42_5 rfl rfl (Nat.le_of_ble_eq_true rfl) dX6_init_88 (fun H locs hM hS => ?_)
  have hM : zm_P G A (zm_up Mx a (.inr (5, [.int 0, .ref q1, .ref q2, .ref q3, .ref q4, .ref q5, .ref q6, .int (-1), .int 0, .ref q7, .ref q8, .ref q9, .ref q10, .long 0, .int 0, .int 0, .int 0]) : va_E)) H := hM
  have kq1 := zm_up_k (e := (.inr (5, [.int 0, .ref q1, .ref q2, .ref q3, .ref q4, .ref q5, .ref q6, .int (-1), .int 0, .ref q7, .ref q8, .ref q9, .ref q10, .long 0, .int 0, .int 0, .int 0]) : va_E)) (zm_ne kq1 h0 (by simp)) kq1
  have kq2 := zm_up_k (e := (.inr (5, [.int 0, .ref q1, .ref q2, .ref q3, .ref q4, .ref q5, .ref q6, .int (-1), .int 0, .ref q7, .ref q8, .ref q9, .ref q10, .long 0, .int 0, .int 0, .int 0]) : va_E)) (zm_ne kq2 h0 (by simp)) kq2
  have kq3 := zm_up_k (e := (.inr (5, [.int 0, .ref q1, .ref q2, .ref q3, .ref q4, .ref q5, .ref q6, .int (-1), .int 0, .ref q7, .ref q8, .ref q9, .ref q10, .long 0, .int 0, .int 0, .int 0]) : va_E)) (zm_ne kq3 h0 (by simp)) kq3
  have kq4 := zm_up_k (e := (.inr (5, [.int 0, .ref q1, .ref q2, .ref q3, .ref q4, .ref q5, .ref q6, .int (-1), .int 0, .ref q7, .ref q8, .ref q9, .ref q10, .long 0, .int 0, .int 0, .int 0]) : va_E)) (zm_ne kq4 h0 (by simp)) kq4
  have kq5 := zm_up_k (e := (.inr (5, [.int 0, .ref q1, .ref q2, .ref q3, .ref q4, .ref q5, .ref q6, .int (-1), .int 0, .ref q7, .ref q8, .ref q9, .ref q10, .long 0, .int 0, .int 0, .int 0]) : va_E)) (zm_ne kq5 h0 (by simp)) kq5
  have kq6 := zm_up_k (e := (.inr (5, [.int 0, .ref q1, .ref q2, .ref q3, .ref q4, .ref q5, .ref q6, .int (-1), .int 0, .ref q7, .ref q8, .ref q9, .ref q10, .long 0, .int 0, .int 0, .int 0]) : va_E)) (zm_ne kq6 h0 (by simp)) kq6
  have kq7 := zm_up_k (e := (.inr (5, [.int 0, .ref q1, .ref q2, .ref q3, .ref q4, .ref q5, .ref q6, .int (-1), .int 0, .ref q7, .ref q8, .ref q9, .ref q10, .long 0, .int 0, .int 0, .int 0]) : va_E)) (zm_ne kq7 h0 (by simp)) kq7
  have kq8 := zm_up_k (e := (.inr (5, [.int 0, .ref q1, .ref q2, .ref q3, .ref q4, .ref q5, .ref q6, .int (-1), .int 0, .ref q7, .ref q8, .ref q9, .ref q10, .long 0, .int 0, .int 0, .int 0]) : va_E)) (zm_ne kq8 h0 (by simp)) kq8
  have kq9 := zm_up_k (e := (.inr (5, [.int 0, .ref q1, .ref q2, .ref q3, .ref q4, .ref q5, .ref q6, .int (-1), .int 0, .ref q7, .ref q8, .ref q9, .ref q10, .long 0, .int 0, .int 0, .int 0]) : va_E)) (zm_ne kq9 h0 (by simp)) kq9
  have kq10 := zm_up_k (e := (.inr (5, [.int 0, .ref q1, .ref q2, .ref q3, .ref q4, .ref q5, .ref q6, .int (-1), .int 0, .ref q7, .ref q8, .ref q9, .ref q10, .long 0, .int 0, .int 0, .int 0]) : va_E)) (zm_ne kq10 h0 (by simp)) kq10
  have hns := ns_up hns a (.inr (5, [.int 0, .ref q1, .ref q2, .ref q3, .ref q4, .ref q5, .ref q6, .int (-1), .int 0, .ref q7, .ref q8, .ref q9, .ref q10, .long 0, .int 0, .int 0, .int 0]) : va_E)
  have h0 : zm_up Mx a (.inr (5, [.int 0, .ref q1, .ref q2, .ref q3, .ref q4, .ref q5, .ref q6, .int (-1), .int 0, .ref q7, .ref q8, .ref q9, .ref q10, .long 0, .int 0, .int 0, .int 0]) : va_E) a = some (.inr (5, [.int 0, .ref q1, .ref q2, .ref q3, .ref q4, .ref q5, .ref q6, .int (-1), .int 0, .ref q7, .ref q8, .ref q9, .ref q10, .long 0, .int 0, .int 0, .int 0]) : va_E) := zm_up_s
  generalize hMx : zm_up Mx a (.inr (5, [.int 0, .ref q1, .ref q2, .ref q3, .ref q4, .ref q5, .ref q6, .int (-1), .int 0, .ref q7, .ref q8, .ref q9, .ref q10, .long 0, .int 0, .int 0, .int 0]) : va_E) = Mx at *
  clear hMx
  refine lv_aload_n hx hb dX6_init_91 rfl (lv_at hl 0 rfl) ?_
  refine lv_iconst (v := (-1)) hx hb dX6_init_92 (by decide) ?_
  refine zm_put hx hb hts hown hE hM hS h0 fp_X6_45_5 rfl rfl (Nat.le_of_ble_eq_true rfl) dX6_init_93 (fun H locs hM hS => ?_)
  have hM : zm_P G A (zm_up Mx a (.inr (5, [.int 0, .ref q1, .ref q2, .ref q3, .ref q4, .ref q5, .ref q6, .int (-1), .int 0, .ref q7, .ref q8, .ref q9, .ref q10, .long 0, .int 0, .int (-1), .int 0]) : va_E)) H := hM
  have kq1 := zm_up_k (e := (.inr (5, [.int 0, .ref q1, .ref q2, .ref q3, .ref q4, .ref q5, .ref q6, .int (-1), .int 0, .ref q7, .ref q8, .ref q9, .ref q10, .long 0, .int 0, .int (-1), .int 0]) : va_E)) (zm_ne kq1 h0 (by simp)) kq1
  have kq2 := zm_up_k (e := (.inr (5, [.int 0, .ref q1, .ref q2, .ref q3, .ref q4, .ref q5, .ref q6, .int (-1), .int 0, .ref q7, .ref q8, .ref q9, .ref q10, .long 0, .int 0, .int (-1), .int 0]) : va_E)) (zm_ne kq2 h0 (by simp)) kq2
  have kq3 := zm_up_k (e := (.inr (5, [.int 0, .ref q1, .ref q2, .ref q3, .ref q4, .ref q5, .ref q6, .int (-1), .int 0, .ref q7, .ref q8, .ref q9, .ref q10, .long 0, .int 0, .int (-1), .int 0]) : va_E)) (zm_ne kq3 h0 (by simp)) kq3
  have kq4 := zm_up_k (e := (.inr (5, [.int 0, .ref q1, .ref q2, .ref q3, .ref q4, .ref q5, .ref q6, .int (-1), .int 0, .ref q7, .ref q8, .ref q9, .ref q10, .long 0, .int 0, .int (-1), .int 0]) : va_E)) (zm_ne kq4 h0 (by simp)) kq4
  have kq5 := zm_up_k (e := (.inr (5, [.int 0, .ref q1, .ref q2, .ref q3, .ref q4, .ref q5, .ref q6, .int (-1), .int 0, .ref q7, .ref q8, .ref q9, .ref q10, .long 0, .int 0, .int (-1), .int 0]) : va_E)) (zm_ne kq5 h0 (by simp)) kq5
  have kq6 := zm_up_k (e := (.inr (5, [.int 0, .ref q1, .ref q2, .ref q3, .ref q4, .ref q5, .ref q6, .int (-1), .int 0, .ref q7, .ref q8, .ref q9, .ref q10, .long 0, .int 0, .int (-1), .int 0]) : va_E)) (zm_ne kq6 h0 (by simp)) kq6
  have kq7 := zm_up_k (e := (.inr (5, [.int 0, .ref q1, .ref q2, .ref q3, .ref q4, .ref q5, .ref q6, .int (-1), .int 0, .ref q7, .ref q8, .ref q9, .ref q10, .long 0, .int 0, .int (-1), .int 0]) : va_E)) (zm_ne kq7 h0 (by simp)) kq7
  have kq8 := zm_up_k (e := (.inr (5, [.int 0, .ref q1, .ref q2, .ref q3, .ref q4, .ref q5, .ref q6, .int (-1), .int 0, .ref q7, .ref q8, .ref q9, .ref q10, .long 0, .int 0, .int (-1), .int 0]) : va_E)) (zm_ne kq8 h0 (by simp)) kq8
  have kq9 := zm_up_k (e := (.inr (5, [.int 0, .ref q1, .ref q2, .ref q3, .ref q4, .ref q5, .ref q6, .int (-1), .int 0, .ref q7, .ref q8, .ref q9, .ref q10, .long 0, .int 0, .int (-1), .int 0]) : va_E)) (zm_ne kq9 h0 (by simp)) kq9
  have kq10 := zm_up_k (e := (.inr (5, [.int 0, .ref q1, .ref q2, .ref q3, .ref q4, .ref q5, .ref q6, .int (-1), .int 0, .ref q7, .ref q8, .ref q9, .ref q10, .long 0, .int 0, .int (-1), .int 0]) : va_E)) (zm_ne kq10 h0 (by simp)) kq10
  have hns := ns_up hns a (.inr (5, [.int 0, .ref q1, .ref q2, .ref q3, .ref q4, .ref q5, .ref q6, .int (-1), .int 0, .ref q7, .ref q8, .ref q9, .ref q10, .long 0, .int 0, .int (-1), .int 0]) : va_E)
  have h0 : zm_up Mx a (.inr (5, [.int 0, .ref q1, .ref q2, .ref q3, .ref q4, .ref q5, .ref q6, .int (-1), .int 0, .ref q7, .ref q8, .ref q9, .ref q10, .long 0, .int 0, .int (-1), .int 0]) : va_E) a = some (.inr (5, [.int 0, .ref q1, .ref q2, .ref q3, .ref q4, .ref q5, .ref q6, .int (-1), .int 0, .ref q7, .ref q8, .ref q9, .ref q10, .long 0, .int 0, .int (-1), .int 0]) : va_E) := zm_up_s
  generalize hMx : zm_up Mx a (.inr (5, [.int 0, .ref q1, .ref q2, .ref q3, .ref q4, .ref q5, .ref q6, .int (-1), .int 0, .ref q7, .ref q8, .ref q9, .ref q10, .long 0, .int 0, .int (-1), .int 0]) : va_E) = Mx at *
  clear hMx
  refine lv_iconst (v := 0) hx hb dX6_init_96 (by decide) ?_
  refine lv_istore_n (lv' := [(1, .int 0), (0, .ref a)]) hx hb dX6_init_97 rfl hl (by decide) rfl (fun ls hl => ?_)
  have hinj := nd_inj hnd
  obtain ⟨q, hq⟩ : ∃ q : Nat → Nat, q = fun i => ([a, q1, q2, q3, q4, q5, q6, q7, q8, q9, q10] : List Nat).getD i 0 := ⟨_, rfl⟩
  have hZ : zRA G q (objR q s_0) (fun _ _ => 0) (fun _ => 0) Mx := by
    subst hq
    refine ⟨hinj, h0, fun k j1 j2 j3 => ?_, kq4⟩
    rcases (show k = 1 ∨ k = 2 ∨ k = 3 ∨ k = 5 ∨ k = 6 ∨ k = 7 ∨ k = 8 ∨ k = 9 ∨ k = 10 by omega) with rfl | rfl | rfl | rfl | rfl | rfl | rfl | rfl | rfl
    · exact kq1
    · exact kq2
    · exact kq3
    · exact kq5
    · exact kq6
    · exact kq7
    · exact kq8
    · exact kq9
    · exact kq10
  have hqa : q 0 = a := by rw [hq]; rfl
  have hq6 : q 6 = q6 := by rw [hq]; rfl
  rw [← hqa] at hl
  have loop : ∀ (n k : Nat), k ≤ 10 → 11 ≤ k + n → ∀ (ls : Array Slot) (f : Nat → Nat → Int32) (M : zm_M) (H : Heap) (locs : List Loc), zRA G q (objR q s_0) f (fun _ => 0) M → (∀ i, i < k → f 6 i = -1) → zm_P G A M H → va_S A s.heap H locs → lv_has ls 2 [(1, .int (nI k)), (0, .ref (q 0))] → W p l e (zm_rm 1 10 1280) s m [.ref a].toArray below meth c H locs 10 1280 (MQ below (zm_Q G (fun r M' => r = none ∧ ∃ q : Nat → Nat, q 0 = a ∧ RepR G q s_0 M') A) [.ref a].toArray s 10 1280 A) (F0 m 98 ls []) := by
    intro n
    induction n with
    | zero => intro k h1 h2; exact absurd h2 (by omega)
    | succ n ih =>
      intro k hk1 hk2 ls f M H locs hZ hf hM hS hl
      refine lv_iload_n hx hb dX6_init_98 rfl (lv_at hl 0 rfl) ?_
      refine lv_bipush (v := 10) hx hb dX6_init_99 (by decide) ?_
      refine lv_icmp_ge (tgt := 117) hx hb dX6_init_101 (by decide) (fun c101 => ?_) (fun c101 => ?_)
      · obtain rfl : k = 10 := by rw [show (10 : Int32) = nI 10 from rfl, nI_leI (by omega) (by omega)] at c101; omega
        refine zm_vret hx hb hr hlk hM hS ?_ ⟨Nat.le_refl _, Nat.le_refl _⟩ dX6_init_117
        exact ⟨rfl, q, hqa, f, fun _ => 0, hZ, fun j hj => absurd hj (Nat.not_lt_zero _), fun j i hj => absurd hj (Nat.not_lt_zero _), fun j i hj => absurd hj (Nat.not_lt_zero _), hf, fun c hc => absurd hc (Nat.not_lt_zero _)⟩
      · have hkk : k < 10 := by rw [show (10 : Int32) = nI 10 from rfl, nI_leI (by omega) (by omega)] at c101; omega
        refine lv_aload_n hx hb dX6_init_104 rfl (lv_at hl 1 rfl) ?_
        refine zm_get hx hb hts hown hE hM hZ.2.1 fl_X6_26_5 rfl dX6_init_105 ?_
        refine lv_iload_n hx hb dX6_init_108 rfl (lv_at hl 0 rfl) ?_
        refine lv_iconst (v := (-1)) hx hb dX6_init_109 (by decide) ?_
        refine zm_iast hx hb hE hM hS (hZ.ar 6) (vp_in_nI (show k < 10 by omega) (by decide)) dX6_init_110 (fun H locs hM hS => ?_)
        rw [nI_clamp (by omega)] at hM
        have hZ2 := hZ.arr 6 (upd (f 6) k (-1))
        have hf2 : ∀ i, i < k + 1 → va_up f 6 (upd (f 6) k (-1)) 6 i = -1 := sl_ext hf
        refine lv_iinc (v := nI (k + 1)) (lv' := [(1, .int (nI (k + 1))), (0, .ref (q 0))]) hx hb dX6_init_111 hl (k := 0) rfl (nI_1 k) (by decide) rfl (fun ls hl => ?_)
        refine lv_goto (tgt := 98) hx hb dX6_init_114 (by decide) ?_
        exact ih (k + 1) (by omega) (by omega) ls _ _ _ _ hZ2 hf2 hM hS (lv_sub hl [0, 1] rfl)
  exact loop 11 0 (by omega) (by omega) ls _ _ _ _ hZ (fun i hi => absurd hi (Nat.not_lt_zero _)) hM hS (lv_sub hl [0, 1] rfl)
