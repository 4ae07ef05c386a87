/-! what a write does to the reference's picture -/
theorem zbt_c {y : Int32} {n : Nat} {x : Int32} (hn : n < 2 ^ 31) (hz : y.toInt + 1 = (nI n).toInt) : zbt 0 y x = (ix n x).isSome := by
  unfold zbt
  by_cases h : x < 0
  · rw [ix_lt h]; simp [h]
  · by_cases h2 : nI n ≤ x
    · rw [ix_ge h2]; simp [(lt_pred hz).mpr h2]
    · obtain ⟨j, -, -, e⟩ := ix_in hn h h2
      rw [e, decide_eq_true h, decide_eq_true ((le_pred hz).mpr h2)]; rfl
theorem pred_toInt {n : Nat} (hn : n < 1000) : (nI n - 1).toInt + 1 = (nI n).toInt := by
  have := pk_sub_toInt (a := n) (b := 1) (by omega) (by omega)
  rw [show (nI n - 1) = nI n - nI 1 from rfl, this, nI_toInt (by omega)]
  omega
theorem zbt_np {n : Nat} {x : Int32} (hn : n < 1000) : zbt 0 (nI n - 1) x = (ix n x).isSome := zbt_c (by omega) (pred_toInt hn)
theorem zbt_v {x : Int32} : zbt 0 16 x = (ix 17 x).isSome := zbt_c (by decide) (by decide)
theorem zbt_s {x : Int32} : zbt 0 9 x = (ix 10 x).isSome := zbt_c (by decide) (by decide)
theorem zbt_k {x : Int32} : zbt 0 15 x = (ix 16 x).isSome := zbt_c (by decide) (by decide)
theorem zbt_a {x : Int32} : zbt 0 5 x = (ix 6 x).isSome := zbt_c (by decide) (by decide)
theorem idx5 (j i : Nat) : (5 : Int32) * nI j + nI i = nI (5 * j + i) := by rw [show (5 : Int32) = nI 5 from rfl, pk_mul, nI_add]
theorem idx15 (j i : Nat) : (15 : Int32) * nI j + nI i = nI (15 * j + i) := by rw [show (15 : Int32) = nI 15 from rfl, pk_mul, nI_add]
theorem abs_wr {S : zS} {f : Nat → Nat → Int32} {g : Nat → Int64} (h : zAbs S f g) (t : Nat) (v : Int32) : zAbs (w_wr S (upd (s_wr S) t v)) (va_up f 3 (upd (f 3) t v)) g := by
  obtain ⟨h1, h2, h3, h4, h5⟩ := h
  refine ⟨fun j hj => ⟨(h1 j hj).1, (h1 j hj).2.1, ?_⟩, h2, h3, h4, h5⟩
  show upd (f 3) t v j = upd (s_wr S) t v j
  by_cases e : j = t
  · subst e; rw [pk_us, pk_us]
  · rw [pk_un e, pk_un e]; exact (h1 j hj).2.2
theorem abs_th {S : zS} {f : Nat → Nat → Int32} {g : Nat → Int64} (h : zAbs S f g) (j i : Nat) (o : Option Nat) (hi : i < 5) : zAbs (w_th S (up2 (s_th S) j i o)) (va_up f 5 (upd (f 5) (5 * j + i) (oI o))) g := by
  obtain ⟨h1, h2, h3, h4, h5⟩ := h
  refine ⟨h1, h2, fun a b ha hb => ?_, h4, h5⟩
  show upd (f 5) (5 * j + i) (oI o) (5 * a + b) = oI (up2 (s_th S) j i o a b)
  unfold up2
  by_cases e : a = j ∧ b = i
  · obtain ⟨rfl, rfl⟩ := e; rw [pk_us, if_pos ⟨rfl, rfl⟩]
  · rw [pk_un (by omega), if_neg e]; exact h3 a b ha hb
theorem abs_sl {S : zS} {f : Nat → Nat → Int32} {g : Nat → Int64} (h : zAbs S f g) (i : Nat) (o : Option Nat) : zAbs (w_sl S (va_up (s_sl S) i o)) (va_up f 6 (upd (f 6) i (oI o))) g := by
  obtain ⟨h1, h2, h3, h4, h5⟩ := h
  refine ⟨h1, h2, h3, fun a ha => ?_, h5⟩
  show upd (f 6) i (oI o) a = oI (va_up (s_sl S) i o a)
  by_cases e : a = i
  · subst e; rw [pk_us, va_up_self]
  · rw [pk_un e, va_up_ne _ _ e]; exact h4 a ha
theorem abs_nu {S : zS} {f : Nat → Nat → Int32} {g : Nat → Int64} (h : zAbs S f g) (j i : Nat) (v : Int64) (hi : i < 15) : zAbs (w_nu S (up2 (s_nu S) j i v)) f (vp_updL g (15 * j + i) v) := by
  obtain ⟨h1, h2, h3, h4, h5⟩ := h
  refine ⟨h1, fun a b ha hb => ?_, h3, h4, h5⟩
  show vp_updL g (15 * j + i) v (15 * a + b) = up2 (s_nu S) j i v a b
  unfold up2
  by_cases e : a = j ∧ b = i
  · obtain ⟨rfl, rfl⟩ := e; rw [pk_uLs, if_pos ⟨rfl, rfl⟩]
  · rw [pk_uLn (by omega), if_neg e]; exact h2 a b ha hb
theorem abs_nc {S : zS} {f : Nat → Nat → Int32} {g : Nat → Int64} (h : zAbs S f g) : zAbs (w_nc S 0) f g := ⟨h.1, h.2.1, h.2.2.1, h.2.2.2.1, fun c hc => absurd hc (Nat.not_lt_zero _)⟩
theorem abs_cu {S : zS} {f : Nat → Nat → Int32} {g : Nat → Int64} (h : zAbs S f g) (a x v i : Nat) : zAbs (w_cu S (s_nc S + 1) (va_up (s_cu S) (s_nc S) (a, x, v, i))) (va_up (va_up (va_up (va_up f 7 (upd (f 7) (s_nc S) (nI a))) 8 (upd (f 8) (s_nc S) (nI x))) 9 (upd (f 9) (s_nc S) (nI v))) 10 (upd (f 10) (s_nc S) (nI i))) g := by
  obtain ⟨h1, h2, h3, h4, h5⟩ := h
  refine ⟨h1, h2, h3, h4, fun c hc => ?_⟩
  have hc : c < s_nc S + 1 := hc
  show upd (f 7) (s_nc S) (nI a) c = nI (va_up (s_cu S) (s_nc S) (a, x, v, i) c).1 ∧ upd (f 8) (s_nc S) (nI x) c = nI (va_up (s_cu S) (s_nc S) (a, x, v, i) c).2.1 ∧ upd (f 9) (s_nc S) (nI v) c = nI (va_up (s_cu S) (s_nc S) (a, x, v, i) c).2.2.1 ∧ upd (f 10) (s_nc S) (nI i) c = nI (va_up (s_cu S) (s_nc S) (a, x, v, i) c).2.2.2
  by_cases e : c = s_nc S
  · subst e; rw [pk_us, pk_us, pk_us, pk_us, va_up_self]; exact ⟨rfl, rfl, rfl, rfl⟩
  · rw [pk_un e, pk_un e, pk_un e, pk_un e, va_up_ne _ _ e]; exact h5 c (by omega)
