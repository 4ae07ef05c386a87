/-! what a write does to the class's picture -/
theorem zInv.sz5 {S : zS} (h : zInv S) {j : Nat} (hj : j < s_np S) (hk : isPc (s_kd S j) = false) : s_sz S j ≤ 5 := (h.2.2.1 j hj).2.2 hk
theorem rw_pc {k : Nat} (h : isRw k = true) : isPc k = false := by
  simp only [isRw, isPc, Bool.and_eq_true, decide_eq_true_eq, Bool.and_eq_false_iff, decide_eq_false_iff_not] at *
  omega
theorem lt4_pc {k : Nat} (h : k < 4) : isPc k = false := by simp [isPc]; omega
theorem lt4_rw {k : Nat} (h : k < 4) : isRw k = false := by simp [isRw]; omega
theorem pc_rw {k : Nat} (h : isPc k = true) : isRw k = false := by
  simp only [isRw, isPc, Bool.and_eq_true, decide_eq_true_eq, Bool.and_eq_false_iff, decide_eq_false_iff_not] at *
  omega
theorem many15 {S : zS} (h : zInv S) {j : Nat} (hj : j < s_np S) (hk : s_kd S j < 4) : many S j ≤ 15 := by
  have := h.sz5 hj (lt4_pc hk)
  unfold many; split <;> omega
theorem pcell_cls (B : zB) (S : zS) (j : Nat) : ∃ ci fs, pcell B S j = .inr (ci, fs) ∧ (ci = 1 ∨ ci = 2 ∨ ci = 3) := by
  unfold pcell
  split
  · exact ⟨_, _, rfl, by simp⟩
  · split
    · exact ⟨_, _, rfl, by simp⟩
    · exact ⟨_, _, rfl, by simp⟩
theorem pcell_pc {B : zB} {S : zS} {j : Nat} (h : isPc (s_kd S j) = true) : pcell B S j = .inr (2, [.int (nI j), .int (nI (s_kd S j)), .int (nI (s_sz S j)), .int (s_wr S j)]) := by unfold pcell; rw [if_pos h]
theorem pcell_rw {B : zB} {S : zS} {j : Nat} (h : isRw (s_kd S j) = true) : pcell B S j = .inr (3, [.int (nI j), .int (nI (s_kd S j)), .ref (B.2.2.1 j)]) := by unfold pcell; rw [if_neg (by rw [rw_pc h]; decide), if_pos h]
theorem pcell_nu {B : zB} {S : zS} {j : Nat} (h : s_kd S j < 4) : pcell B S j = .inr (1, [.int (nI j), .int (nI (s_kd S j)), .ref (B.2.2.1 j)]) := by unfold pcell; rw [if_neg (by rw [lt4_pc h]; decide), if_neg (by rw [lt4_rw h]; decide)]
theorem pcell_ne {B : zB} {S : zS} {j ci : Nat} {fs : List Value} (h : ci = 0 ∨ ci = 4 ∨ ci = 5) : pcell B S j ≠ .inr (ci, fs) := by
  obtain ⟨c, g, e, hc⟩ := pcell_cls B S j
  rw [e]
  intro q
  injection q with q
  injection q with q1 q2
  omega
theorem pcell_nl {B : zB} {S : zS} {j : Nat} {x : ClassId × vp_A} : pcell B S j ≠ .inl x := by
  obtain ⟨c, g, e, hc⟩ := pcell_cls B S j
  rw [e]
  intro q
  cases q
theorem RepC.num {G : zm_G} {B : zB} {S : zS} {M : zm_M} (h : RepC G B S M) (hI : zInv S) {j i : Nat} {v : Int64} {f : Nat → Int64} (hj : j < s_np S) (hk : s_kd S j < 4) (hf : M (B.2.2.1 j) = some (zm_J G (many S j) f)) (hi : ∀ i, i < many S j → f i = s_nu S j i) : RepC G B (w_nu S (up2 (s_nu S) j i v)) (zm_up M (B.2.2.1 j) (zm_J G (many S j) (vp_updL f i v))) := by
  obtain ⟨h0, ⟨f1, h1, e1⟩, ⟨f2, h2, e2⟩, ⟨f3, h3, e3⟩, h4, h5, h6, h7, h8⟩ := h
  refine ⟨zm_up_k (zm_ne h0 hf (by simp)) h0, ⟨f1, zm_up_k (zm_ne h1 hf (by simp)) h1, e1⟩, ⟨f2, zm_up_k (zm_ne h2 hf (by simp)) h2, e2⟩, ⟨f3, zm_up_k (zm_ne h3 hf (by simp)) h3, e3⟩, fun c hc => zm_up_k (zm_ne (h4 c hc) hf (by simp)) (h4 c hc), fun k hk' => zm_up_k (zm_ne (h5 k hk') hf pcell_nl) (h5 k hk'), fun k hk1 hk2 => ?_, fun k hk1 hk2 => ?_, h8⟩
  · obtain ⟨g, g1, g2⟩ := h6 k hk1 hk2
    exact ⟨g, zm_up_k (zm_ne g1 hf (by simp)) g1, g2⟩
  · by_cases hkj : k = j
    · subst hkj
      refine ⟨_, zm_up_s, fun a ha => ?_⟩
      show vp_updL f i v a = up2 (s_nu S) k i v k a
      unfold vp_updL up2
      by_cases hq : a = i
      · simp [hq]
      · simp [hq]; exact hi a ha
    · obtain ⟨g, g1, g2⟩ := h7 k hk1 hk2
      refine ⟨g, zm_up_k (fun q => hkj (h8 k j hk1 hj (lt4_pc hk2) (lt4_pc hk) q)) g1, fun a ha => ?_⟩
      show g a = up2 (s_nu S) j i v k a
      unfold up2
      rw [if_neg (fun q => hkj q.1)]
      exact g2 a ha
theorem RepC.slot {G : zm_G} {B : zB} {S : zS} {M : zm_M} (h : RepC G B S M) (hI : zInv S) {i : Nat} {o : Option Nat} {f : Nat → Option Nat} (hf : M B.1.2.2.1 = some (zm_R G 10 f)) (he : ∀ i, i < 10 → f i = oA B (s_sl S i)) : RepC G B (w_sl S (va_up (s_sl S) i o)) (zm_up M B.1.2.2.1 (zm_R G 10 (va_up f i (oA B o)))) := by
  obtain ⟨h0, ⟨f1, h1, e1⟩, -, ⟨f3, h3, e3⟩, h4, h5, h6, h7, h8⟩ := h
  refine ⟨zm_up_k (zm_ne h0 hf (by simp)) h0, ⟨f1, zm_up_k (zm_ne h1 hf (by simp)) h1, e1⟩, ⟨_, zm_up_s, fun a ha => ?_⟩, ⟨f3, zm_up_k (zm_ne h3 hf (by simp)) h3, e3⟩, fun c hc => zm_up_k (zm_ne (h4 c hc) hf (by simp)) (h4 c hc), fun k hk' => zm_up_k (zm_ne (h5 k hk') hf pcell_nl) (h5 k hk'), fun k hk1 hk2 => ?_, fun k hk1 hk2 => ?_, h8⟩
  · show va_up f i (oA B o) a = oA B (va_up (s_sl S) i o a)
    by_cases hq : a = i
    · subst hq; rw [va_up_self, va_up_self]
    · rw [va_up_ne _ _ hq, va_up_ne _ _ hq]; exact he a ha
  · obtain ⟨g, g1, g2⟩ := h6 k hk1 hk2
    refine ⟨g, zm_up_k (zm_ne g1 hf (fun q => ?_)) g1, g2⟩
    have := hI.sz5 hk1 (rw_pc hk2)
    injection q with q
    injection q with q1 q2
    injection q2 with q3 q4
    omega
  · obtain ⟨g, g1, g2⟩ := h7 k hk1 hk2
    exact ⟨g, zm_up_k (zm_ne g1 hf (by simp)) g1, g2⟩
theorem RepC.place {G : zm_G} {B : zB} {S : zS} {M : zm_M} (h : RepC G B S M) (hI : zInv S) {j i : Nat} {o : Option Nat} {f : Nat → Option Nat} (hj : j < s_np S) (hk : isRw (s_kd S j) = true) (hf : M (B.2.2.1 j) = some (zm_R G (s_sz S j) f)) (hi : ∀ i, i < s_sz S j → f i = oA B (s_th S j i)) : RepC G B (w_th S (up2 (s_th S) j i o)) (zm_up M (B.2.2.1 j) (zm_R G (s_sz S j) (va_up f i (oA B o)))) := by
  have h5j := hI.sz5 hj (rw_pc hk)
  obtain ⟨h0, ⟨f1, h1, e1⟩, ⟨f2, h2, e2⟩, ⟨f3, h3, e3⟩, h4, h5, h6, h7, h8⟩ := h
  have len : ∀ {cA cB : ClassId} {n m : Nat} {x y : (Nat → Int32) ⊕ (Nat → Int64) ⊕ (Nat → UInt32) ⊕ (Nat → UInt64) ⊕ (Nat → Option Nat)}, n ≠ m → (Sum.inl (cA, n, x) : va_E) ≠ Sum.inl (cB, m, y) := by
    intro cA cB n m x y hn q
    injection q with q
    injection q with q1 q2
    injection q2 with q3 q4
    exact hn q3
  refine ⟨zm_up_k (zm_ne h0 hf (by simp)) h0, ⟨f1, zm_up_k (zm_ne h1 hf (len (by omega))) h1, e1⟩, ⟨f2, zm_up_k (zm_ne h2 hf (len (by omega))) h2, e2⟩, ⟨f3, zm_up_k (zm_ne h3 hf (len (by omega))) h3, e3⟩, fun c hc => zm_up_k (zm_ne (h4 c hc) hf (by simp)) (h4 c hc), fun k hk' => zm_up_k (zm_ne (h5 k hk') hf pcell_nl) (h5 k hk'), fun k hk1 hk2 => ?_, fun k hk1 hk2 => ?_, h8⟩
  · by_cases hkj : k = j
    · subst hkj
      refine ⟨_, zm_up_s, fun a ha => ?_⟩
      show va_up f i (oA B o) a = oA B (up2 (s_th S) k i o k a)
      unfold up2
      by_cases hq : a = i
      · subst hq; simp [va_up_self]
      · rw [va_up_ne _ _ hq, if_neg (fun q => hq q.2)]; exact hi a ha
    · obtain ⟨g, g1, g2⟩ := h6 k hk1 hk2
      refine ⟨g, zm_up_k (fun q => hkj (h8 k j hk1 hj (rw_pc hk2) (rw_pc hk) q)) g1, fun a ha => ?_⟩
      show g a = oA B (up2 (s_th S) j i o k a)
      unfold up2
      rw [if_neg (fun q => hkj q.1)]
      exact g2 a ha
  · obtain ⟨g, g1, g2⟩ := h7 k hk1 hk2
    exact ⟨g, zm_up_k (zm_ne g1 hf (by simp)) g1, g2⟩
theorem ad_inj {G : zm_G} {B : zB} {S : zS} {M : zm_M} (h : RepC G B S M) (hI : zInv S) {j k : Nat} (hj : j < s_np S) (hk : k < s_np S) (e : B.2.1 j = B.2.1 k) : j = k := by
  have h1 := h.2.2.2.2.2.1 j hj
  have h2 := h.2.2.2.2.2.1 k hk
  rw [e, h2] at h1
  have h3 := Option.some.inj h1
  have hn : nI k = nI j := by
    unfold pcell at h3
    split at h3 <;> split at h3 <;> (try split at h3) <;> (try split at h3) <;> simp at h3 <;> first | exact h3.1 | exact h3.1.symm
  have := hI.1
  exact ((nI_eq (by omega) (by omega)).mp hn).symm
theorem RepC.wear {G : zm_G} {B : zB} {S : zS} {M : zm_M} (h : RepC G B S M) (hI : zInv S) {j : Nat} {v : Int32} (hj : j < s_np S) (hk : isPc (s_kd S j) = true) : RepC G B (w_wr S (upd (s_wr S) j v)) (zm_up M (B.2.1 j) (.inr (2, [.int (nI j), .int (nI (s_kd S j)), .int (nI (s_sz S j)), .int v]))) := by
  have inj := fun {a b : Nat} (ha : a < s_np S) (hb : b < s_np S) => ad_inj h hI ha hb
  obtain ⟨h0, ⟨f1, h1, e1⟩, ⟨f2, h2, e2⟩, ⟨f3, h3, e3⟩, h4, h5, h6, h7, h8⟩ := h
  have hf := h5 j hj
  rw [pcell_pc hk] at hf
  refine ⟨zm_up_k (zm_ne h0 hf (by simp)) h0, ⟨f1, zm_up_k (zm_ne h1 hf (by simp)) h1, e1⟩, ⟨f2, zm_up_k (zm_ne h2 hf (by simp)) h2, e2⟩, ⟨f3, zm_up_k (zm_ne h3 hf (by simp)) h3, e3⟩, fun c hc => zm_up_k (zm_ne (h4 c hc) hf (by simp)) (h4 c hc), fun k hk' => ?_, fun k hk1 hk2 => ?_, fun k hk1 hk2 => ?_, h8⟩
  · by_cases hkj : k = j
    · subst hkj
      rw [zm_up_s, pcell_pc (S := w_wr S (upd (s_wr S) k v)) hk]
      simp
      exact pk_us.symm
    · rw [zm_up_n (fun q => hkj (inj hk' hj q)), h5 k hk']
      unfold pcell
      dsimp only [s_wr, w_wr, s_kd, s_sz]
      rw [pk_un hkj]
  · obtain ⟨g, g1, g2⟩ := h6 k hk1 hk2
    exact ⟨g, zm_up_k (zm_ne g1 hf (by simp)) g1, g2⟩
  · obtain ⟨g, g1, g2⟩ := h7 k hk1 hk2
    exact ⟨g, zm_up_k (zm_ne g1 hf (by simp)) g1, g2⟩
/-- the object's own fields -/
theorem RepC.fld {G : zm_G} {B : zB} {S S' : zS} {M : zm_M} (h : RepC G B S M) (e0 : S'.1.1 = S.1.1) (e1 : S'.2.1 = S.2.1) (e2 : S'.2.2.1 = S.2.2.1) (e3 : s_sl S' = s_sl S) (e4 : s_nc S' ≤ s_nc S) (e5 : s_cu S' = s_cu S) : RepC G B S' (zm_up M B.1.1 (.inr (4, objC B S'))) := by
  obtain ⟨h0, ⟨f1, h1, x1⟩, ⟨f2, h2, x2⟩, ⟨f3, h3, x3⟩, h4, h5, h6, h7, h8⟩ := h
  obtain ⟨⟨np, nc⟩, a, b, ⟨sl, hd⟩, cu, r⟩ := S
  obtain ⟨⟨np', nc'⟩, a', b', ⟨sl', hd'⟩, cu', r'⟩ := S'
  simp only at e0 e1 e2 e3 e4 e5
  subst e0; subst e1; subst e2; subst e3; subst e5
  refine ⟨zm_up_s, ⟨f1, zm_up_k (zm_ne h1 h0 (by simp)) h1, x1⟩, ⟨f2, zm_up_k (zm_ne h2 h0 (by simp)) h2, x2⟩, ⟨f3, zm_up_k (zm_ne h3 h0 (by simp)) h3, fun c hc => x3 c (Nat.lt_of_lt_of_le hc e4)⟩, fun c hc => zm_up_k (zm_ne (h4 c (Nat.lt_of_lt_of_le hc e4)) h0 (by simp)) (h4 c (Nat.lt_of_lt_of_le hc e4)), fun k hk' => zm_up_k (zm_ne (h5 k hk') h0 (pcell_ne (by simp))) (h5 k hk'), fun k hk1 hk2 => ?_, fun k hk1 hk2 => ?_, h8⟩
  · obtain ⟨g, g1, g2⟩ := h6 k hk1 hk2
    exact ⟨g, zm_up_k (zm_ne g1 h0 (by simp)) g1, g2⟩
  · obtain ⟨g, g1, g2⟩ := h7 k hk1 hk2
    exact ⟨g, zm_up_k (zm_ne g1 h0 (by simp)) g1, g2⟩
