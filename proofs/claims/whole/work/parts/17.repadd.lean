/-! a prop more, a cue more -/
theorem zm_uu (M : zm_M) (a : Nat) (e e' : va_E) : zm_up (zm_up M a e) a e' = zm_up M a e' := by
  funext q
  by_cases h : q = a
  · subst h; rw [zm_up_s, zm_up_s]
  · rw [zm_up_n h, zm_up_n h, zm_up_n h]
abbrev addS (S : zS) (kk nn : Nat) : zS := ((s_np S + 1, s_nc S), (va_up (s_kd S) (s_np S) kk, va_up (s_sz S) (s_np S) nn, upd (s_wr S) (s_np S) 0), (va_up (s_nu S) (s_np S) (fun _ => 0), va_up (s_th S) (s_np S) (fun _ => none)), S.2.2.2)
abbrev addB (B : zB) (S : zS) (q qa : Nat) : zB := (B.1, va_up B.2.1 (s_np S) q, va_up B.2.2.1 (s_np S) qa, B.2.2.2)
theorem oA_add {B : zB} {S : zS} {q qa : Nat} {o : Option Nat} (ho : ∀ t, o = some t → t < s_np S) : oA (addB B S q qa) o = oA B o := by
  cases o with
  | none => rfl
  | some t => exact congrArg some (va_up_ne _ _ (by have := ho t rfl; omega))
theorem pcell_add {B : zB} {S : zS} {q qa kk nn j : Nat} (hj : j < s_np S) : pcell (addB B S q qa) (addS S kk nn) j = pcell B S j := by
  have e : j ≠ s_np S := by omega
  unfold pcell
  dsimp only [addB, addS, s_kd, s_sz, s_wr]
  simp only [va_up_ne _ _ e, pk_un e]
theorem many_add {S : zS} {kk nn j : Nat} (hj : j < s_np S) : many (addS S kk nn) j = many S j := by
  have e : j ≠ s_np S := by omega
  unfold many
  dsimp only [addS, s_kd, s_sz]
  simp only [va_up_ne _ _ e]
theorem RepC.add {G : zm_G} {B : zB} {S : zS} {M M' : zm_M} {f1 : Nat → Option Nat} {kk nn q qa : Nat} (h : RepC G B S M) (hI : zInv S) (e1 : ∀ j, j < s_np S → f1 j = some (B.2.1 j)) (hqa : isPc kk = false → M qa = none)
    (g0 : M' B.1.1 = some (.inr (4, objC (addB B S q qa) (addS S kk nn)))) (g1 : M' B.1.2.1 = some (zm_R G 50 (va_up f1 (s_np S) (some q)))) (gc : M' q = some (pcell (addB B S q qa) (addS S kk nn) (s_np S))) (ga : isRw kk = true → M' qa = some (zm_R G nn (fun _ => none))) (gn : kk < 4 → M' qa = some (zm_J G (if kk = 3 then 3 * nn else nn) (fun _ => 0)))
    (go : ∀ x e, M x = some e → x ≠ B.1.1 → x ≠ B.1.2.1 → M' x = some e) : RepC G (addB B S q qa) (addS S kk nn) M' := by
  obtain ⟨h0, ⟨f1', h1, x1⟩, ⟨f2, h2, x2⟩, ⟨f3, h3, x3⟩, h4, h5, h6, h7, h8⟩ := h
  refine ⟨g0, ⟨_, g1, fun j hj => ?_⟩, ⟨f2, go _ _ h2 (zm_ne h2 h0 (by simp)) (zm_ne h2 h1 (by simp)), fun i hi => ?_⟩, ⟨f3, go _ _ h3 (zm_ne h3 h0 (by simp)) (zm_ne h3 h1 (by simp)), x3⟩, fun c hc => go _ _ (h4 c hc) (zm_ne (h4 c hc) h0 (by simp)) (zm_ne (h4 c hc) h1 (by simp)), fun j hj => ?_, fun j hj hk => ?_, fun j hj hk => ?_, fun j k hj hk hpj hpk he => ?_⟩
  · have hj : j < s_np S + 1 := hj
    show va_up f1 (s_np S) (some q) j = some (va_up B.2.1 (s_np S) q j)
    by_cases e : j = s_np S
    · subst e; rw [va_up_self, va_up_self]
    · rw [va_up_ne _ _ e, va_up_ne _ _ e]; exact e1 j (by omega)
  · rw [x2 i hi]; exact (oA_add (fun t ht => hI.2.2.2.2.1 i t hi ht)).symm
  · have hj : j < s_np S + 1 := hj
    by_cases e : j = s_np S
    · subst e; show M' (va_up B.2.1 (s_np S) q (s_np S)) = _; rw [va_up_self]; exact gc
    · have hj' : j < s_np S := by omega
      rw [pcell_add hj']
      show M' (va_up B.2.1 (s_np S) q j) = _
      rw [va_up_ne _ _ e]
      exact go _ _ (h5 j hj') (zm_ne (h5 j hj') h0 (pcell_ne (by simp))) (zm_ne (h5 j hj') h1 pcell_nl)
  · have hj : j < s_np S + 1 := hj
    by_cases e : j = s_np S
    · subst e
      have hk : isRw kk = true := by
        have : isRw (va_up (s_kd S) (s_np S) kk (s_np S)) = true := hk
        rwa [va_up_self] at this
      refine ⟨fun _ => none, ?_, fun i _ => ?_⟩
      · show M' (va_up B.2.2.1 (s_np S) qa (s_np S)) = some (zm_R G (va_up (s_sz S) (s_np S) nn (s_np S)) _)
        rw [va_up_self, va_up_self]; exact ga hk
      · show none = oA _ (va_up (s_th S) (s_np S) (fun _ => none) (s_np S) i)
        rw [va_up_self]; rfl
    · have hj' : j < s_np S := by omega
      have hk : isRw (s_kd S j) = true := by
        have : isRw (va_up (s_kd S) (s_np S) kk j) = true := hk
        rwa [va_up_ne _ _ e] at this
      obtain ⟨g, y1, y2⟩ := h6 j hj' hk
      have h5j := hI.sz5 hj' (rw_pc hk)
      refine ⟨g, ?_, fun i hi => ?_⟩
      · show M' (va_up B.2.2.1 (s_np S) qa j) = some (zm_R G (va_up (s_sz S) (s_np S) nn j) g)
        rw [va_up_ne _ _ e, va_up_ne _ _ e]
        refine go _ _ y1 (zm_ne y1 h0 (by simp)) (zm_ne y1 h1 (fun z => ?_))
        injection z with z
        injection z with z1 z2
        injection z2 with z3 z4
        omega
      · have hi : i < s_sz S j := by
          have : i < va_up (s_sz S) (s_np S) nn j := hi
          rwa [va_up_ne _ _ e] at this
        show g i = oA _ (va_up (s_th S) (s_np S) (fun _ => none) j i)
        rw [va_up_ne _ _ e, y2 i hi]
        have h8j : 8 ≤ s_kd S j := by simp [isRw] at hk; omega
        exact (oA_add (fun t ht => (hI.2.2.2.1 j hj' h8j i t hi ht).1)).symm
  · have hj : j < s_np S + 1 := hj
    by_cases e : j = s_np S
    · subst e
      have hk : kk < 4 := by
        have : va_up (s_kd S) (s_np S) kk (s_np S) < 4 := hk
        rwa [va_up_self] at this
      refine ⟨fun _ => 0, ?_, fun i _ => ?_⟩
      · show M' (va_up B.2.2.1 (s_np S) qa (s_np S)) = some (zm_J G (if va_up (s_kd S) (s_np S) kk (s_np S) = 3 then 3 * va_up (s_sz S) (s_np S) nn (s_np S) else va_up (s_sz S) (s_np S) nn (s_np S)) _)
        rw [va_up_self, va_up_self, va_up_self]; exact gn hk
      · show 0 = va_up (s_nu S) (s_np S) (fun _ => 0) (s_np S) i
        rw [va_up_self]
    · have hj' : j < s_np S := by omega
      have hk : s_kd S j < 4 := by
        have : va_up (s_kd S) (s_np S) kk j < 4 := hk
        rwa [va_up_ne _ _ e] at this
      obtain ⟨g, y1, y2⟩ := h7 j hj' hk
      refine ⟨g, ?_, fun i hi => ?_⟩
      · rw [many_add hj']
        show M' (va_up B.2.2.1 (s_np S) qa j) = _
        rw [va_up_ne _ _ e]
        exact go _ _ y1 (zm_ne y1 h0 (by simp)) (zm_ne y1 h1 (by simp))
      · rw [many_add hj'] at hi
        show g i = va_up (s_nu S) (s_np S) (fun _ => 0) j i
        rw [va_up_ne _ _ e]
        exact y2 i hi
  · have hj : j < s_np S + 1 := hj
    have hk : k < s_np S + 1 := hk
    have hpj : isPc (va_up (s_kd S) (s_np S) kk j) = false := hpj
    have hpk : isPc (va_up (s_kd S) (s_np S) kk k) = false := hpk
    have he : va_up B.2.2.1 (s_np S) qa j = va_up B.2.2.1 (s_np S) qa k := he
    have old : ∀ a, a < s_np S → isPc (s_kd S a) = false → isPc kk = false → B.2.2.1 a ≠ qa := by
      intro a ha hp hkk
      have hka := (hI.2.2.1 a ha).1
      by_cases h4' : s_kd S a < 4
      · obtain ⟨g, y1, -⟩ := h7 a ha h4'
        exact zm_neN y1 (hqa hkk)
      · obtain ⟨g, y1, -⟩ := h6 a ha (by simp only [isRw, isPc, Bool.and_eq_true, decide_eq_true_eq, Bool.and_eq_false_iff, decide_eq_false_iff_not] at *; omega)
        exact zm_neN y1 (hqa hkk)
    by_cases ej : j = s_np S
    · by_cases ek : k = s_np S
      · rw [ej, ek]
      · subst ej
        rw [va_up_self] at he hpj
        rw [va_up_ne _ _ ek] at he hpk
        exact absurd he.symm (old k (by omega) hpk hpj)
    · by_cases ek : k = s_np S
      · subst ek
        rw [va_up_self] at he hpk
        rw [va_up_ne _ _ ej] at he hpj
        exact absurd he (old j (by omega) hpj hpk)
      · rw [va_up_ne _ _ ej] at he hpj
        rw [va_up_ne _ _ ek] at he hpk
        exact h8 j k (by omega) (by omega) hpj hpk he
abbrev addCB (B : zB) (S : zS) (q : Nat) : zB := (B.1, B.2.1, B.2.2.1, va_up B.2.2.2 (s_nc S) q)
theorem RepC.addC {G : zm_G} {B : zB} {S : zS} {M M' : zm_M} {f3 : Nat → Option Nat} {q : Nat} {t : Nat × Nat × Nat × Nat} (h : RepC G B S M) (hI : zInv S) (e3 : ∀ c, c < s_nc S → f3 c = some (B.2.2.2 c))
    (g0 : M' B.1.1 = some (.inr (4, objC (addCB B S q) (w_cu S (s_nc S + 1) (va_up (s_cu S) (s_nc S) t))))) (g1 : M' B.1.2.2.2 = some (zm_C G 30 (va_up f3 (s_nc S) (some q)))) (gc : M' q = some (.inr (0, [.int (nI t.1), .int (nI t.2.1), .int (nI t.2.2.1), .int (nI t.2.2.2)])))
    (go : ∀ x e, M x = some e → x ≠ B.1.1 → x ≠ B.1.2.2.2 → M' x = some e) : RepC G (addCB B S q) (w_cu S (s_nc S + 1) (va_up (s_cu S) (s_nc S) t)) M' := by
  obtain ⟨h0, ⟨f1, h1, x1⟩, ⟨f2, h2, x2⟩, ⟨f3', h3, x3⟩, h4, h5, h6, h7, h8⟩ := h
  refine ⟨g0, ⟨f1, go _ _ h1 (zm_ne h1 h0 (by simp)) (zm_ne h1 h3 (by simp)), x1⟩, ⟨f2, go _ _ h2 (zm_ne h2 h0 (by simp)) (zm_ne h2 h3 (by simp)), x2⟩, ⟨_, g1, fun c hc => ?_⟩, fun c hc => ?_, fun j hj => go _ _ (h5 j hj) (zm_ne (h5 j hj) h0 (pcell_ne (by simp))) (zm_ne (h5 j hj) h3 pcell_nl), fun j hj hk => ?_, fun j hj hk => ?_, h8⟩
  · have hc : c < s_nc S + 1 := hc
    show va_up f3 (s_nc S) (some q) c = some (va_up B.2.2.2 (s_nc S) q c)
    by_cases e : c = s_nc S
    · subst e; rw [va_up_self, va_up_self]
    · rw [va_up_ne _ _ e, va_up_ne _ _ e]; exact e3 c (by omega)
  · have hc : c < s_nc S + 1 := hc
    by_cases e : c = s_nc S
    · subst e
      show M' (va_up B.2.2.2 (s_nc S) q (s_nc S)) = some (.inr (0, [.int (nI (va_up (s_cu S) (s_nc S) t (s_nc S)).1), .int (nI (va_up (s_cu S) (s_nc S) t (s_nc S)).2.1), .int (nI (va_up (s_cu S) (s_nc S) t (s_nc S)).2.2.1), .int (nI (va_up (s_cu S) (s_nc S) t (s_nc S)).2.2.2)]))
      rw [va_up_self, va_up_self]; exact gc
    · have hc' : c < s_nc S := by omega
      show M' (va_up B.2.2.2 (s_nc S) q c) = some (.inr (0, [.int (nI (va_up (s_cu S) (s_nc S) t c).1), .int (nI (va_up (s_cu S) (s_nc S) t c).2.1), .int (nI (va_up (s_cu S) (s_nc S) t c).2.2.1), .int (nI (va_up (s_cu S) (s_nc S) t c).2.2.2)]))
      rw [va_up_ne _ _ e, va_up_ne _ _ e]
      exact go _ _ (h4 c hc') (zm_ne (h4 c hc') h0 (by simp)) (zm_ne (h4 c hc') h3 (by simp))
  · obtain ⟨g, y1, y2⟩ := h6 j hj hk
    have h5j := hI.sz5 hj (rw_pc hk)
    refine ⟨g, go _ _ y1 (zm_ne y1 h0 (by simp)) (zm_ne y1 h3 (fun z => ?_)), y2⟩
    injection z with z
    injection z with z1 z2
    injection z2 with z3 z4
    omega
  · obtain ⟨g, y1, y2⟩ := h7 j hj hk
    exact ⟨g, go _ _ y1 (zm_ne y1 h0 (by simp)) (zm_ne y1 h3 (by simp)), y2⟩
theorem play_bad {S : zS} {a b : Int32} (hI : zInv S) (h : a < 0 ∨ b < a ∨ nI (s_nc S) ≤ b) : sp_play S a b = (-2, S) := by
  have hn := hI.2.1
  unfold sp_play
  rcases h with h | h | h
  · rw [ix_lt h]
  · cases ha : ix (s_nc S) a with
    | none => rfl
    | some x =>
      cases hb : ix (s_nc S) b with
      | none => rfl
      | some y =>
        obtain ⟨h1, rfl⟩ := ix_some (by omega) ha
        obtain ⟨h2, rfl⟩ := ix_some (by omega) hb
        rw [nI_ltI (by omega) (by omega)] at h
        show (if x ≤ y then _ else _) = _
        rw [if_neg (by omega)]
  · rw [ix_ge h]
    cases ix (s_nc S) a <;> rfl
theorem play_ok {S : zS} {a b : Int32} (hI : zInv S) (h1 : ¬ a < 0) (h2 : ¬ b < a) (h3 : b < nI (s_nc S)) : ∃ x y, a = nI x ∧ b = nI y ∧ x ≤ y ∧ y < s_nc S ∧ sp_play S a b = (nI (pls (y + 1 - x) x (w_ms S 0 (-1) (s_of S))).1, (pls (y + 1 - x) x (w_ms S 0 (-1) (s_of S))).2) := by
  have hn := hI.2.1
  have hb0 : ¬ b < 0 := by
    intro q
    rw [Int32.lt_iff_toInt_lt] at *
    simp at h1 q
    omega
  obtain ⟨y, hy, rfl, hiy⟩ := ix_in (n := s_nc S) (by omega) hb0 (by rw [Int32.not_le]; exact h3)
  have ha : ¬ nI (s_nc S) ≤ a := by
    intro q
    rw [Int32.le_iff_toInt_le] at q
    rw [Int32.lt_iff_toInt_lt] at h2 h3
    omega
  obtain ⟨x, hx, rfl, hix⟩ := ix_in (n := s_nc S) (by omega) h1 ha
  rw [nI_ltI (by omega) (by omega)] at h2
  refine ⟨x, y, rfl, rfl, by omega, hy, ?_⟩
  unfold sp_play
  rw [hix, hiy]
  show (if x ≤ y then _ else _) = _
  rw [if_pos (by omega)]
theorem pls_s {n c : Nat} {S : zS} (h : (stp S c).1 = 0) : pls (n + 1) c S = ((pls n (c + 1) (stp S c).2).1 + 1, (pls n (c + 1) (stp S c).2).2) := by rw [pls, if_pos h]
theorem pls_f {n c : Nat} {S : zS} (h : ¬ (stp S c).1 = 0) : pls (n + 1) c S = (0, w_ms S (stp S c).1 (nI c) (s_of S + 1)) := by rw [pls, if_neg h]
