/-! what holds of every state is kept -/
theorem zInv.hd {S : zS} (h : zInv S) {o : Option Nat} (ho : ∀ t, o = some t → t < s_np S) : zInv (w_hd S o) := ⟨h.1, h.2.1, h.2.2.1, h.2.2.2.1, h.2.2.2.2.1, ho, h.2.2.2.2.2.2⟩
theorem zInv.sl {S : zS} (h : zInv S) (i : Nat) {o : Option Nat} (ho : ∀ t, o = some t → t < s_np S) : zInv (w_sl S (va_up (s_sl S) i o)) := by
  refine ⟨h.1, h.2.1, h.2.2.1, h.2.2.2.1, fun a t ha ht => ?_, h.2.2.2.2.2.1, h.2.2.2.2.2.2⟩
  by_cases hq : a = i
  · subst hq
    exact ho t (by rw [← ht]; exact (va_up_self _ _ _).symm)
  · exact h.2.2.2.2.1 a t ha (by rw [← ht]; exact (va_up_ne _ _ hq).symm)
theorem zInv.th {S : zS} (h : zInv S) (j i : Nat) {o : Option Nat} (ho : ∀ t, o = some t → t < s_np S ∧ gA (s_kd S t) (inn (s_kd S j)) = true) : zInv (w_th S (up2 (s_th S) j i o)) := by
  refine ⟨h.1, h.2.1, h.2.2.1, fun a ha ha8 b t hb ht => ?_, h.2.2.2.2.1, h.2.2.2.2.2.1, h.2.2.2.2.2.2⟩
  have hu : up2 (s_th S) j i o a b = some t := ht
  unfold up2 at hu
  split at hu
  · rename_i hq
    obtain ⟨rfl, rfl⟩ := hq
    exact ho t hu
  · exact h.2.2.2.1 a ha ha8 b t hb hu
theorem zInv.wr {S : zS} (h : zInv S) (w : Nat → Int32) : zInv (w_wr S w) := h
theorem zInv.nu {S : zS} (h : zInv S) (w : Nat → Nat → Int64) : zInv (w_nu S w) := h
theorem zInv.po {S : zS} (h : zInv S) (w : Int64) : zInv (w_po S w) := h
theorem zInv.ms {S : zS} (h : zInv S) (x y z : Int32) : zInv (w_ms S x y z) := h
theorem zInv.nc {S : zS} (h : zInv S) : zInv (w_nc S 0) := ⟨h.1, Nat.zero_le _, h.2.2.1, h.2.2.2.1, h.2.2.2.2.1, h.2.2.2.2.2.1, fun c hc => absurd hc (Nat.not_lt_zero _)⟩
theorem gA_row : ∀ k, k < 16 → ∀ v, 8 ≤ v → v ≤ 15 → gA k v = true → 8 ≤ k := by
  intro k hk v h1 h2
  have : ∀ k, k < 16 → ∀ v, v < 16 → 8 ≤ v → gA k v = true → 8 ≤ k := by decide
  exact this k hk v (by omega) h1
/-- what a cue keeps -/
theorem stp_inv {S : zS} (h : zInv S) {c : Nat} (hc : c < s_nc S) : zInv (stp S c).2 ∧ s_nc (stp S c).2 = s_nc S ∧ s_cu (stp S c).2 = s_cu S ∧ s_np (stp S c).2 = s_np S ∧ s_of (stp S c).2 = s_of S ∧ ((stp S c).1 ≠ 0 → (stp S c).2 = S) := by
  obtain ⟨c1, c2, c3, c4, c5⟩ := h.2.2.2.2.2.2 c hc
  have hso : ∀ t, s_sl S (s_cu S c).2.1 = some t → t < s_np S := fun t ht => h.2.2.2.2.1 _ t c2 ht
  unfold stp
  split
  · exact ⟨h, rfl, rfl, rfl, rfl, fun _ => rfl⟩
  · rename_i hg
    split
    · split
      · exact ⟨h, rfl, rfl, rfl, rfl, fun _ => rfl⟩
      · exact ⟨h.po _, rfl, rfl, rfl, rfl, fun q => absurd rfl q⟩
    · split
      · exact ⟨h, rfl, rfl, rfl, rfl, fun _ => rfl⟩
      · exact ⟨h.wr _, rfl, rfl, rfl, rfl, fun q => absurd rfl q⟩
    · rename_i ha
      split
      · exact ⟨h, rfl, rfl, rfl, rfl, fun _ => rfl⟩
      · rename_i j hj
        split
        · rename_i hi
          have hjn := hso j hj
          have h8 : 8 ≤ s_kd S j := by
            rw [hj] at hg
            have hg : gA (s_kd S j) (s_cu S c).2.2.1 = true := by simpa [goS] using hg
            rw [ha] at c5
            simp [hasV] at c5
            exact gA_row _ (h.2.2.1 j hjn).1 _ c5.1 c5.2 hg
          exact ⟨(h.hd (fun t ht => (h.2.2.2.1 j hjn h8 _ t hi ht).1)).th j _ (fun t ht => by cases ht), rfl, rfl, rfl, rfl, fun q => absurd rfl q⟩
        · exact ⟨h, rfl, rfl, rfl, rfl, fun _ => rfl⟩
    · split
      · exact ⟨h, rfl, rfl, rfl, rfl, fun _ => rfl⟩
      · split
        · exact ⟨h, rfl, rfl, rfl, rfl, fun _ => rfl⟩
        · rename_i j hj
          split
          · split
            · exact ⟨h, rfl, rfl, rfl, rfl, fun _ => rfl⟩
            · rename_i hk
              refine ⟨(h.hd (o := none) (fun t ht => by cases ht)).th j _ (o := s_hd S) (fun t ht => ⟨h.2.2.2.2.2.1 t ht, ?_⟩), rfl, rfl, rfl, rfl, fun q => absurd rfl q⟩
              rw [ht] at hk
              show gA (s_kd S t) (inn (s_kd S j)) = true
              simpa [goS] using hk
          · exact ⟨h, rfl, rfl, rfl, rfl, fun _ => rfl⟩
    · exact ⟨(h.sl _ (o := s_hd S) h.2.2.2.2.2.1).hd hso, rfl, rfl, rfl, rfl, fun q => absurd rfl q⟩
    · exact ⟨h.sl _ hso, rfl, rfl, rfl, rfl, fun q => absurd rfl q⟩
theorem pls_inv : ∀ (n c : Nat) {S : zS}, zInv S → c + n ≤ s_nc S → zInv (pls n c S).2
  | 0, _, _, h, _ => h
  | n + 1, c, S, h, hc => by
    obtain ⟨g1, g2, -⟩ := stp_inv h (c := c) (by omega)
    unfold pls
    split
    · exact pls_inv n (c + 1) g1 (by rw [g2]; omega)
    · exact h.ms _ _ _
theorem sp_play_inv {S : zS} (h : zInv S) (a b : Int32) : zInv (sp_play S a b).2 := by
  unfold sp_play
  split
  · rename_i x y hx hy
    split
    · have hn := h.2.1
      obtain ⟨h1, -⟩ := ix_some (by omega) hx
      obtain ⟨h2, -⟩ := ix_some (by omega) hy
      refine pls_inv _ _ (h.ms _ _ _) ?_
      show x + (y + 1 - x) ≤ s_nc S
      omega
    · exact h
  · exact h
theorem sp_slot_inv {S : zS} (h : zInv S) (x p : Int32) : zInv (sp_slot S x p).2 := by
  unfold sp_slot
  split
  · rename_i j o hj ho
    refine h.sl j (fun t ht => ?_)
    subst ht
    unfold px at ho
    split at ho
    · cases ho
    · cases hp : ix (s_np S) p with
      | none => rw [hp] at ho; cases ho
      | some k =>
        rw [hp] at ho
        cases ho
        have hn := h.1
        exact (ix_some (by omega) hp).1
  · exact h
theorem sp_set_inv {S : zS} (h : zInv S) (p i v : Int32) : zInv (sp_set S p i v).2 := by
  unfold sp_set
  split
  · exact h
  · split
    · exact h
    · split
      · exact h
      · exact h.nu _
theorem sp_cue_inv {S : zS} (h : zInv S) (a x v i : Int32) : zInv (sp_cue S a x v i).2 := by
  unfold sp_cue
  split
  · rename_i aa xx vv ii ha hx hv hi
    split
    · exact h
    · split
      · exact h
      · rename_i hh hn
        have hnc := h.2.1
        refine ⟨h.1, ?_, h.2.2.1, h.2.2.2.1, h.2.2.2.2.1, h.2.2.2.2.2.1, fun c hc => ?_⟩
        · show s_nc S + 1 ≤ 30
          omega
        · have hc : c < s_nc S + 1 := hc
          show (va_up (s_cu S) (s_nc S) (aa, xx, vv, ii) c).1 < 6 ∧ _
          by_cases hq : c = s_nc S
          · subst hq
            rw [show s_cu (w_cu S (s_nc S + 1) (va_up (s_cu S) (s_nc S) (aa, xx, vv, ii))) (s_nc S) = (aa, xx, vv, ii) from va_up_self _ _ _, va_up_self]
            exact ⟨(ix_some (by decide) ha).1, (ix_some (by decide) hx).1, (ix_some (by decide) hv).1, (ix_some (by decide) hi).1, by simpa using hh⟩
          · rw [show s_cu (w_cu S (s_nc S + 1) (va_up (s_cu S) (s_nc S) (aa, xx, vv, ii))) c = s_cu S c from va_up_ne _ _ hq, va_up_ne _ _ hq]
            exact h.2.2.2.2.2.2 c (by omega)
  · exact h
theorem sp_prop_inv {S : zS} (h : zInv S) (k n : Int32) : zInv (sp_prop S k n).2 := by
  unfold sp_prop
  split
  · exact h
  · rename_i kk hk
    split
    · exact h
    · rename_i nn hn
      split
      · exact h
      · rename_i hnp
        obtain ⟨hk1, -⟩ := ix_some (by decide) hk
        obtain ⟨hn1, -⟩ := ix_some (by split <;> decide) hn
        have h50 := h.1
        refine ⟨?_, h.2.1, fun j hj => ?_, fun j hj h8 i t hi ht => ?_, fun i t hi ht => Nat.lt_succ_of_lt (h.2.2.2.2.1 i t hi ht), fun t ht => Nat.lt_succ_of_lt (h.2.2.2.2.2.1 t ht), h.2.2.2.2.2.2⟩
        · show s_np S + 1 ≤ 50
          omega
        · have hj : j < s_np S + 1 := hj
          show va_up (s_kd S) (s_np S) kk j < 16 ∧ va_up (s_sz S) (s_np S) nn j ≤ 100 ∧ (isPc (va_up (s_kd S) (s_np S) kk j) = false → va_up (s_sz S) (s_np S) nn j ≤ 5)
          by_cases hq : j = s_np S
          · subst hq
            rw [va_up_self, va_up_self]
            refine ⟨hk1, ?_, fun hp => ?_⟩
            · split at hn1 <;> omega
            · rw [if_neg (by rw [hp]; decide)] at hn1
              omega
          · rw [va_up_ne _ _ hq, va_up_ne _ _ hq]
            exact h.2.2.1 j (by omega)
        · have hj : j < s_np S + 1 := hj
          have ht : va_up (s_th S) (s_np S) (fun _ => none) j i = some t := ht
          have hi : i < va_up (s_sz S) (s_np S) nn j := hi
          have h8 : 8 ≤ va_up (s_kd S) (s_np S) kk j := h8
          show t < s_np S + 1 ∧ gA (va_up (s_kd S) (s_np S) kk t) (inn (va_up (s_kd S) (s_np S) kk j)) = true
          by_cases hq : j = s_np S
          · subst hq
            rw [va_up_self] at ht
            cases ht
          · rw [va_up_ne _ _ hq] at ht hi h8 ⊢
            obtain ⟨g1, g2⟩ := h.2.2.2.1 j (by omega) h8 i t hi ht
            rw [va_up_ne _ _ (by omega : t ≠ s_np S)]
            exact ⟨by omega, g2⟩
theorem s_0_inv : zInv s_0 := ⟨by decide, by decide, fun j hj => absurd hj (Nat.not_lt_zero _), fun j hj => absurd hj (Nat.not_lt_zero _), fun i t hi ht => (by cases ht), fun t ht => (by cases ht), fun c hc => absurd hc (Nat.not_lt_zero _)⟩
