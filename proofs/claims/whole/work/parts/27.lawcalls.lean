/-! the law: two worlds apart, its calls, its start -/
theorem zm_E.narrow {G : zm_G} {A B : Nat → Prop} {U : State} {H : Heap} (h : zm_E G A U H) (hAB : ∀ q, B q → A q) : zm_E G B U H :=
  ⟨h.1, h.2.1, h.2.2.1, h.2.2.2.1, fun k hk => ⟨(h.2.2.2.2 k hk).1.narrow hAB, (h.2.2.2.2 k hk).2.narrow hAB⟩⟩
def zl_A (M : zm_M) (n : Nat) : Nat → Prop := fun q => M q ≠ none ∨ n ≤ q
section ZLAW
variable {p : Program} {l : Launch} {e : Env} {R : Room} {s : State} {m : MethodId} {args : Array Value} {below : List Frame} {meth : Method} {c : Code} {H : Heap} {locs : List Loc} {cells slots : Nat} {Q : State → Prop}
variable {cc : ByteArray} {pc : Nat} {ls : Array Slot} {rest : List Value} {G : zm_G} {A : Nat → Prop} {M N : zm_M} {a : Nat} {own : String}
variable {post : Option Value → zm_M → Prop} {y : MethodName} {yb : ByteArray} {yl yn mc ms rf idx nL : Nat} {yr : Option FieldType} {As st0 : List Value}
theorem zl_sub (hM : zm_P G A M H) (hA : ∀ q : Nat, s.heap.size ≤ q → A q) (hS : va_S A s.heap H locs) : ∀ q, zl_A M H.size q → A q := by
  intro q hq
  rcases hq with hq | hq
  · cases he : M q with
    | none => exact absurd he hq
    | some e => exact (hM q e he).1
  · exact hA q (Nat.le_trans hS.1 hq)
theorem zl_pre (hE : zm_E G A s s.heap) (hA : ∀ q : Nat, s.heap.size ≤ q → A q) (hM : zm_P G A M H) (hS : va_S A s.heap H locs) (av : List Value) : PreS s H (zm_Pc G av (zl_A M H.size) M) av :=
  ⟨fun a U g mk q => by obtain ⟨q0, q1, q2, q3⟩ := q; exact ⟨q0, q1, q2, zm_E.same (U := U.calling g mk a) q3 rfl⟩, fun U hU hW => ⟨rfl, by rw [hU]; exact fun q e he => ⟨Or.inl (by rw [he]; exact fun z => by cases z), (hM q e he).2⟩, fun q hq => Or.inr (by rw [← hU]; exact hq), by rw [hU]; exact (hE.warm hW hS).narrow (zl_sub hM hA hS)⟩⟩
/-- behind a call on one world: the other one is as it was -/
theorem zl_go {av : Array Value} (hr : va_Run p l e R s m args below meth c H locs cells slots mc ms (F0 m pc ls st0) rest (zm_Q G post (zl_A M H.size) av) (zl_A M H.size)) (hA : ∀ q : Nat, s.heap.size ≤ q → A q) (hM : zm_P G A M H) (hN : zm_P G A N H) (hD : ∀ q, M q ≠ none → N q = none) (hS : va_S A s.heap H locs)
    (kk : ∀ (r : Option Value) (M' : zm_M) (H1 : Heap) (locs1 : List Loc), post r M' → zm_P G A M' H1 → zm_P G A N H1 → (∀ q, M' q ≠ none → N q = none) → va_S A s.heap H1 locs1 → W p l e R s m args below meth c H1 locs1 (cells + mc) (slots + ms) Q (F0 m (pc + 3) ls (r.toList ++ rest))) : W p l e R s m args below meth c H locs cells slots Q (F0 m pc ls st0) := by
  have hsub := zl_sub hM hA hS
  intro T hT X
  obtain ⟨v, st₀, t, T', L, h0, X', hL, e1, e2, ⟨⟨r, M', hv, hp, hb⟩, hz, hk⟩, st⟩ := hr T hT X
  cases hv
  rw [h0] at hz hk
  have hNk : ∀ q e, N q = some e → T'.heap[q]? = H[q]? := by
    intro q e he
    have hlt := hN.lt he
    rw [e1]
    refine hk q hlt (fun z => ?_)
    rcases z with z | z
    · have := hD q z; rw [he] at this; cases this
    · exact absurd hlt (Nat.not_lt.mpr z)
  obtain ⟨t2, a1, b1⟩ := kk v M' T'.heap (locs ++ L) hp (fun q e he => ⟨hsub q (hb q e he).1, by rw [e1]; exact (hb q e he).2⟩)
    (fun q e he => ⟨(hN q e he).1, (hN q e he).2.kept (hNk q e he)⟩)
    (fun q hq => by
      cases he : M' q with
      | none => exact absurd he hq
      | some e =>
        rcases (hb q e he).1 with z | z
        · exact hD q z
        · cases hn : N q with
          | none => rfl
          | some e' => exact absurd (hN.lt hn) (Nat.not_lt.mpr z))
    ⟨Nat.le_trans hS.1 (by rw [e1]; exact hz), fun q h1 h2 => by rw [e1, hk q (Nat.lt_of_lt_of_le h1 hS.1) (fun z => h2 (hsub q z))]; exact hS.2.1 q h1 h2, fun q hq => by
      rcases List.mem_append.mp hq with h | h
      · exact hS.2.2 q h
      · exact hsub _ (hL q h)⟩ T' rfl X'
  exact ⟨t2, st t2 a1, b1⟩
theorem zl_callV (hx : p.tables.exec = Jvm.exec) (hb : c.code = cc) (hml : c.maxLocals = nL) (hts : ∀ w ∈ wsL_law, w.before args s = true) (hown : s.vm.findClass own = some m.cls) (hE : zm_E G A s s.heap) (hA : ∀ q : Nat, s.heap.size ≤ q → A q) (hM : zm_P G A M H) (hN : zm_P G A N H) (hD : ∀ q, M q ≠ none → N q = none) (hS : va_S A s.heap H locs) {ci : Nat} {fs : List Value} {qq : vw_C} (he : M a = some (.inr (ci, fs))) (hcl : vwCl[ci]? = some qq)
    (hc : ∀ B : Nat → Prop, Met l y (zm_W y yb yl yr) (zm_rm rf mc ms) (zm_Pc G (.ref a :: As) B M) (zm_Q G post B) mc ms B) (hd : zm_cd y yb yl yr yn) (hk : Cond.methodLink own idx y ∈ wsL_law ∧ Cond.instanceMethod y ∈ wsL_law ∧ Cond.selects qq.1 y y ∈ wsL_law) (hst : st0 = As.reverse ++ .ref a :: rest) (hn : As.length = yn) (hsz : ls.size = nL) (hW : (rest.map fun v => v.category).sum ≤ 8) (hR : rf + 1 ≤ R.frames ∧ 8 + (yl + 11) + 40 * rf ≤ R.locals) (hf : cells + mc ≤ R.cells ∧ slots + ms ≤ R.slots) (hdg : decode cc pc = .ok (.invokevirtual idx, 3))
    (kk : ∀ (r : Option Value) (M' : zm_M) (H1 : Heap) (locs1 : List Loc), post r M' → zm_P G A M' H1 → zm_P G A N H1 → (∀ q, M' q ≠ none → N q = none) → va_S A s.heap H1 locs1 → W p l e R s m args below meth c H1 locs1 (cells + mc) (slots + ms) Q (F0 m (pc + 3) ls (r.toList ++ rest))) : W p l e R s m args below meth c H locs cells slots Q (F0 m pc ls st0) := by
  obtain ⟨d1, d2, d3⟩ := hd
  have hp := zl_pre hE hA hM hS (.ref a :: As)
  exact zl_go (va_runV (n := yn) (C := qq.1) ⟨hx, hb, hml, hown, hts⟩ (hc (zl_A M H.size)) ⟨callB_of yn hts (zm_GI d1) rfl rfl rfl (hts _ d2) (hts _ hk.1) d3 hR, hts _ hk.2.1, hts _ hk.2.2⟩ ⟨hp.1, zm_recv hE hM he hcl, hp.2⟩ rfl hn hsz hst (lv_room hW) hdg hf) hA hM hN hD hS kk
theorem zl_callI (hx : p.tables.exec = Jvm.exec) (hb : c.code = cc) (hml : c.maxLocals = nL) (hts : ∀ w ∈ wsL_law, w.before args s = true) (hown : s.vm.findClass own = some m.cls) (hE : zm_E G A s s.heap) (hA : ∀ q : Nat, s.heap.size ≤ q → A q) (hM : zm_P G A M H) (hN : zm_P G A N H) (hD : ∀ q, M q ≠ none → N q = none) (hS : va_S A s.heap H locs)
    (hc : ∀ B : Nat → Prop, Met l y (zm_W y yb yl none) (zm_rm rf mc ms) (zm_Pc G (.ref a :: As) B M) (zm_Q G post B) mc ms B) (hd : zm_cd y yb yl none yn) (hk : Cond.methodLink own idx y ∈ wsL_law ∧ Cond.instanceMethod y ∈ wsL_law ∧ y.name = "<init>") (hst : st0 = As.reverse ++ .ref a :: rest) (hn : As.length = yn) (hsz : ls.size = nL) (hW : (rest.map fun v => v.category).sum ≤ 8) (hR : rf + 1 ≤ R.frames ∧ 8 + (yl + 11) + 40 * rf ≤ R.locals) (hf : cells + mc ≤ R.cells ∧ slots + ms ≤ R.slots) (hdg : decode cc pc = .ok (.invokespecial idx, 3))
    (kk : ∀ (r : Option Value) (M' : zm_M) (H1 : Heap) (locs1 : List Loc), post r M' → zm_P G A M' H1 → zm_P G A N H1 → (∀ q, M' q ≠ none → N q = none) → va_S A s.heap H1 locs1 → W p l e R s m args below meth c H1 locs1 (cells + mc) (slots + ms) Q (F0 m (pc + 3) ls (r.toList ++ rest))) : W p l e R s m args below meth c H locs cells slots Q (F0 m pc ls st0) := by
  obtain ⟨d1, d2, d3⟩ := hd
  exact zl_go (va_runI (n := yn) ⟨hx, hb, hml, hown, hts⟩ (hc (zl_A M H.size)) ⟨callB_of yn hts (zm_GI d1) rfl rfl rfl (hts _ d2) (hts _ hk.1) d3 hR, hk.2.2, hts _ hk.2.1⟩ (zl_pre hE hA hM hS (.ref a :: As)) rfl hn hsz hst (lv_room hW) hdg hf) hA hM hN hD hS kk
end ZLAW
theorem zl_sym {M N : zm_M} (h : ∀ q, M q ≠ none → N q = none) : ∀ q, N q ≠ none → M q = none := by
  intro q hq
  cases he : M q with
  | none => rfl
  | some e => exact absurd (h q (by rw [he]; exact fun z => by cases z)) hq
/-- the two as one map -/
def zl_U (M N : zm_M) : zm_M := fun q => match M q with
  | some e => some e
  | none => N q
theorem zl_U_P {G : zm_G} {A : Nat → Prop} {M N : zm_M} {H : Heap} (hM : zm_P G A M H) (hN : zm_P G A N H) : zm_P G A (zl_U M N) H := by
  intro q e he
  unfold zl_U at he
  cases hm : M q with
  | none => rw [hm] at he; exact hN q e he
  | some e' => rw [hm] at he; cases he; exact hM q _ hm
theorem zl_U_new {G : zm_G} {A : Nat → Prop} {M N : zm_M} {H1 : Heap} {q : Nat} {x : va_E} (hD : ∀ q, M q ≠ none → N q = none) (hq : zl_U M N q = none) (h : zm_P G A (zm_up (zl_U M N) q x) H1) : zm_P G A M H1 ∧ zm_P G A (zm_up N q x) H1 ∧ (∀ z, M z ≠ none → zm_up N q x z = none) ∧ N q = none := by
  have hMq : M q = none := by
    unfold zl_U at hq
    cases hm : M q with
    | none => rfl
    | some e => rw [hm] at hq; cases hq
  have hNq : N q = none := by unfold zl_U at hq; rw [hMq] at hq; exact hq
  refine ⟨fun z e he => ?_, fun z e he => ?_, fun z hz => ?_, hNq⟩
  · have : z ≠ q := fun w => by rw [w, hMq] at he; cases he
    exact h z e (by rw [zm_up_n this]; unfold zl_U; rw [he])
  · by_cases w : z = q
    · subst w
      rw [zm_up_s] at he
      cases he
      exact h z _ zm_up_s
    · rw [zm_up_n w] at he
      have : M z = none := zl_sym hD z (by rw [he]; exact fun y => by cases y)
      exact h z e (by rw [zm_up_n w]; unfold zl_U; rw [this]; exact he)
  · have : z ≠ q := fun w => hz (by rw [w]; exact hMq)
    rw [zm_up_n this]
    exact hD z hz
/-! what the start gives -/
theorem zl_ty {args : Array Value} {s : State} {ty : FieldType} (h : (Cond.arrayClass ty).before args s = true) : ∃ c : ClassId, s.vm.findClass ("[" ++ ty.toString) = some c ∧ ArrOfT s c ty := by
  obtain ⟨c, k, comp, h1, h2, h3⟩ := Cond.arrayClass_spec h
  exact ⟨c, h1, fun n z => ⟨(fun k h => by cases h), k, h2, comp, h3⟩⟩
theorem zl_to {args : Array Value} {s : State} {C : String} (h : (Cond.arrayOver (.object C)).before args s = true) : ∃ c : ClassId, ArrOfT s c (.object C) ∧ va_RA s c (.object C) := by
  obtain ⟨comp, c, k, h1, h2, h3, h4, h5⟩ := Cond.arrayOver_spec h
  exact ⟨c, fun n z => ⟨(fun k h => by cases h), k, h3, comp, h4⟩, k, comp, h3, h4, h1, h5⟩
def zl_tm (k : Nat) : Term := .static "PropStore" (zm_tn k) "[I"
set_option maxRecDepth 100000 in
theorem zl_el0 : ∀ j, j < 16 → Cond.eq (.elem (zl_tm 0) (.int (Int32.ofNat j))) (.int (zm_tv 0 j)) ∈ flatC (Jvm.Cond.and given_1 narrow_1) := by decide +kernel
set_option maxRecDepth 100000 in
theorem zl_el1 : ∀ j, j < 6 → Cond.eq (.elem (zl_tm 1) (.int (Int32.ofNat j))) (.int (zm_tv 1 j)) ∈ flatC (Jvm.Cond.and given_1 narrow_1) := by decide +kernel
set_option maxRecDepth 100000 in
theorem zl_el2 : ∀ j, j < 8 → Cond.eq (.elem (zl_tm 2) (.int (Int32.ofNat j))) (.int (zm_tv 2 j)) ∈ flatC (Jvm.Cond.and given_1 narrow_1) := by decide +kernel
set_option maxRecDepth 100000 in
theorem zl_ln : ∀ k, k < 3 → Cond.eq (.length (zl_tm k)) (.int (Int32.ofNat (zm_tl k).length)) ∈ flatC (Jvm.Cond.and given_1 narrow_1) ∧ Cond.arrayOf (zl_tm k) .int ∈ flatC (Jvm.Cond.and given_1 narrow_1) := by decide +kernel
set_option maxRecDepth 100000 in
theorem zl_ls : ∀ k, k < 3 → Cond.laysStatic "PropStore" (zm_tn k) "[I" ∈ lw_tbl := by decide +kernel
set_option maxRecDepth 100000 in
theorem zl_nw : ∀ w ∈ zm_nws, w ∈ lw_tbl := by decide +kernel
set_option maxRecDepth 100000 in
theorem zl_nc : ∀ q ∈ zm_ncs, Cond.not (.castable q.1 q.2) ∈ flatC (Jvm.Cond.and given_1 narrow_1) := by decide +kernel
set_option maxRecDepth 100000 in
theorem zl_ao : Cond.arrayOver (.object "PropStore$Cue") ∈ lw_tbl ∧ Cond.arrayOver (.object "PropStore$Prop") ∈ lw_tbl := by decide +kernel
theorem zl_tab {args : Array Value} {s : State} (hs : ∀ c ∈ flatC (Jvm.Cond.and given_1 narrow_1), c.before args s = true) (hts : ∀ w ∈ lw_tbl, w.before args s = true) (hini : (Cond.initialized "PropStore").before args s = true) (k : Nat) (hk : k < 3) (A : Nat → Prop) (hA : ∀ a : Nat, a < s.heap.size → ¬ A a) : ∃ t : Nat, va_Z "PropStore" (zm_tn k) "[I" (.ref t) A s s.heap ∧ va_T .int t (zm_tl k).length (fun j => .int (zm_tv k j)) A s s.heap := by
  have hlen := va_eqt (hs _ (zl_ln k hk).1)
  obtain ⟨t, h1, h2⟩ := va_Tof (A := A) (N := (zm_tl k).length) (f := fun j => .int (zm_tv k j)) (by rcases (show k = 0 ∨ k = 1 ∨ k = 2 by omega) with rfl | rfl | rfl <;> decide) (hs _ (zl_ln k hk).2) hlen (fun j hj => by
    rcases (show k = 0 ∨ k = 1 ∨ k = 2 by omega) with rfl | rfl | rfl
    · exact va_eqt (hs _ (zl_el0 j hj))
    · exact va_eqt (hs _ (zl_el1 j hj))
    · exact va_eqt (hs _ (zl_el2 j hj))) hA
  exact ⟨t, va_Zref (hts _ (zl_ls k hk)) hini h1 hA, h2⟩
set_option maxRecDepth 20000 in
theorem zl_wa : Cond.arrayClass .int ∈ lw_tbl ∧ Cond.arrayClass .long ∈ lw_tbl ∧ Cond.initialized "PropStore" ∈ lw_tbl := ⟨wsL_law_in _ aw_int, wsL_law_in _ aw_long, wsL_law_in _ in_X5.2⟩
theorem zl_E {args : Array Value} {s : State} (hs : ∀ c ∈ flatC (Jvm.Cond.and given_1 narrow_1), c.before args s = true) (hts : ∀ w ∈ lw_tbl, w.before args s = true) : ∃ G : zm_G, zm_E G (fun q => s.heap.size ≤ q) s s.heap := by
  have hA : ∀ a : Nat, a < s.heap.size → ¬ (fun q => s.heap.size ≤ q) a := fun a h => Nat.not_le.mpr h
  have hw := fun w h => hts w (wsL_law_in w h)
  obtain ⟨c0, i0, k0⟩ := u_known (C := RX0) (T := TX0) (N := 4) (n := 4) hw inlX0 (hw _ in_X0.1)
  obtain ⟨c1, i1, k1⟩ := u_known (C := RX1) (T := TX1) (N := 3) (n := 3) hw inlX1 (hw _ in_X1.1)
  obtain ⟨c2, i2, k2⟩ := u_known (C := RX2) (T := TX2) (N := 4) (n := 4) hw inlX2 (hw _ in_X2.1)
  obtain ⟨c3, i3, k3⟩ := u_known (C := RX4) (T := TX4) (N := 3) (n := 3) hw inlX4 (hw _ in_X4.1)
  obtain ⟨c4, i4, k4⟩ := u_known (C := RX5) (T := TX5) (N := 10) (n := 10) hw inlX5 (hw _ in_X5.1)
  obtain ⟨c5, i5, k5⟩ := u_known (C := RX6) (T := TX6) (N := 17) (n := 17) hw inlX6 (hw _ in_X6.1)
  obtain ⟨a0, n0, t0⟩ := zl_ty (hts _ zl_wa.1)
  obtain ⟨a1, n1, t1⟩ := zl_ty (hts _ zl_wa.2.1)
  obtain ⟨a2, t2, r2⟩ := zl_to (hts _ zl_ao.1)
  obtain ⟨a3, t3, r3⟩ := zl_to (hts _ zl_ao.2)
  obtain ⟨s0, z0⟩ := zl_tab hs hts (hts _ zl_wa.2.2) 0 (by decide) _ hA
  obtain ⟨s1, z1⟩ := zl_tab hs hts (hts _ zl_wa.2.2) 1 (by decide) _ hA
  obtain ⟨s2, z2⟩ := zl_tab hs hts (hts _ zl_wa.2.2) 2 (by decide) _ hA
  refine ⟨((fun k => [c0, c1, c2, c3, c4, c5].getD k c0, fun k => [i0, i1, i2, i3, i4, i5].getD k i0), fun k => [a0, a1, a2, a3].getD k a0, fun k => [s0, s1, s2].getD k s0), ⟨?_, ?_⟩, fun w h => va_Nw.of (zm_nw_tabs w h) (hts w (zl_nw w h)), fun q h => va_Nc.of (hs _ (zl_nc q h)), ⟨va_AO.of (hts _ zl_ao.1), va_AO.of (hts _ zl_ao.2)⟩, fun k hk => ?_⟩
  · intro k q hq
    match k, hq with
    | 0, hq => cases hq; exact k0
    | 1, hq => cases hq; exact k1
    | 2, hq => cases hq; exact k2
    | 3, hq => cases hq; exact k3
    | 4, hq => cases hq; exact k4
    | 5, hq => cases hq; exact k5
    | k + 6, hq => simp at hq
  · intro k q hq
    match k, hq with
    | 0, hq => cases hq; exact ⟨t0, n0⟩
    | 1, hq => cases hq; exact ⟨t1, n1⟩
    | 2, hq => cases hq; exact ⟨t2, r2⟩
    | 3, hq => cases hq; exact ⟨t3, r3⟩
    | k + 4, hq => simp at hq
  · match k, hk with
    | 0, _ => exact z0
    | 1, _ => exact z1
    | 2, _ => exact z2
    | k + 3, hk => exact absurd hk (by omega)
