/-! rows over the map -/
section ZROWS
variable {p : Program} {l : Launch} {e : Env} {R : Room} {s : State} {m : MethodId} {args : Array Value} {below : List Frame} {meth : Method} {c : Code} {H : Heap} {locs : List Loc} {cells slots : Nat} {Q : State → Prop}
variable {cc : ByteArray} {pc : Nat} {ls : Array Slot} {rest : List Value} {G : zm_G} {A : Nat → Prop} {M : zm_M} {a : Nat} {own : String}
/-- another name for what lies on top -/
theorem zt_eq {v v' : Value} (h : v = v') (k : W p l e R s m args below meth c H locs cells slots Q (F0 m pc ls (v' :: rest))) : W p l e R s m args below meth c H locs cells slots Q (F0 m pc ls (v :: rest)) := by subst h; exact k
theorem zm_get (hx : p.tables.exec = Jvm.exec) (hb : c.code = cc) (hts : ∀ w ∈ wsL_law, w.before args s = true) (hown : s.vm.findClass own = some m.cls) (hE : zm_E G A s s.heap) (hM : zm_P G A M H) {ci k idx : Nat} {fs : List Value} (he : M a = some (.inr (ci, fs))) (hf : zm_fl own idx ci k) {v : Value} (hv : fs[k]? = some v) (hdg : decode cc pc = .ok (.getfield idx, 3))
    (kk : W p l e R s m args below meth c H locs cells slots Q (F0 m (pc + 3) ls (v :: rest))) : W p l e R s m args below meth c H locs cells slots Q (F0 m pc ls (.ref a :: rest)) := by
  obtain ⟨C, T, N, ref, h1, h2, h3, h4, h5⟩ := hf
  refine va_get (D := G.1) (ws := [(a, .inr (ci, fs))]) hx hb hts h2 hown hE.1 (hM.one he) 0 rfl h1 k h3 (hts _ h4) (fun x hx => ?_) hv hdg kk
  rcases h5 with h5 | h5
  · rw [h5]; exact hx
  · exact u_same (hts _ h5) x hx
theorem zm_put (hx : p.tables.exec = Jvm.exec) (hb : c.code = cc) (hts : ∀ w ∈ wsL_law, w.before args s = true) (hown : s.vm.findClass own = some m.cls) (hE : zm_E G A s s.heap) (hM : zm_P G A M H) (hS : va_S A s.heap H locs) {ci k idx : Nat} {fs : List Value} (he : M a = some (.inr (ci, fs))) {ty : FieldType} (hf : zm_fp own idx ci k ty false) {v : Value} (hn : narrow ty v = v) (hfit : fits ty v = true) (hl : k < fs.length) (hdg : decode cc pc = .ok (.putfield idx, 3))
    (kk : ∀ (H1 : Heap) (locs1 : List Loc), zm_P G A (zm_up M a (.inr (ci, fs.set k v))) H1 → va_S A s.heap H1 locs1 → W p l e R s m args below meth c H1 locs1 cells slots Q (F0 m (pc + 3) ls rest)) : W p l e R s m args below meth c H locs cells slots Q (F0 m pc ls (v :: .ref a :: rest)) := by
  obtain ⟨C, T, N, ty0, hc, hin, hty, hnm, hk, hlink, hfin, -, hd⟩ := hf
  have hap := va_apart (own := own) hts hin ty0 hty hnm hE.1 hc
  obtain ⟨hAa, r, h1, cell, q1, q2, q3, q4⟩ := hM a _ he
  have hr : r = (C, T, N) := Option.some.inj (h1.symm.trans hc)
  subst hr
  obtain ⟨hSl, hfc, kC, hkC, hkind⟩ := hE.1.1 ci _ hc
  obtain ⟨cf, kf, fi, f, hi, hsl⟩ := hSl k hk
  have hlay := hts _ (hin _ (u_in_lay hk))
  unfold u_lay at hlay
  rw [if_neg (by rw [hfin]; decide)] at hlay
  have hst := (u_facts hfc hkC (u_lays hts hin hk) hi).1
  have h6 := u_store hfc hkC hkind hlay hi hd hn hfit
  refine W.putK hx hb (f := f) ⟨hown, hts _ hlink, ⟨_, _, _, hi⟩, hst⟩ (by rw [q2]; exact h6) q1 q3 (by rw [hsl]; exact k2_hasslot (q4 k hk)) rfl rfl hdg fun H' e1 e2 e3 => ?_
  rw [hsl] at e1 ⊢
  exact kk H' _ (hM.up hAa ⟨_, hc, t_OB.to (V := updV (vp_V fs) k v) ⟨_, e1, q2, q3, t_set q4 hap hk v⟩ (fun j _ => vp_updV_set hl v j)⟩ (fun q h _ => e3 q h)) (hS.put e2 e3 hAa)
theorem zm_putF (hx : p.tables.exec = Jvm.exec) (hb : c.code = cc) (hts : ∀ w ∈ wsL_law, w.before args s = true) (hown : s.vm.findClass own = some m.cls) (hname : meth.name = "<init>") (hE : zm_E G A s s.heap) (hM : zm_P G A M H) (hS : va_S A s.heap H locs) {ci k idx : Nat} {fs : List Value} (he : M a = some (.inr (ci, fs))) {ty : FieldType} (hf : zm_fp own idx ci k ty true) {v : Value} (hn : narrow ty v = v) (hfit : fits ty v = true) (hl : k < fs.length) (hdg : decode cc pc = .ok (.putfield idx, 3))
    (kk : ∀ (H1 : Heap) (locs1 : List Loc), zm_P G A (zm_up M a (.inr (ci, fs.set k v))) H1 → va_S A s.heap H1 locs1 → W p l e R s m args below meth c H1 locs1 cells slots Q (F0 m (pc + 3) ls rest)) : W p l e R s m args below meth c H locs cells slots Q (F0 m pc ls (v :: .ref a :: rest)) := by
  obtain ⟨C, T, N, ty0, hc, hin, hty, hnm, hk, hlink, hfin, hdecl, hd⟩ := hf
  have hdecl := hdecl rfl
  have hap := va_apart (own := own) hts hin ty0 hty hnm hE.1 hc
  obtain ⟨hAa, r, h1, cell, q1, q2, q3, q4⟩ := hM a _ he
  have hr : r = (C, T, N) := Option.some.inj (h1.symm.trans hc)
  subst hr
  obtain ⟨hSl, hfc, kC, hkC, hkind⟩ := hE.1.1 ci _ hc
  obtain ⟨cf, kf, fi, f, hi, hsl⟩ := hSl k hk
  have hlay := hts _ (hin _ (u_in_lay hk))
  unfold u_lay at hlay
  rw [if_pos hfin] at hlay
  have hst := (u_facts hfc hkC (u_lays hts hin hk) hi).1
  have hcf : m.cls = cf := by
    obtain ⟨_, _, c', _, _, _, -, -, hf', -, -, -, hown2, -⟩ := Cond.laysFinal_spec hlay
    have e1 : c' = cf := by have := hi.symm.trans hf'; simp at this; exact this.1.symm
    rw [hdecl] at hown2
    rw [← e1]; exact Option.some.inj (hown.symm.trans hown2)
  have h6 := u_fits hfc hkC hkind (Or.inr hlay) hi hd hn hfit
  refine W.putFinK hx hb hown (hts _ hlink) hi hst hcf hname (by rw [q2]; exact h6) q1 q3 (by rw [hsl]; exact k2_hasslot (q4 k hk)) rfl rfl hdg fun H' e1 e2 e3 => ?_
  rw [hsl] at e1 ⊢
  exact kk H' _ (hM.up hAa ⟨_, hc, t_OB.to (V := updV (vp_V fs) k v) ⟨_, e1, q2, q3, t_set q4 hap hk v⟩ (fun j _ => vp_updV_set hl v j)⟩ (fun q h _ => e3 q h)) (hS.put e2 e3 hAa)
theorem zm_iald (hx : p.tables.exec = Jvm.exec) (hb : c.code = cc) (hE : zm_E G A s s.heap) (hM : zm_P G A M H) {n : Nat} {f : Nat → Int32} (he : M a = some (zm_I G n f)) {i : Int32} (hin : vp_in i n) (hdg : decode cc pc = .ok (.iaload, 1))
    (kk : W p l e R s m args below meth c H locs cells slots Q (F0 m (pc + 1) ls (.int (f i.toNatClampNeg) :: rest))) : W p l e R s m args below meth c H locs cells slots Q (F0 m pc ls (.int i :: .ref a :: rest)) :=
  va_iald (D := G.1) hx hb hE.1 (hM.one he) 0 0 rfl rfl hin hdg kk
theorem zm_lald (hx : p.tables.exec = Jvm.exec) (hb : c.code = cc) (hE : zm_E G A s s.heap) (hM : zm_P G A M H) {n : Nat} {f : Nat → Int64} (he : M a = some (zm_J G n f)) {i : Int32} (hin : vp_in i n) (hdg : decode cc pc = .ok (.laload, 1))
    (kk : W p l e R s m args below meth c H locs cells slots Q (F0 m (pc + 1) ls (.long (f i.toNatClampNeg) :: rest))) : W p l e R s m args below meth c H locs cells slots Q (F0 m pc ls (.int i :: .ref a :: rest)) :=
  va_lald (D := G.1) hx hb hE.1 (hM.one he) 0 1 rfl rfl hin hdg kk
theorem zm_aldC (hx : p.tables.exec = Jvm.exec) (hb : c.code = cc) (hE : zm_E G A s s.heap) (hM : zm_P G A M H) {n : Nat} {f : Nat → Option Nat} (he : M a = some (zm_C G n f)) {i : Int32} (hin : vp_in i n) (hdg : decode cc pc = .ok (.aaload, 1))
    (kk : W p l e R s m args below meth c H locs cells slots Q (F0 m (pc + 1) ls (va_rf (f i.toNatClampNeg) :: rest))) : W p l e R s m args below meth c H locs cells slots Q (F0 m pc ls (.int i :: .ref a :: rest)) :=
  va_aldq (D := G.1) hx hb hE.1 (hM.one he) 0 2 rfl rfl hin hdg kk
theorem zm_aldR (hx : p.tables.exec = Jvm.exec) (hb : c.code = cc) (hE : zm_E G A s s.heap) (hM : zm_P G A M H) {n : Nat} {f : Nat → Option Nat} (he : M a = some (zm_R G n f)) {i : Int32} (hin : vp_in i n) (hdg : decode cc pc = .ok (.aaload, 1))
    (kk : W p l e R s m args below meth c H locs cells slots Q (F0 m (pc + 1) ls (va_rf (f i.toNatClampNeg) :: rest))) : W p l e R s m args below meth c H locs cells slots Q (F0 m pc ls (.int i :: .ref a :: rest)) :=
  va_aldq (D := G.1) hx hb hE.1 (hM.one he) 0 3 rfl rfl hin hdg kk
theorem zm_alenJ (hx : p.tables.exec = Jvm.exec) (hb : c.code = cc) (hE : zm_E G A s s.heap) (hM : zm_P G A M H) {n : Nat} {f : Nat → Int64} (he : M a = some (zm_J G n f)) (hdg : decode cc pc = .ok (.arraylength, 1))
    (kk : W p l e R s m args below meth c H locs cells slots Q (F0 m (pc + 1) ls (.int (nI n) :: rest))) : W p l e R s m args below meth c H locs cells slots Q (F0 m pc ls (.ref a :: rest)) :=
  va_alen (D := G.1) hx hb hE.1 (hM.one he) 0 1 rfl rfl rfl hdg kk
theorem zm_alenR (hx : p.tables.exec = Jvm.exec) (hb : c.code = cc) (hE : zm_E G A s s.heap) (hM : zm_P G A M H) {n : Nat} {f : Nat → Option Nat} (he : M a = some (zm_R G n f)) (hdg : decode cc pc = .ok (.arraylength, 1))
    (kk : W p l e R s m args below meth c H locs cells slots Q (F0 m (pc + 1) ls (.int (nI n) :: rest))) : W p l e R s m args below meth c H locs cells slots Q (F0 m pc ls (.ref a :: rest)) :=
  va_alen (D := G.1) hx hb hE.1 (hM.one he) 0 3 rfl rfl rfl hdg kk
theorem zm_iast (hx : p.tables.exec = Jvm.exec) (hb : c.code = cc) (hE : zm_E G A s s.heap) (hM : zm_P G A M H) (hS : va_S A s.heap H locs) {n : Nat} {f : Nat → Int32} (he : M a = some (zm_I G n f)) {i x : Int32} (hin : vp_in i n) (hdg : decode cc pc = .ok (.iastore, 1))
    (kk : ∀ (H1 : Heap) (locs1 : List Loc), zm_P G A (zm_up M a (zm_I G n (upd f i.toNatClampNeg x))) H1 → va_S A s.heap H1 locs1 → W p l e R s m args below meth c H1 locs1 cells slots Q (F0 m (pc + 1) ls rest)) : W p l e R s m args below meth c H locs cells slots Q (F0 m pc ls (.int x :: .int i :: .ref a :: rest)) := by
  obtain ⟨hAa, hc⟩ := hM a _ he
  refine W.iast hx hb hc ((hE.1.2 0 _ rfl).1 n (fun j => .int (f j))) (fun q => by cases q) (by show ¬ (i < 0 ∨ (arrV _ _ _).slots.size ≤ _); rw [arrV_size]; exact hin) rfl rfl hdg fun H1 e z oq => ?_
  refine kk H1 _ (hM.up hAa ?_ (fun q h _ => oq q h)) (hS.put z oq hAa)
  show H1[a]? = some (vp_cell _ _)
  rw [e, vp_cell_i, vp_cell_i, arrV_store]
  congr 2
  funext q
  by_cases hq : q = i.toNatClampNeg
  · subst hq; simp [updV, upd]
  · simp [updV, upd, hq]
theorem zm_last (hx : p.tables.exec = Jvm.exec) (hb : c.code = cc) (hE : zm_E G A s s.heap) (hM : zm_P G A M H) (hS : va_S A s.heap H locs) {n : Nat} {f : Nat → Int64} (he : M a = some (zm_J G n f)) {i : Int32} {x : Int64} (hin : vp_in i n) (hdg : decode cc pc = .ok (.lastore, 1))
    (kk : ∀ (H1 : Heap) (locs1 : List Loc), zm_P G A (zm_up M a (zm_J G n (vp_updL f i.toNatClampNeg x))) H1 → va_S A s.heap H1 locs1 → W p l e R s m args below meth c H1 locs1 cells slots Q (F0 m (pc + 1) ls rest)) : W p l e R s m args below meth c H locs cells slots Q (F0 m pc ls (.long x :: .int i :: .ref a :: rest)) := by
  obtain ⟨hAa, hc⟩ := hM a _ he
  refine W.last hx hb hc ((hE.1.2 1 _ rfl).1 n (fun j => .long (f j))) (fun q => by cases q) (by show ¬ (i < 0 ∨ (arrV _ _ _).slots.size ≤ _); rw [arrV_size]; exact hin) rfl rfl hdg fun H1 e z oq => ?_
  refine kk H1 _ (hM.up hAa ?_ (fun q h _ => oq q h)) (hS.put z oq hAa)
  show H1[a]? = some (vp_cell _ _)
  rw [e, vp_cell_l, vp_cell_l, arrV_store]
  congr 2
  funext q
  by_cases hq : q = i.toNatClampNeg
  · subst hq; simp [updV, vp_updL]
  · simp [updV, vp_updL, hq]
/-- into an array of references: an object whose class can be cast to the array's -/
theorem zm_ast0 (hx : p.tables.exec = Jvm.exec) (hb : c.code = cc) (hE : zm_E G A s s.heap) (hM : zm_P G A M H) (hS : va_S A s.heap H locs) (t0 : Nat) {cA : ClassId} {n v ci : Nat} {E : String} {q : vw_C} {f : Nat → Option Nat} {fs : List Value} (ht : (zm_tys G)[t0]? = some (cA, .object E)) (he : M a = some (.inl (cA, n, .inr (.inr (.inr (.inr f)))))) (hv : M v = some (.inr (ci, fs))) (hc : vwCl[ci]? = some q) (hasg : ∀ c0 c1 : ClassId, s.vm.findClass q.1 = some c0 → s.vm.findClass E = some c1 → s.vm.assignable c0 c1 = true) {i : Int32} (hin : vp_in i n) (hdg : decode cc pc = .ok (.aastore, 1))
    (kk : ∀ (H1 : Heap) (locs1 : List Loc), zm_P G A (zm_up M a (.inl (cA, n, .inr (.inr (.inr (.inr (va_up f i.toNatClampNeg (some v)))))))) H1 → va_S A s.heap H1 locs1 → W p l e R s m args below meth c H1 locs1 cells slots Q (F0 m (pc + 1) ls rest)) : W p l e R s m args below meth c H locs cells slots Q (F0 m pc ls (.ref v :: .int i :: .ref a :: rest)) := by
  have hlt : i.toNatClampNeg < n := Nat.not_le.mp fun q => hin (Or.inr q)
  have h0 : ¬ i < 0 := fun q => hin (Or.inl q)
  obtain ⟨hAa, hca⟩ := hM a _ he
  obtain ⟨-, r', hr', cellV, g1, g2, g3, -⟩ := hM v _ hv
  have hcls := (hE.1.1 ci q hc).2
  obtain ⟨kA, comp, k1, k2, k3, -⟩ := (hE.1.2 t0 _ ht).2
  obtain ⟨kE, hkE, -⟩ := Vm.findClass_spec k3
  obtain ⟨kC, hkC, -⟩ := hcls.2
  have ha2 := hasg _ _ hcls.1 k3
  refine W.aast hx hb hca (fun q h => by cases h) (fun h => by cases h) k1 k2 rfl hkE ⟨h0, by show _ < (arrV _ _ _).slots.size; rw [arrV_size]; exact hlt⟩ g1 (fun q h => by rw [g3] at h; cases h) (by rw [g2]; exact hkC) (by rw [g2]; exact ha2) rfl rfl hdg fun H1 e z oq => ?_
  refine kk H1 _ (hM.up hAa ?_ (fun q h _ => oq q h)) (hS.put z oq hAa)
  show H1[a]? = some (vp_cell _ _)
  rw [e, vp_cell_q, vp_cell_q, arrV_store]
  congr 2
  funext q
  by_cases hq : q = i.toNatClampNeg
  · subst hq; simp [updV, va_up, va_rf]
  · simp [updV, va_up, hq]
theorem zm_astC (hx : p.tables.exec = Jvm.exec) (hb : c.code = cc) (hE : zm_E G A s s.heap) (hM : zm_P G A M H) (hS : va_S A s.heap H locs) {n v : Nat} {f : Nat → Option Nat} {fs : List Value} (he : M a = some (zm_C G n f)) (hv : M v = some (.inr (0, fs))) {i : Int32} (hin : vp_in i n) (hdg : decode cc pc = .ok (.aastore, 1))
    (kk : ∀ (H1 : Heap) (locs1 : List Loc), zm_P G A (zm_up M a (zm_C G n (va_up f i.toNatClampNeg (some v)))) H1 → va_S A s.heap H1 locs1 → W p l e R s m args below meth c H1 locs1 cells slots Q (F0 m (pc + 1) ls rest)) : W p l e R s m args below meth c H locs cells slots Q (F0 m pc ls (.ref v :: .int i :: .ref a :: rest)) := by
  refine zm_ast0 hx hb hE hM hS 2 (q := (RX0, TX0, 4)) rfl he hv rfl (fun c0 c1 h0 h1 => ?_) hin hdg kk
  have e : c0 = c1 := Option.some.inj (h0.symm.trans h1)
  subst e
  obtain ⟨z1, z2⟩ := (hE.1.1 0 _ rfl).2
  have e2 : G.1.1 0 = c0 := Option.some.inj (z1.symm.trans h0)
  subst e2
  exact va_assign ⟨z1, z2⟩
theorem zm_asg {ci : Nat} {q : vw_C} (hE : zm_E G A s s.heap) (h3 : ci = 1 ∨ ci = 2 ∨ ci = 3) (hc : vwCl[ci]? = some q) (c0 c1 : ClassId) (h0 : s.vm.findClass q.1 = some c0) (h1 : s.vm.findClass "PropStore$Prop" = some c1) : s.vm.assignable c0 c1 = true := by
  have key : ∀ C : String, va_Nw (.castable C "PropStore$Prop") s → s.vm.findClass C = some c0 → s.vm.assignable c0 c1 = true := by
    intro C hw hC
    obtain ⟨x0, x1, f1, f2, f3⟩ := Cond.castable_spec (va_Nw.use (A := #[]) rfl hw)
    cases hC.symm.trans f1
    cases h1.symm.trans f2
    exact f3
  rcases h3 with rfl | rfl | rfl
  · cases hc; exact key _ (hE.2.1 (.castable "PropStore$Numbers" "PropStore$Prop") (by simp [zm_nws])) h0
  · cases hc; exact key _ (hE.2.1 (.castable "PropStore$Piece" "PropStore$Prop") (by simp [zm_nws])) h0
  · cases hc; exact key _ (hE.2.1 (.castable "PropStore$Row" "PropStore$Prop") (by simp [zm_nws])) h0
theorem zm_astP (hx : p.tables.exec = Jvm.exec) (hb : c.code = cc) (hE : zm_E G A s s.heap) (hM : zm_P G A M H) (hS : va_S A s.heap H locs) {n v ci : Nat} {f : Nat → Option Nat} {fs : List Value} (he : M a = some (zm_R G n f)) (hv : M v = some (.inr (ci, fs))) (h3 : ci = 1 ∨ ci = 2 ∨ ci = 3) {i : Int32} (hin : vp_in i n) (hdg : decode cc pc = .ok (.aastore, 1))
    (kk : ∀ (H1 : Heap) (locs1 : List Loc), zm_P G A (zm_up M a (zm_R G n (va_up f i.toNatClampNeg (some v)))) H1 → va_S A s.heap H1 locs1 → W p l e R s m args below meth c H1 locs1 cells slots Q (F0 m (pc + 1) ls rest)) : W p l e R s m args below meth c H locs cells slots Q (F0 m pc ls (.ref v :: .int i :: .ref a :: rest)) := by
  have hc : ∃ q, vwCl[ci]? = some q := by rcases h3 with rfl | rfl | rfl <;> exact ⟨_, rfl⟩
  obtain ⟨q, hq⟩ := hc
  exact zm_ast0 hx hb hE hM hS 3 (q := q) rfl he hv hq (zm_asg hE h3 hq) hin hdg kk
theorem zm_astN (hx : p.tables.exec = Jvm.exec) (hb : c.code = cc) (hE : zm_E G A s s.heap) (hM : zm_P G A M H) (hS : va_S A s.heap H locs) {n : Nat} {f : Nat → Option Nat} (he : M a = some (zm_R G n f)) {i : Int32} (hin : vp_in i n) (hdg : decode cc pc = .ok (.aastore, 1))
    (kk : ∀ (H1 : Heap) (locs1 : List Loc), zm_P G A (zm_up M a (zm_R G n (va_up f i.toNatClampNeg none))) H1 → va_S A s.heap H1 locs1 → W p l e R s m args below meth c H1 locs1 cells slots Q (F0 m (pc + 1) ls rest)) : W p l e R s m args below meth c H locs cells slots Q (F0 m pc ls (.null :: .int i :: .ref a :: rest)) := by
  obtain ⟨hAa, hca⟩ := hM a _ he
  refine va_WaastN (C := "PropStore$Prop") hx hb hca ((hE.1.2 3 _ rfl).1 n (fun j => va_rf (f j))) (fun h => by cases h) (by show ¬ (i < 0 ∨ (arrV _ _ _).slots.size ≤ _); rw [arrV_size]; exact hin) rfl rfl hdg fun H1 e z oq => ?_
  refine kk H1 _ (hM.up hAa ?_ (fun q h _ => oq q h)) (hS.put z oq hAa)
  show H1[a]? = some (vp_cell _ _)
  rw [e, vp_cell_q, vp_cell_q, arrV_store]
  congr 2
  funext q
  by_cases hq : q = i.toNatClampNeg
  · subst hq; simp [updV, va_up, va_rf]
  · simp [updV, va_up, hq]
/-- any prop or nothing -/
theorem zm_astO (hx : p.tables.exec = Jvm.exec) (hb : c.code = cc) (hE : zm_E G A s s.heap) (hM : zm_P G A M H) (hS : va_S A s.heap H locs) {n : Nat} {r : Option Nat} {f : Nat → Option Nat} (he : M a = some (zm_R G n f)) (hr : ∀ v, r = some v → ∃ ci fs, M v = some (.inr (ci, fs)) ∧ (ci = 1 ∨ ci = 2 ∨ ci = 3)) {i : Int32} (hin : vp_in i n) (hdg : decode cc pc = .ok (.aastore, 1))
    (kk : ∀ (H1 : Heap) (locs1 : List Loc), zm_P G A (zm_up M a (zm_R G n (va_up f i.toNatClampNeg r))) H1 → va_S A s.heap H1 locs1 → W p l e R s m args below meth c H1 locs1 cells slots Q (F0 m (pc + 1) ls rest)) : W p l e R s m args below meth c H locs cells slots Q (F0 m pc ls (va_rf r :: .int i :: .ref a :: rest)) := by
  cases r with
  | none => exact zm_astN hx hb hE hM hS he hin hdg kk
  | some v =>
    obtain ⟨ci, fs, h1, h2⟩ := hr v rfl
    exact zm_astP hx hb hE hM hS he h1 h2 hin hdg kk
theorem zm_new (hx : p.tables.exec = Jvm.exec) (hb : c.code = cc) (hts : ∀ w ∈ wsL_law, w.before args s = true) (hown : s.vm.findClass own = some m.cls) (hE : zm_E G A s s.heap) (hA : ∀ q : Nat, s.heap.size ≤ q → A q) (hM : zm_P G A M H) (hS : va_S A s.heap H locs) (ci : Nat) {C : String} {T : u_T} {N idx : Nat} (hc : vwCl[ci]? = some (C, T, N)) (hin : ∀ w ∈ u_ws C T N, w ∈ wsL_law) (ty : Nat → FieldType) (hty : ∀ k, k < N → parseFieldDescriptor (T k).2.2.1 = some (ty k)) (hcl : Cond.classLink own idx C ∈ wsL_law) (hinst : Cond.instantiable C N ∈ wsL_law) (hini : Cond.initialized C ∈ wsL_law)
    {fs : List Value} (hfs : ∀ j, j < N → defaultValue (ty j) = vp_V fs j) (hcells : cells + 1 ≤ R.cells) (hslots : slots + N ≤ R.slots) (hdg : decode cc pc = .ok (.new idx, 3))
    (kk : ∀ (q : Nat) (H1 : Heap), M q = none → zm_P G A (zm_up M q (.inr (ci, fs))) H1 → va_S A s.heap H1 locs → W p l e R s m args below meth c H1 locs (cells + 1) (slots + N) Q (F0 m (pc + 3) ls (.ref q :: rest))) : W p l e R s m args below meth c H locs cells slots Q (F0 m pc ls rest) := by
  have hKn := hE.1.1 ci _ hc
  refine W.newcK hx hb hown (hts _ hcl) (hts _ hinst) (hts _ hini) rfl hdg hcells hslots hKn.2.1 rfl fun H1 kC hkC e1 z1 o1 => ?_
  refine kk H.size H1 hM.fresh (hM.up (hA _ hS.1) ⟨_, hc, (u_born ty hts hin hKn hkC e1 hty).to hfs⟩ (fun q _ h => o1 q h)) ⟨Nat.le_trans hS.1 (by omega), fun x h1 h2 => (o1 x (Nat.lt_of_lt_of_le h1 hS.1)).trans (hS.2.1 x h1 h2), hS.2.2⟩
theorem zm_newI (hx : p.tables.exec = Jvm.exec) (hb : c.code = cc) (hts : ∀ w ∈ wsL_law, w.before args s = true) (hE : zm_E G A s s.heap) (hA : ∀ q : Nat, s.heap.size ≤ q → A q) (hM : zm_P G A M H) (hS : va_S A s.heap H locs) {n : Int32} {N : Nat} (hw : Cond.arrayClass .int ∈ wsL_law) (hn : ¬ n < 0) (hN : n.toNatClampNeg = N) (hbytes : N * componentBytes .int ≤ 536870912) (hcells : cells + 1 ≤ R.cells) (hslots : slots + N ≤ R.slots) (hdg : decode cc pc = .ok (.newarray .int, 2))
    (kk : ∀ (q : Nat) (H1 : Heap), M q = none → zm_P G A (zm_up M q (zm_I G N (fun _ => 0))) H1 → va_S A s.heap H1 locs → W p l e R s m args below meth c H1 locs (cells + 1) (slots + N) Q (F0 m (pc + 2) ls (.ref q :: rest))) : W p l e R s m args below meth c H locs cells slots Q (F0 m pc ls (.int n :: rest)) := by
  refine va_newaK (atype := .int) hx hb (hts _ hw) rfl hdg rfl hn hN hbytes hcells hslots rfl fun H1 cA e1 z1 o1 hAr hNm => ?_
  have hid : cA = G.2.1 0 := by
    have h1 := (hE.1.2 0 _ rfl).2
    exact Option.some.inj (hNm.symm.trans h1)
  subst hid
  refine kk H.size H1 hM.fresh (hM.up (hA _ hS.1) ?_ (fun q _ h => o1 q h)) ⟨Nat.le_trans hS.1 (by omega), fun x h1 h2 => (o1 x (Nat.lt_of_lt_of_le h1 hS.1)).trans (hS.2.1 x h1 h2), hS.2.2⟩
  show H1[H.size]? = some (vp_cell _ _)
  rw [vp_cell_i]
  exact e1
theorem zm_newJ (hx : p.tables.exec = Jvm.exec) (hb : c.code = cc) (hts : ∀ w ∈ wsL_law, w.before args s = true) (hE : zm_E G A s s.heap) (hA : ∀ q : Nat, s.heap.size ≤ q → A q) (hM : zm_P G A M H) (hS : va_S A s.heap H locs) {n : Int32} {N : Nat} (hw : Cond.arrayClass .long ∈ wsL_law) (hn : ¬ n < 0) (hN : n.toNatClampNeg = N) (hbytes : N * componentBytes .long ≤ 536870912) (hcells : cells + 1 ≤ R.cells) (hslots : slots + N ≤ R.slots) (hdg : decode cc pc = .ok (.newarray .long, 2))
    (kk : ∀ (q : Nat) (H1 : Heap), M q = none → zm_P G A (zm_up M q (zm_J G N (fun _ => 0))) H1 → va_S A s.heap H1 locs → W p l e R s m args below meth c H1 locs (cells + 1) (slots + N) Q (F0 m (pc + 2) ls (.ref q :: rest))) : W p l e R s m args below meth c H locs cells slots Q (F0 m pc ls (.int n :: rest)) := by
  refine va_newaK (atype := .long) hx hb (hts _ hw) rfl hdg rfl hn hN hbytes hcells hslots rfl fun H1 cA e1 z1 o1 hAr hNm => ?_
  have hid : cA = G.2.1 1 := by
    have h1 := (hE.1.2 1 _ rfl).2
    exact Option.some.inj (hNm.symm.trans h1)
  subst hid
  refine kk H.size H1 hM.fresh (hM.up (hA _ hS.1) ?_ (fun q _ h => o1 q h)) ⟨Nat.le_trans hS.1 (by omega), fun x h1 h2 => (o1 x (Nat.lt_of_lt_of_le h1 hS.1)).trans (hS.2.1 x h1 h2), hS.2.2⟩
  show H1[H.size]? = some (vp_cell _ _)
  rw [vp_cell_l]
  exact e1
theorem zm_newq (hx : p.tables.exec = Jvm.exec) (hb : c.code = cc) (hts : ∀ w ∈ wsL_law, w.before args s = true) (hown : s.vm.findClass own = some m.cls) (hE : zm_E G A s s.heap) (hA : ∀ q : Nat, s.heap.size ≤ q → A q) (hM : zm_P G A M H) (hS : va_S A s.heap H locs) (t0 : Nat) {C : String} {cA : ClassId} {idx : Nat} (ht : (zm_tys G)[t0]? = some (cA, .object C)) (hcl : Cond.classLink own idx C ∈ wsL_law) (hover : va_AO C s) {n : Int32} {N : Nat} (hn : ¬ n < 0) (hN : n.toNatClampNeg = N) (hbytes : N * 4 ≤ 536870912) (hcells : cells + 1 ≤ R.cells) (hslots : slots + N ≤ R.slots) (hdg : decode cc pc = .ok (.anewarray idx, 3))
    (kk : ∀ (q : Nat) (H1 : Heap), M q = none → zm_P G A (zm_up M q (.inl (cA, N, .inr (.inr (.inr (.inr (fun _ => none))))))) H1 → va_S A s.heap H1 locs → W p l e R s m args below meth c H1 locs (cells + 1) (slots + N) Q (F0 m (pc + 3) ls (.ref q :: rest))) : W p l e R s m args below meth c H locs cells slots Q (F0 m pc ls (.int n :: rest)) := by
  subst hN
  refine W.anew hx hb hown (hts _ hcl) (va_AO.use hover) rfl hdg rfl hn hbytes hcells hslots fun cB kA comp f1 f2 f3 f4 => ?_
  have hid : cB = cA := by
    obtain ⟨_, _, _, _, _, h4⟩ := (hE.1.2 t0 _ ht).2
    exact Option.some.inj (f1.symm.trans h4)
  subst hid
  generalize hH1 : H.push ({ cls := cB, slots := Array.replicate n.toNatClampNeg .null, vm := .none } : Cell) = H1
  have z1 : H1.size = H.size + 1 := by rw [← hH1, Array.size_push]
  have e1 : H1[H.size]? = some (arrV cB n.toNatClampNeg (fun _ => .null)) := by rw [← hH1, Array.getElem?_push_size, ← arrV_new]
  have o1 : ∀ q : Nat, q < H.size → H1[q]? = H[q]? := fun q hq => by rw [← hH1, Array.getElem?_push, if_neg (Nat.ne_of_lt hq)]
  refine kk H.size H1 hM.fresh (hM.up (hA _ hS.1) ?_ (fun q _ h => o1 q h)) ⟨Nat.le_trans hS.1 (by omega), fun x h1 h2 => (o1 x (Nat.lt_of_lt_of_le h1 hS.1)).trans (hS.2.1 x h1 h2), hS.2.2⟩
  show H1[H.size]? = some (vp_cell _ _)
  rw [vp_cell_q]
  exact e1
/-- a table's address, and a number of it -/
theorem zm_gets (hx : p.tables.exec = Jvm.exec) (hb : c.code = cc) (hts : ∀ w ∈ wsL_law, w.before args s = true) (hown : s.vm.findClass own = some m.cls) (hE : zm_E G A s s.heap) (hS : va_S A s.heap H locs) (k : Nat) (hk : k < 3) {idx : Nat} (hlink : Cond.fieldLink own idx "PropStore" (zm_tn k) "[I" ∈ wsL_law) (hdg : decode cc pc = .ok (.getstatic idx, 3))
    (kk : W p l e R s m args below meth c H locs cells slots Q (F0 m (pc + 3) ls (.ref (G.2.2 k) :: rest))) : W p l e R s m args below meth c H locs cells slots Q (F0 m pc ls rest) :=
  va_gets hx hb (hE.2.2.2.2 k hk).1 hS hown (hts _ hlink) (fun _ h => h) hdg kk
theorem zm_tab (hx : p.tables.exec = Jvm.exec) (hb : c.code = cc) (hE : zm_E G A s s.heap) (hS : va_S A s.heap H locs) (k : Nat) (hk : k < 3) {i : Int32} (hin : vp_in i (zm_tl k).length) (hdg : decode cc pc = .ok (.iaload, 1))
    (kk : W p l e R s m args below meth c H locs cells slots Q (F0 m (pc + 1) ls (.int (zm_tv k i.toNatClampNeg) :: rest))) : W p l e R s m args below meth c H locs cells slots Q (F0 m pc ls (.int i :: .ref (G.2.2 k) :: rest)) :=
  va_ti hx hb (hE.2.2.2.2 k hk).2 hS hin rfl hdg kk
theorem zm_recv (hE : zm_E G A s s.heap) (hM : zm_P G A M H) {ci : Nat} {fs : List Value} {q : vw_C} (he : M a = some (.inr (ci, fs))) (hc : vwCl[ci]? = some q) : ∃ cell : Cell, H[a]? = some cell ∧ cell.vm.isStatics = false ∧ s.vm.findClass q.1 = some cell.cls :=
  va_recv (q0 := 0) hE.1 (hM.one he) hc rfl
theorem zm_instY (hx : p.tables.exec = Jvm.exec) (hb : c.code = cc) (hts : ∀ w ∈ wsL_law, w.before args s = true) (hown : s.vm.findClass own = some m.cls) (hE : zm_E G A s s.heap) (hM : zm_P G A M H) {ci idx : Nat} {fs : List Value} {q : vw_C} (he : M a = some (.inr (ci, fs))) (hc : vwCl[ci]? = some q) (hw : Cond.castable q.1 q.1 ∈ zm_nws) (hcl : Cond.classLink own idx q.1 ∈ wsL_law) (hdg : decode cc pc = .ok (.instanceof idx, 3))
    (kk : W p l e R s m args below meth c H locs cells slots Q (F0 m (pc + 3) ls (.int 1 :: rest))) : W p l e R s m args below meth c H locs cells slots Q (F0 m pc ls (.ref a :: rest)) :=
  va_instY hx hb hown (hts _ hcl) (hE.2.1 _ hw) (zm_recv hE hM he hc) hdg kk
theorem zm_instN (hx : p.tables.exec = Jvm.exec) (hb : c.code = cc) (hts : ∀ w ∈ wsL_law, w.before args s = true) (hown : s.vm.findClass own = some m.cls) (hE : zm_E G A s s.heap) (hM : zm_P G A M H) {ci idx : Nat} {fs : List Value} {q : vw_C} {nm : String} (he : M a = some (.inr (ci, fs))) (hc : vwCl[ci]? = some q) (hw : (q.1, nm) ∈ zm_ncs) (hcl : Cond.classLink own idx nm ∈ wsL_law) (hdg : decode cc pc = .ok (.instanceof idx, 3))
    (kk : W p l e R s m args below meth c H locs cells slots Q (F0 m (pc + 3) ls (.int 0 :: rest))) : W p l e R s m args below meth c H locs cells slots Q (F0 m pc ls (.ref a :: rest)) :=
  va_instNo hx hb hown (hts _ hcl) (hE.2.2.1 _ hw) (zm_recv hE hM he hc) hdg kk
theorem zm_cast (hx : p.tables.exec = Jvm.exec) (hb : c.code = cc) (hts : ∀ w ∈ wsL_law, w.before args s = true) (hown : s.vm.findClass own = some m.cls) (hE : zm_E G A s s.heap) (hM : zm_P G A M H) {ci idx : Nat} {fs : List Value} {q : vw_C} (he : M a = some (.inr (ci, fs))) (hc : vwCl[ci]? = some q) (hw : Cond.castable q.1 q.1 ∈ zm_nws) (hcl : Cond.classLink own idx q.1 ∈ wsL_law) (hdg : decode cc pc = .ok (.checkcast idx, 3))
    (kk : W p l e R s m args below meth c H locs cells slots Q (F0 m (pc + 3) ls (.ref a :: rest))) : W p l e R s m args below meth c H locs cells slots Q (F0 m pc ls (.ref a :: rest)) :=
  va_castY hx hb hown (hts _ hcl) (hE.2.1 _ hw) (zm_recv hE hM he hc) hdg kk
/-- behind a call -/
theorem zm_go {post : Option Value → zm_M → Prop} {mc ms : Nat} {st0 : List Value} {av : Array Value} (hr : va_Run p l e R s m args below meth c H locs cells slots mc ms (F0 m pc ls st0) rest (zm_Q G post A av) A) (hS : va_S A s.heap H locs)
    (kk : ∀ (r : Option Value) (M' : zm_M) (H1 : Heap) (locs1 : List Loc), post r M' → zm_P G A M' H1 → va_S A s.heap H1 locs1 → W p l e R s m args below meth c H1 locs1 (cells + mc) (slots + ms) Q (F0 m (pc + 3) ls (r.toList ++ rest))) : W p l e R s m args below meth c H locs cells slots Q (F0 m pc ls st0) := by
  intro T hT X
  obtain ⟨v, st₀, t, T', L, h0, X', hL, e1, e2, ⟨⟨r, M', hv, hp, hb⟩, hz, hk⟩, st⟩ := hr T hT X
  cases hv
  rw [h0] at hz hk
  obtain ⟨t2, a1, b1⟩ := kk v M' T'.heap (locs ++ L) hp (by rw [e1]; exact hb)
    ⟨Nat.le_trans hS.1 (by rw [e1]; exact hz), fun q h1 h2 => by rw [e1, hk q (Nat.lt_of_lt_of_le h1 hS.1) h2]; exact hS.2.1 q h1 h2, fun q hq => by
      rcases List.mem_append.mp hq with h | h
      · exact hS.2.2 q h
      · exact hL q h⟩ T' rfl X'
  exact ⟨t2, st t2 a1, b1⟩
theorem zm_pre (hE : zm_E G A s s.heap) (hA : ∀ q : Nat, s.heap.size ≤ q → A q) (hM : zm_P G A M H) (hS : va_S A s.heap H locs) (av : List Value) : PreS s H (zm_Pc G av A M) av :=
  ⟨fun a U g mk q => by obtain ⟨q0, q1, q2, q3⟩ := q; exact ⟨q0, q1, q2, zm_E.same (U := U.calling g mk a) q3 rfl⟩, fun U hU hW => ⟨rfl, by rw [hU]; exact hM, fun q hq => hA q (Nat.le_trans hS.1 (by rw [← hU]; exact hq)), by rw [hU]; exact hE.warm hW hS⟩⟩
variable {post : Option Value → zm_M → Prop} {y : MethodName} {yb : ByteArray} {yl yn mc ms rf idx nL : Nat} {yr : Option FieldType} {As st0 : List Value}
theorem zm_callS (hx : p.tables.exec = Jvm.exec) (hb : c.code = cc) (hml : c.maxLocals = nL) (hts : ∀ w ∈ wsL_law, w.before args s = true) (hown : s.vm.findClass own = some m.cls) (hE : zm_E G A s s.heap) (hA : ∀ q : Nat, s.heap.size ≤ q → A q) (hM : zm_P G A M H) (hS : va_S A s.heap H locs)
    (hc : Met l y (zm_W y yb yl yr) (zm_rm rf mc ms) (zm_Pc G As A M) (zm_Q G post A) mc ms A) (hd : zm_cd y yb yl yr yn) (hk : Cond.methodLink own idx y ∈ wsL_law ∧ Cond.static y ∈ wsL_law) (hst : st0 = As.reverse ++ rest) (hn : As.length = yn) (hsz : ls.size = nL) (hW : (rest.map fun v => v.category).sum ≤ 8) (hR : rf + 1 ≤ R.frames ∧ 8 + (yl + 11) + 40 * rf ≤ R.locals) (hf : cells + mc ≤ R.cells ∧ slots + ms ≤ R.slots) (hdg : decode cc pc = .ok (.invokestatic idx, 3))
    (kk : ∀ (r : Option Value) (M' : zm_M) (H1 : Heap) (locs1 : List Loc), post r M' → zm_P G A M' H1 → va_S A s.heap H1 locs1 → W p l e R s m args below meth c H1 locs1 (cells + mc) (slots + ms) Q (F0 m (pc + 3) ls (r.toList ++ rest))) : W p l e R s m args below meth c H locs cells slots Q (F0 m pc ls st0) := by
  obtain ⟨d1, d2, d3⟩ := hd
  exact zm_go (va_runS (n := yn) ⟨hx, hb, hml, hown, hts⟩ hc ⟨callB_of yn hts (zm_GI d1) rfl rfl rfl (hts _ d2) (hts _ hk.1) d3 hR, hts _ hk.2⟩ (zm_pre hE hA hM hS As) rfl hn hsz hst (lv_room hW) hdg hf) hS kk
theorem zm_callV (hx : p.tables.exec = Jvm.exec) (hb : c.code = cc) (hml : c.maxLocals = nL) (hts : ∀ w ∈ wsL_law, w.before args s = true) (hown : s.vm.findClass own = some m.cls) (hE : zm_E G A s s.heap) (hA : ∀ q : Nat, s.heap.size ≤ q → A q) (hM : zm_P G A M H) (hS : va_S A s.heap H locs) {ci : Nat} {fs : List Value} {q : vw_C} (he : M a = some (.inr (ci, fs))) (hcl : vwCl[ci]? = some q)
    (hc : Met l y (zm_W y yb yl yr) (zm_rm rf mc ms) (zm_Pc G (.ref a :: As) A M) (zm_Q G post A) mc ms A) (hd : zm_cd y yb yl yr yn) (hk : Cond.methodLink own idx y ∈ wsL_law ∧ Cond.instanceMethod y ∈ wsL_law ∧ Cond.selects q.1 y y ∈ wsL_law) (hst : st0 = As.reverse ++ .ref a :: rest) (hn : As.length = yn) (hsz : ls.size = nL) (hW : (rest.map fun v => v.category).sum ≤ 8) (hR : rf + 1 ≤ R.frames ∧ 8 + (yl + 11) + 40 * rf ≤ R.locals) (hf : cells + mc ≤ R.cells ∧ slots + ms ≤ R.slots) (hdg : decode cc pc = .ok (.invokevirtual idx, 3))
    (kk : ∀ (r : Option Value) (M' : zm_M) (H1 : Heap) (locs1 : List Loc), post r M' → zm_P G A M' H1 → va_S A s.heap H1 locs1 → W p l e R s m args below meth c H1 locs1 (cells + mc) (slots + ms) Q (F0 m (pc + 3) ls (r.toList ++ rest))) : W p l e R s m args below meth c H locs cells slots Q (F0 m pc ls st0) := by
  obtain ⟨d1, d2, d3⟩ := hd
  have hp := zm_pre hE hA hM hS (.ref a :: As)
  exact zm_go (va_runV (n := yn) (C := q.1) ⟨hx, hb, hml, hown, hts⟩ hc ⟨callB_of yn hts (zm_GI d1) rfl rfl rfl (hts _ d2) (hts _ hk.1) d3 hR, hts _ hk.2.1, hts _ hk.2.2⟩ ⟨hp.1, zm_recv hE hM he hcl, hp.2⟩ rfl hn hsz hst (lv_room hW) hdg hf) hS kk
theorem zm_callI (hx : p.tables.exec = Jvm.exec) (hb : c.code = cc) (hml : c.maxLocals = nL) (hts : ∀ w ∈ wsL_law, w.before args s = true) (hown : s.vm.findClass own = some m.cls) (hE : zm_E G A s s.heap) (hA : ∀ q : Nat, s.heap.size ≤ q → A q) (hM : zm_P G A M H) (hS : va_S A s.heap H locs)
    (hc : Met l y (zm_W y yb yl none) (zm_rm rf mc ms) (zm_Pc G (.ref a :: As) A M) (zm_Q G post A) mc ms A) (hd : zm_cd y yb yl none yn) (hk : Cond.methodLink own idx y ∈ wsL_law ∧ Cond.instanceMethod y ∈ wsL_law ∧ y.name = "<init>") (hst : st0 = As.reverse ++ .ref a :: rest) (hn : As.length = yn) (hsz : ls.size = nL) (hW : (rest.map fun v => v.category).sum ≤ 8) (hR : rf + 1 ≤ R.frames ∧ 8 + (yl + 11) + 40 * rf ≤ R.locals) (hf : cells + mc ≤ R.cells ∧ slots + ms ≤ R.slots) (hdg : decode cc pc = .ok (.invokespecial idx, 3))
    (kk : ∀ (r : Option Value) (M' : zm_M) (H1 : Heap) (locs1 : List Loc), post r M' → zm_P G A M' H1 → va_S A s.heap H1 locs1 → W p l e R s m args below meth c H1 locs1 (cells + mc) (slots + ms) Q (F0 m (pc + 3) ls (r.toList ++ rest))) : W p l e R s m args below meth c H locs cells slots Q (F0 m pc ls st0) := by
  obtain ⟨d1, d2, d3⟩ := hd
  exact zm_go (va_runI (n := yn) ⟨hx, hb, hml, hown, hts⟩ hc ⟨callB_of yn hts (zm_GI d1) rfl rfl rfl (hts _ d2) (hts _ hk.1) d3 hR, hk.2.2, hts _ hk.2.1⟩ (zm_pre hE hA hM hS (.ref a :: As)) rfl hn hsz hst (lv_room hW) hdg hf) hS kk
/-- of an abstract method x of Prop, on an object of class ci -/
theorem zm_callU (hx : p.tables.exec = Jvm.exec) (hb : c.code = cc) (hml : c.maxLocals = nL) (hts : ∀ w ∈ wsL_law, w.before args s = true) (hown : s.vm.findClass own = some m.cls) (hE : zm_E G A s s.heap) (hA : ∀ q : Nat, s.heap.size ≤ q → A q) (hM : zm_P G A M H) (hS : va_S A s.heap H locs) {ci : Nat} {fs : List Value} {q : vw_C} (he : M a = some (.inr (ci, fs))) (hcl : vwCl[ci]? = some q) {x : MethodName}
    (hc : Met l y (zm_W y yb yl yr) (zm_rm rf mc ms) (zm_Pc G (.ref a :: As) A M) (zm_Q G post A) mc ms A) (hd : zm_cd y yb yl yr yn) (hxc : x.cls = "PropStore$Prop" ∧ y.name = x.name ∧ y.desc = x.desc) (hk : Cond.methodLink own idx x ∈ wsL_law ∧ Cond.sameMethod x.cls "PropStore$Prop" x.name x.desc ∈ wsL_law ∧ Cond.selects q.1 x y ∈ wsL_law ∧ Cond.instanceMethod y ∈ wsL_law ∧ Cond.declares x ∈ zm_nws) (hst : st0 = As.reverse ++ .ref a :: rest) (hn : As.length = yn) (hsz : ls.size = nL) (hW : (rest.map fun v => v.category).sum ≤ 8) (hR : rf + 1 ≤ R.frames ∧ 8 + (yl + 11) + 40 * rf ≤ R.locals) (hf : cells + mc ≤ R.cells ∧ slots + ms ≤ R.slots) (hdg : decode cc pc = .ok (.invokevirtual idx, 3))
    (kk : ∀ (r : Option Value) (M' : zm_M) (H1 : Heap) (locs1 : List Loc), post r M' → zm_P G A M' H1 → va_S A s.heap H1 locs1 → W p l e R s m args below meth c H1 locs1 (cells + mc) (slots + ms) Q (F0 m (pc + 3) ls (r.toList ++ rest))) : W p l e R s m args below meth c H locs cells slots Q (F0 m pc ls st0) := by
  obtain ⟨d1, d2, d3⟩ := hd
  obtain ⟨k1, k2, k3, k4, k5⟩ := hk
  obtain ⟨x1, x2, x3⟩ := hxc
  have hp := zm_pre hE hA hM hS (.ref a :: As)
  have hdecl : va_Nw (.declares ⟨"PropStore$Prop", x.name, x.desc⟩) s := by
    have h := hE.2.1 _ k5
    have e : x = ⟨"PropStore$Prop", x.name, x.desc⟩ := by cases x; cases x1; rfl
    rw [← e]; exact h
  refine zm_go (va_runU (n := yn) (C := q.1) (owner := "PropStore$Prop") (x := x) ⟨hx, hb, hml, hown, hts⟩ hc ⟨⟨rfl, rfl, hR.1, hR.2, pay_in hts (zm_GI d1), List.mem_cons_self⟩, hts _ d1, hts _ d2, ⟨by decide, by decide⟩, fun sig h => ?_, hts _ k1, hts _ k2, va_Decl.abs hdecl, hts _ k3, hts _ k4⟩ ⟨hp.1, zm_recv hE hM he hcl, hp.2⟩ rfl hn hsz hst (lv_room hW) hdg hf) hS kk
  have h2 := d3.2.2
  rw [x3, h] at h2
  exact (Option.some.inj h2).symm
/-- of a nest mate's private static method -/
theorem zm_callSN (hx : p.tables.exec = Jvm.exec) (hb : c.code = cc) (hml : c.maxLocals = nL) (hts : ∀ w ∈ wsL_law, w.before args s = true) (hown : s.vm.findClass own = some m.cls) (hE : zm_E G A s s.heap) (hA : ∀ q : Nat, s.heap.size ≤ q → A q) (hM : zm_P G A M H) (hS : va_S A s.heap H locs)
    (hc : Met l y (zm_W y yb yl yr) (zm_rm rf mc ms) (zm_Pc G As A M) (zm_Q G post A) mc ms A) (hd : zm_cd y yb yl yr yn) {host : String} (hk : Cond.methodLinkNest own idx y host ∈ zm_nws ∧ Cond.static y ∈ wsL_law) (hst : st0 = As.reverse ++ rest) (hn : As.length = yn) (hsz : ls.size = nL) (hW : (rest.map fun v => v.category).sum ≤ 8) (hR : rf + 1 ≤ R.frames ∧ 8 + (yl + 11) + 40 * rf ≤ R.locals) (hf : cells + mc ≤ R.cells ∧ slots + ms ≤ R.slots) (hdg : decode cc pc = .ok (.invokestatic idx, 3))
    (kk : ∀ (r : Option Value) (M' : zm_M) (H1 : Heap) (locs1 : List Loc), post r M' → zm_P G A M' H1 → va_S A s.heap H1 locs1 → W p l e R s m args below meth c H1 locs1 (cells + mc) (slots + ms) Q (F0 m (pc + 3) ls (r.toList ++ rest))) : W p l e R s m args below meth c H locs cells slots Q (F0 m pc ls st0) := by
  obtain ⟨d1, d2, d3⟩ := hd
  exact zm_go (va_runSN (n := yn) ⟨hx, hb, hml, hown, hts⟩ hc ⟨va_cnB yn hts (zm_GI d1) rfl rfl rfl (hE.2.1 _ hk.1) (hts _ d2) d3 hR, hts _ hk.2, trivial⟩ (zm_pre hE hA hM hS As) rfl hn hsz hst (lv_room hW) hdg hf) hS kk
theorem zm_objInit (hx : p.tables.exec = Jvm.exec) (hb : c.code = cc) (hml : c.maxLocals = nL) (hts : ∀ w ∈ wsL_law, w.before args s = true) (hown : s.vm.findClass own = some m.cls) (hk : Cond.methodLink own idx objectInit ∈ wsL_law) (hsz : ls.size = nL) (hR : 1 ≤ R.frames) (hL : (rest.map fun v => v.category).sum + 12 ≤ R.locals) (hdg : decode cc pc = .ok (.invokespecial idx, 3))
    (kk : W p l e R s m args below meth c H locs cells slots Q (F0 m (pc + 3) ls rest)) : W p l e R s m args below meth c H locs cells slots Q (F0 m pc ls (.ref a :: rest)) :=
  W.objInit hx hb hown (hts _ hk) (hts (.instanceMethod objectInit) (by decide +kernel)) (hts (.code objectInit ⟨#[0xb1]⟩ 1 none) (by decide +kernel)) rfl (by rw [hml]; exact hsz) rfl hdg hR (by show 2 * 0 + _ + 12 ≤ _; omega) kk
theorem zm_iret {v : Int32} (hx : p.tables.exec = Jvm.exec) (hb : c.code = cc) (hr : meth.sig.returnType = some .int) (hlk : meth.locks = false) (hM : zm_P G A M H) (hS : va_S A s.heap H locs) (hp : post (some (.int v)) M) (hc : cells ≤ mc ∧ slots ≤ ms) (hdg : decode cc pc = .ok (.ireturn, 1)) : W p l e R s m args below meth c H locs cells slots (MQ below (zm_Q G post A) args s mc ms A) (F0 m pc ls [.int v]) :=
  W.widen hc.1 hc.2 (W.iret hx hb hr (fun t ht hW => ⟨⟨_, M, rfl, hp, by rw [ht]; exact hM⟩, hS.F ht⟩) hS.2.2 hdg hlk)
theorem zm_zret {v : Int32} (hx : p.tables.exec = Jvm.exec) (hb : c.code = cc) (hr : meth.sig.returnType = some .boolean) (hlk : meth.locks = false) (hM : zm_P G A M H) (hS : va_S A s.heap H locs) (hv : v = 0 ∨ v = 1) (hp : post (some (.int v)) M) (hc : cells ≤ mc ∧ slots ≤ ms) (hdg : decode cc pc = .ok (.ireturn, 1)) : W p l e R s m args below meth c H locs cells slots (MQ below (zm_Q G post A) args s mc ms A) (F0 m pc ls [.int v]) :=
  W.widen hc.1 hc.2 (W.zret hx hb hr (by rcases hv with rfl | rfl <;> rfl) (fun t ht hW => ⟨⟨_, M, rfl, hp, by rw [ht]; exact hM⟩, hS.F ht⟩) hS.2.2 hdg hlk)
theorem zm_lret {v : Int64} (hx : p.tables.exec = Jvm.exec) (hb : c.code = cc) (hr : meth.sig.returnType = some .long) (hlk : meth.locks = false) (hM : zm_P G A M H) (hS : va_S A s.heap H locs) (hp : post (some (.long v)) M) (hc : cells ≤ mc ∧ slots ≤ ms) (hdg : decode cc pc = .ok (.lreturn, 1)) : W p l e R s m args below meth c H locs cells slots (MQ below (zm_Q G post A) args s mc ms A) (F0 m pc ls [.long v]) :=
  W.widen hc.1 hc.2 (W.lret hx hb hr (fun t ht hW => ⟨⟨_, M, rfl, hp, by rw [ht]; exact hM⟩, hS.F ht⟩) hS.2.2 hdg hlk)
theorem zm_vret (hx : p.tables.exec = Jvm.exec) (hb : c.code = cc) (hr : meth.sig.returnType = none) (hlk : meth.locks = false) (hM : zm_P G A M H) (hS : va_S A s.heap H locs) (hp : post none M) (hc : cells ≤ mc ∧ slots ≤ ms) (hdg : decode cc pc = .ok (.return_, 1)) : W p l e R s m args below meth c H locs cells slots (MQ below (zm_Q G post A) args s mc ms A) (F0 m pc ls []) :=
  W.widen hc.1 hc.2 (W.vret hx hb hr (fun t ht hW => ⟨⟨_, M, rfl, hp, by rw [ht]; exact hM⟩, hS.F ht⟩) hS.2.2 hdg hlk)
theorem zm_aret {r : Option Nat} {rn : String} (hx : p.tables.exec = Jvm.exec) (hb : c.code = cc) (hr : meth.sig.returnType = some (.object rn)) (hlk : meth.locks = false) (hM : zm_P G A M H) (hS : va_S A s.heap H locs) (hp : post (some (va_rf r)) M) (hc : cells ≤ mc ∧ slots ≤ ms) (hdg : decode cc pc = .ok (.areturn, 1)) : W p l e R s m args below meth c H locs cells slots (MQ below (zm_Q G post A) args s mc ms A) (F0 m pc ls [va_rf r]) := by
  refine W.widen hc.1 hc.2 ?_
  exact W.aret hx hb hr (Or.inl ⟨_, rfl⟩) (va_rf_or r) (fun t ht hW => ⟨⟨_, M, rfl, hp, by rw [ht]; exact hM⟩, hS.F ht⟩) hS.2.2 hdg hlk
end ZROWS
