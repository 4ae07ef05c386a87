/-! THE LAYER: the world is a map from addresses to cells; a contract is said over such a map. -/
abbrev zm_M : Type := Nat → Option va_E
/-- D, the ids of the array classes (0 int[], 1 long[], 2 Cue[], 3 Prop[]), the addresses of the tables (0 GOES_AS, 1 ACT_VIEWS, 2 PART_VIEWS) -/
abbrev zm_G : Type := va_G × (Nat → ClassId) × (Nat → Nat)
abbrev zm_tys (G : zm_G) : List (ClassId × FieldType) := [(G.2.1 0, .int), (G.2.1 1, .long), (G.2.1 2, .object "PropStore$Cue"), (G.2.1 3, .object "PropStore$Prop")]
abbrev zm_I (G : zm_G) (n : Nat) (f : Nat → Int32) : va_E := .inl (G.2.1 0, n, .inl f)
abbrev zm_J (G : zm_G) (n : Nat) (f : Nat → Int64) : va_E := .inl (G.2.1 1, n, .inr (.inl f))
abbrev zm_C (G : zm_G) (n : Nat) (f : Nat → Option Nat) : va_E := .inl (G.2.1 2, n, .inr (.inr (.inr (.inr f))))
abbrev zm_R (G : zm_G) (n : Nat) (f : Nat → Option Nat) : va_E := .inl (G.2.1 3, n, .inr (.inr (.inr (.inr f))))
def zm_P (G : zm_G) (A : Nat → Prop) (M : zm_M) (H : Heap) : Prop := ∀ (a : Nat) (e : va_E), M a = some e → A a ∧ va_at G.1 vwCl (a, e) H
def zm_up (M : zm_M) (a : Nat) (e : va_E) : zm_M := fun q => if q = a then some e else M q
theorem zm_up_s {M : zm_M} {a : Nat} {e : va_E} : zm_up M a e a = some e := by simp [zm_up]
theorem zm_up_n {M : zm_M} {a q : Nat} {e : va_E} (h : q ≠ a) : zm_up M a e q = M q := by simp [zm_up, h]
theorem zm_up_k {M : zm_M} {a q : Nat} {e x : va_E} (h : q ≠ a) (hq : M q = some x) : zm_up M a e q = some x := by rw [zm_up_n h]; exact hq
theorem zm_ne {M : zm_M} {a b : Nat} {x y : va_E} (h1 : M a = some x) (h2 : M b = some y) (h : x ≠ y) : a ≠ b := fun q => h (by subst q; exact Option.some.inj (h1.symm.trans h2))
theorem zm_neN {M : zm_M} {a b : Nat} {x : va_E} (h1 : M a = some x) (h2 : M b = none) : a ≠ b := fun q => by subst q; rw [h1] at h2; cases h2
theorem zm_P.one {G : zm_G} {A : Nat → Prop} {M : zm_M} {H : Heap} (h : zm_P G A M H) {a : Nat} {e : va_E} (he : M a = some e) : va_P G.1 vwCl [(a, e)] H := by
  intro k q hk
  match k, hk with
  | 0, hk => cases hk; exact (h a e he).2
  | k + 1, hk => simp at hk
theorem zm_P.two {G : zm_G} {A : Nat → Prop} {M : zm_M} {H : Heap} (h : zm_P G A M H) {a b : Nat} {e x : va_E} (he : M a = some e) (hx : M b = some x) : va_P G.1 vwCl [(a, e), (b, x)] H := by
  intro k q hk
  match k, hk with
  | 0, hk => cases hk; exact (h a e he).2
  | 1, hk => cases hk; exact (h b x hx).2
  | k + 2, hk => simp at hk
theorem zm_P.lt {G : zm_G} {A : Nat → Prop} {M : zm_M} {H : Heap} (h : zm_P G A M H) {a : Nat} {e : va_E} (he : M a = some e) : a < H.size := (h a e he).2.lt
theorem zm_P.fresh {G : zm_G} {A : Nat → Prop} {M : zm_M} {H : Heap} (h : zm_P G A M H) : M H.size = none := by
  cases hq : M H.size with
  | none => rfl
  | some e => exact absurd (h.lt hq) (Nat.lt_irrefl _)
theorem zm_P.up {G : zm_G} {A : Nat → Prop} {M : zm_M} {H H1 : Heap} (h : zm_P G A M H) {a : Nat} {e : va_E} (ha : A a) (he : va_at G.1 vwCl (a, e) H1) (oq : ∀ q : Nat, q ≠ a → q < H.size → H1[q]? = H[q]?) : zm_P G A (zm_up M a e) H1 := by
  intro b x hb
  by_cases hq : b = a
  · subst hq
    rw [zm_up_s] at hb
    cases hb
    exact ⟨ha, he⟩
  · rw [zm_up_n hq] at hb
    obtain ⟨h1, h2⟩ := h b x hb
    exact ⟨h1, h2.kept (oq b hq (h.lt hb))⟩
/-- the tables' numbers -/
def zm_tn (k : Nat) : String := match k with
  | 0 => "GOES_AS"
  | 1 => "ACT_VIEWS"
  | _ => "PART_VIEWS"
def zm_tl (k : Nat) : List Int32 := match k with
  | 0 => [1, 2, 4, 8, 16, 48, 65616, 65664, 256, 768, 3328, 2048, 6144, 8192, 57344, 32768]
  | 1 => [131071, 26480, 65280, 65280, 131071, 131071]
  | _ => [4, 5, 6, 16, 7, 8, 10, 11]
def zm_tv (k j : Nat) : Int32 := (zm_tl k).getD j 0
def zm_nws : List Cond := [.castable "PropStore$Numbers" "PropStore$Numbers", .castable "PropStore$Row" "PropStore$Row", .castable "PropStore$Piece" "PropStore$Piece", .castable "PropStore$Numbers" "PropStore$Prop", .castable "PropStore$Piece" "PropStore$Prop", .castable "PropStore$Row" "PropStore$Prop", .declares ⟨"PropStore$Prop", "worthBy", "(I)J"⟩, .declares ⟨"PropStore$Prop", "putOn", "(I)V"⟩, .methodLinkNest "PropStore$Row" 13 ⟨"PropStore", "isRow", "(I)Z"⟩ "PropStore", .methodLinkNest "PropStore$Row" 19 ⟨"PropStore", "partView", "(I)I"⟩ "PropStore"]
def zm_ncs : List (String × String) := [("PropStore$Piece", "PropStore$Numbers"), ("PropStore$Row", "PropStore$Numbers"), ("PropStore$Piece", "PropStore$Row"), ("PropStore$Numbers", "PropStore$Row"), ("PropStore$Row", "PropStore$Piece"), ("PropStore$Numbers", "PropStore$Piece")]
/-- what the start gives for good: the classes, the words that are no table's rows, the tables -/
def zm_E (G : zm_G) (A : Nat → Prop) (U : State) (H : Heap) : Prop := va_K G.1 vwCl (zm_tys G) U ∧ (∀ w ∈ zm_nws, va_Nw w U) ∧ (∀ q ∈ zm_ncs, va_Nc q.1 q.2 U) ∧ (va_AO "PropStore$Cue" U ∧ va_AO "PropStore$Prop" U) ∧ ∀ k, k < 3 → va_Z "PropStore" (zm_tn k) "[I" (.ref (G.2.2 k)) A U H ∧ va_T .int (G.2.2 k) (zm_tl k).length (fun j => .int (zm_tv k j)) A U H
theorem zm_nw_warm {s U : State} (hW : s.WarmedH U.vm) : ∀ w ∈ zm_nws, va_Nw w s → va_Nw w U := by
  intro w hw h
  simp only [zm_nws, List.mem_cons, List.not_mem_nil, or_false] at hw
  rcases hw with rfl | rfl | rfl | rfl | rfl | rfl | rfl | rfl | rfl | rfl
  · exact va_Nw.warmC hW h
  · exact va_Nw.warmC hW h
  · exact va_Nw.warmC hW h
  · exact va_Nw.warmC hW h
  · exact va_Nw.warmC hW h
  · exact va_Nw.warmC hW h
  · exact va_Nw.warmD hW h
  · exact va_Nw.warmD hW h
  · exact va_Nw.warmM hW h
  · exact va_Nw.warmM hW h
theorem zm_nw_tabs : ∀ w ∈ zm_nws, w.onTables = true := by
  intro w hw
  simp only [zm_nws, List.mem_cons, List.not_mem_nil, or_false] at hw
  rcases hw with rfl | rfl | rfl | rfl | rfl | rfl | rfl | rfl | rfl | rfl <;> rfl
theorem zm_E.warm {G : zm_G} {A : Nat → Prop} {s U : State} {H0 H : Heap} {locs : List Loc} (h : zm_E G A s H0) (hW : s.WarmedH U.vm) (hS : va_S A H0 H locs) : zm_E G A U H := by
  obtain ⟨h1, h2, h3, ⟨h4, h5⟩, h6⟩ := h
  refine ⟨va_K.moved hW.alike h1, fun w hw => zm_nw_warm hW w hw (h2 w hw), fun q hq => (h3 q hq).moved hW.alike, ⟨h4.moved hW.alike, h5.moved hW.alike⟩, fun k hk => ?_⟩
  obtain ⟨g1, g2⟩ := h6 k hk
  exact ⟨(g1.moved hW.alike).kept hS.2.1, (g2.moved hW.alike).kept hS.2.1⟩
theorem zm_E.same {G : zm_G} {A : Nat → Prop} {u U : State} {H : Heap} (h : zm_E G A u H) (hv : u.vm = U.vm) : zm_E G A U H := by
  obtain ⟨h1, h2, h3, ⟨h4, h5⟩, h6⟩ := h
  have ha : u.vm.Alike U.vm := by rw [hv]; exact Vm.Alike.refl _
  refine ⟨va_K.moved ha h1, fun w hw => va_Nw.same (zm_nw_tabs w hw) hv (h2 w hw), fun q hq => (h3 q hq).moved ha, ⟨h4.moved ha, h5.moved ha⟩, fun k hk => ?_⟩
  obtain ⟨g1, g2⟩ := h6 k hk
  exact ⟨g1.moved ha, g2.moved ha⟩
/-- a contract's start and end -/
def zm_Pc (G : zm_G) (av : List Value) (A : Nat → Prop) (M : zm_M) : Array Value → State → Prop := fun v U => v = av.toArray ∧ zm_P G A M U.heap ∧ (∀ q : Nat, U.heap.size ≤ q → A q) ∧ zm_E G A U U.heap
def zm_Q (G : zm_G) (post : Option Value → zm_M → Prop) (A : Nat → Prop) : Array Value → State → Outcome → State → Prop := fun _ st oc t => (∃ (r : Option Value) (M' : zm_M), oc = .returned r ∧ post r M' ∧ zm_P G A M' t.heap) ∧ va_F A st t
/-- a method's words: its code, and all the law's -/
def zm_W (y : MethodName) (b : ByteArray) (n : Nat) (r : Option FieldType) : List Cond := .code y b n r :: wsL_law
abbrev zm_rm (k mc ms : Nat) : Room := { frames := k, cells := mc, slots := ms, locals := 40 * k }
set_option maxRecDepth 20000 in
theorem zm_good : wsL_law.all goodWord = true := by decide +kernel
theorem zm_GI {y : MethodName} {b : ByteArray} {n : Nat} {r : Option FieldType} (h : Cond.code y b n r ∈ wsL_law) : GoodIn wsL_law (zm_W y b n r) := fun w hw => by
  have hm : w ∈ wsL_law := by
    rcases List.mem_cons.mp hw with rfl | hw
    · exact h
    · exact hw
  exact ⟨hm, good_of_word (List.all_eq_true.mp zm_good w hm)⟩
theorem zm_start {l : Launch} {G : zm_G} {A : Nat → Prop} {M : zm_M} {post : Option Value → zm_M → Prop} {y : MethodName} {cc : ByteArray} {maxL : Nat} {ret : Option FieldType} {rm : Room} {mc ms : Nat} {av : List Value} (hy : plainName y.cls = true) (hav : (lg_sl av).length ≤ maxL)
    (body : ∀ (p : Program) (e : Env) (s : State) (m : MethodId) (below : List Frame) (meth : Method) (c : Code), p.tables.exec = Jvm.exec → c.code = cc → c.maxLocals = maxL → meth.sig.returnType = ret → (∀ w ∈ wsL_law, w.before av.toArray s = true) → s.vm.findClass y.cls = some m.cls → meth.locks = false → meth.name = y.name → zm_E G A s s.heap → (∀ q : Nat, s.heap.size ≤ q → A q) →
      ∀ ls : Array Slot, lv_has ls maxL (lv_args 0 av) → zm_P G A M s.heap → va_S A s.heap s.heap [] → W p l e rm s m av.toArray below meth c s.heap [] 0 0 (MQ below (zm_Q G post A) av.toArray s mc ms A) (F0 m 0 ls [])) :
    Met l y (zm_W y cc maxL ret) rm (zm_Pc G av A M) (zm_Q G post A) mc ms A := by
  refine Met.ofW (cc := cc) (maxL := maxL) (ret := ret) hy rfl ?_
  intro p e s m args below meth c s₁ B hml hv
  obtain ⟨rfl, hM, hA, hE⟩ := hv
  have hts := atoms_spec (ws := zm_W y cc maxL ret) B.pre
  have hl := lv_entry av (n := maxL) hav
  rw [lg_entry_eq]
  generalize (lg_sl av ++ List.replicate (maxL - (lg_sl av).length) Slot.unset).toArray = ls at hl ⊢
  exact body p e s m below meth c B.exec B.bytes hml B.returns (fun w h => hts w (List.mem_cons_of_mem _ h)) (findClass_of_methodNamed B.named) B.notSynchronized (name_of_methodNamed B.named B.method).1 hE hA ls hl hM va_S.rf
/-- fields: from class own by the pool's entry idx, the field k of class ci -/
def zm_fl (own : String) (idx ci k : Nat) : Prop := ∃ (C : String) (T : u_T) (N : Nat) (ref : String), vwCl[ci]? = some (C, T, N) ∧ (∀ w ∈ u_ws C T N, w ∈ wsL_law) ∧ k < N ∧ Cond.fieldLink own idx ref (T k).2.1 (T k).2.2.1 ∈ wsL_law ∧ (ref = (T k).1 ∨ Cond.sameField ref (T k).1 (T k).2.1 (T k).2.2.1 ∈ wsL_law)
def zm_fp (own : String) (idx ci k : Nat) (ty : FieldType) (fin : Bool) : Prop := ∃ (C : String) (T : u_T) (N : Nat) (ty0 : Nat → FieldType), vwCl[ci]? = some (C, T, N) ∧ (∀ w ∈ u_ws C T N, w ∈ wsL_law) ∧ (∀ k, k < N → parseFieldDescriptor (T k).2.2.1 = some (ty0 k)) ∧ (∀ a, a < N → ∀ b, b < N → a ≠ b → (T a).2.1 ≠ (T b).2.1) ∧ k < N ∧ Cond.fieldLink own idx (T k).1 (T k).2.1 (T k).2.2.1 ∈ wsL_law ∧ (T k).2.2.2 = fin ∧ (fin = true → (T k).1 = own) ∧ parseFieldDescriptor (T k).2.2.1 = some ty
/-- calls: static; of one's own kind; constructors -/
def zm_cd (y : MethodName) (b : ByteArray) (n : Nat) (r : Option FieldType) (np : Nat) : Prop := Cond.code y b n r ∈ wsL_law ∧ Cond.initialized y.cls ∈ wsL_law ∧ (y.cls ≠ "java/lang/invoke/MethodHandle" ∧ y.cls ≠ "java/lang/invoke/VarHandle" ∧ (parseMethodDescriptor y.desc).map (fun d => d.parameters.length) = some np)
