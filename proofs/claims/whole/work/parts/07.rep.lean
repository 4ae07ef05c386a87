/-! THE PICTURES: the class's cells, the reference's cells -/
/-- addresses: this, props[], slots[], cues[]; the props, their arrays, the cues -/
abbrev zB : Type := (Nat × Nat × Nat × Nat) × (Nat → Nat) × (Nat → Nat) × (Nat → Nat)
def oA (B : zB) (o : Option Nat) : Option Nat := o.map B.2.1
def pcell (B : zB) (S : zS) (j : Nat) : va_E := if isPc (s_kd S j) = true then .inr (2, [.int (nI j), .int (nI (s_kd S j)), .int (nI (s_sz S j)), .int (s_wr S j)]) else if isRw (s_kd S j) = true then .inr (3, [.int (nI j), .int (nI (s_kd S j)), .ref (B.2.2.1 j)]) else .inr (1, [.int (nI j), .int (nI (s_kd S j)), .ref (B.2.2.1 j)])
abbrev objC (B : zB) (S : zS) : List Value := [.ref B.1.2.1, .int (nI (s_np S)), .ref B.1.2.2.1, va_rf (oA B (s_hd S)), .ref B.1.2.2.2, .int (nI (s_nc S)), .long (s_po S), .int (s_wy S), .int (s_at S), .int (s_of S)]
abbrev cueC (S : zS) (c : Nat) : List Value := [.int (nI (s_cu S c).1), .int (nI (s_cu S c).2.1), .int (nI (s_cu S c).2.2.1), .int (nI (s_cu S c).2.2.2)]
def RepC (G : zm_G) (B : zB) (S : zS) (M : zm_M) : Prop := M B.1.1 = some (.inr (4, objC B S)) ∧ (∃ f, M B.1.2.1 = some (zm_R G 50 f) ∧ ∀ j, j < s_np S → f j = some (B.2.1 j)) ∧ (∃ f, M B.1.2.2.1 = some (zm_R G 10 f) ∧ ∀ i, i < 10 → f i = oA B (s_sl S i)) ∧ (∃ f, M B.1.2.2.2 = some (zm_C G 30 f) ∧ ∀ c, c < s_nc S → f c = some (B.2.2.2 c)) ∧ (∀ c, c < s_nc S → M (B.2.2.2 c) = some (.inr (0, cueC S c))) ∧ (∀ j, j < s_np S → M (B.2.1 j) = some (pcell B S j)) ∧ (∀ j, j < s_np S → isRw (s_kd S j) = true → ∃ f, M (B.2.2.1 j) = some (zm_R G (s_sz S j) f) ∧ ∀ i, i < s_sz S j → f i = oA B (s_th S j i)) ∧ (∀ j, j < s_np S → s_kd S j < 4 → ∃ f, M (B.2.2.1 j) = some (zm_J G (many S j) f) ∧ ∀ i, i < many S j → f i = s_nu S j i) ∧ ∀ j k, j < s_np S → k < s_np S → isPc (s_kd S j) = false → isPc (s_kd S k) = false → B.2.2.1 j = B.2.2.1 k → j = k
abbrev zln (k : Nat) : Nat := match k with
  | 1 => 50
  | 2 => 50
  | 3 => 50
  | 5 => 250
  | 6 => 10
  | _ => 30
abbrev objR (q : Nat → Nat) (S : zS) : List Value := [.int (nI (s_np S)), .ref (q 1), .ref (q 2), .ref (q 3), .ref (q 4), .ref (q 5), .ref (q 6), .int (oI (s_hd S)), .int (nI (s_nc S)), .ref (q 7), .ref (q 8), .ref (q 9), .ref (q 10), .long (s_po S), .int (s_wy S), .int (s_at S), .int (s_of S)]
def zRA (G : zm_G) (q : Nat → Nat) (xs : List Value) (f : Nat → Nat → Int32) (g : Nat → Int64) (N : zm_M) : Prop := (∀ i j, i < 11 → j < 11 → q i = q j → i = j) ∧ N (q 0) = some (.inr (5, xs)) ∧ (∀ k, 1 ≤ k → k < 11 → k ≠ 4 → N (q k) = some (zm_I G (zln k) (f k))) ∧ N (q 4) = some (zm_J G 750 g)
def zAbs (S : zS) (f : Nat → Nat → Int32) (g : Nat → Int64) : Prop := (∀ j, j < s_np S → f 1 j = nI (s_kd S j) ∧ f 2 j = nI (s_sz S j) ∧ f 3 j = s_wr S j) ∧ (∀ j i, j < s_np S → i < 15 → g (15 * j + i) = s_nu S j i) ∧ (∀ j i, j < s_np S → i < 5 → f 5 (5 * j + i) = oI (s_th S j i)) ∧ (∀ i, i < 10 → f 6 i = oI (s_sl S i)) ∧ ∀ c, c < s_nc S → f 7 c = nI (s_cu S c).1 ∧ f 8 c = nI (s_cu S c).2.1 ∧ f 9 c = nI (s_cu S c).2.2.1 ∧ f 10 c = nI (s_cu S c).2.2.2
def RepR (G : zm_G) (q : Nat → Nat) (S : zS) (N : zm_M) : Prop := ∃ f g, zRA G q (objR q S) f g N ∧ zAbs S f g
theorem zRA.ar {G : zm_G} {q : Nat → Nat} {xs : List Value} {f : Nat → Nat → Int32} {g : Nat → Int64} {N : zm_M} (h : zRA G q xs f g N) (k : Nat) (h1 : 1 ≤ k := by decide) (h2 : k < 11 := by decide) (h3 : k ≠ 4 := by decide) : N (q k) = some (zm_I G (zln k) (f k)) := h.2.2.1 k h1 h2 h3
theorem zRA.arr {G : zm_G} {q : Nat → Nat} {xs : List Value} {f : Nat → Nat → Int32} {g : Nat → Int64} {N : zm_M} (h : zRA G q xs f g N) (k : Nat) (u : Nat → Int32) (h1 : 1 ≤ k := by decide) (h2 : k < 11 := by decide) (h3 : k ≠ 4 := by decide) : zRA G q xs (va_up f k u) g (zm_up N (q k) (zm_I G (zln k) u)) := by
  obtain ⟨hi, h0, ha, hn⟩ := h
  refine ⟨hi, zm_up_k (fun e => ?_) h0, fun j j1 j2 j3 => ?_, zm_up_k (fun e => ?_) hn⟩
  · have := hi 0 k (by omega) h2 e; omega
  · by_cases hj : j = k
    · subst hj; rw [zm_up_s, va_up_self]
    · rw [va_up_ne _ _ hj]; exact zm_up_k (fun e => hj (hi j k j2 h2 e)) (ha j j1 j2 j3)
  · exact h3 (hi 4 k (by omega) h2 e).symm
theorem zRA.num {G : zm_G} {q : Nat → Nat} {xs : List Value} {f : Nat → Nat → Int32} {g : Nat → Int64} {N : zm_M} (h : zRA G q xs f g N) (u : Nat → Int64) : zRA G q xs f u (zm_up N (q 4) (zm_J G 750 u)) := by
  obtain ⟨hi, h0, ha, hn⟩ := h
  refine ⟨hi, zm_up_k (fun e => ?_) h0, fun j j1 j2 j3 => zm_up_k (fun e => j3 (hi j 4 j2 (by omega) e)) (ha j j1 j2 j3), zm_up_s⟩
  have := hi 0 4 (by omega) (by omega) e; omega
theorem zRA.fld {G : zm_G} {q : Nat → Nat} {xs : List Value} {f : Nat → Nat → Int32} {g : Nat → Int64} {N : zm_M} (h : zRA G q xs f g N) (ys : List Value) : zRA G q ys f g (zm_up N (q 0) (.inr (5, ys))) := by
  obtain ⟨hi, h0, ha, hn⟩ := h
  refine ⟨hi, zm_up_s, fun j j1 j2 j3 => zm_up_k (fun e => ?_) (ha j j1 j2 j3), zm_up_k (fun e => ?_) hn⟩
  · have := hi j 0 j2 (by omega) e; omega
  · have := hi 4 0 (by omega) (by omega) e; omega
/-! rows on references that may be null -/
section ZQ
variable {p : Program} {l : Launch} {e : Env} {R : Room} {s : State} {m : MethodId} {args : Array Value} {below : List Frame} {meth : Method} {c : Code} {H : Heap} {locs : List Loc} {cells slots : Nat} {Q : State → Prop}
variable {cc : ByteArray} {pc : Nat} {ls : Array Slot} {rest : List Value} {r : Option Nat}
theorem zq_aload_n (hexec : p.tables.exec = Jvm.exec) (hb : c.code = cc) {k : Fin 4} {i : Nat} (hdg : decode cc pc = .ok (.aload_n k, 1)) (hi : (k : Nat) = i) (hl : ls[i]? = some (.val (va_rf r)))
    (kk : W p l e R s m args below meth c H locs cells slots Q (F0 m (pc + 1) ls (va_rf r :: rest))) : W p l e R s m args below meth c H locs cells slots Q (F0 m pc ls rest) := by
  cases r with
  | none => exact lv_aload_nN hexec hb hdg hi hl kk
  | some v => exact lv_aload_n hexec hb hdg hi hl kk
theorem zq_aload (hexec : p.tables.exec = Jvm.exec) (hb : c.code = cc) {i : Nat} (hdg : decode cc pc = .ok (.aload i, 2)) (hl : ls[i]? = some (.val (va_rf r)))
    (kk : W p l e R s m args below meth c H locs cells slots Q (F0 m (pc + 2) ls (va_rf r :: rest))) : W p l e R s m args below meth c H locs cells slots Q (F0 m pc ls rest) := by
  cases r with
  | none => exact lv_aloadN hexec hb hdg hl kk
  | some v => exact lv_aload hexec hb hdg hl kk
theorem zq_astore_n (hexec : p.tables.exec = Jvm.exec) (hb : c.code = cc) {k : Fin 4} {i nL : Nat} {lv lv' : List (Nat × Value)} (hdg : decode cc pc = .ok (.astore_n k, 1)) (hi : (k : Nat) = i) (h : lv_has ls nL lv) (hn : i < nL) (hl : (i, va_rf r) :: lv.filter (fun q => !(q.1 == i) && !(q.1 + 1 == i && q.2.category == 2)) = lv')
    (kk : ∀ ls' : Array Slot, lv_has ls' nL lv' → W p l e R s m args below meth c H locs cells slots Q (F0 m (pc + 1) ls' rest)) : W p l e R s m args below meth c H locs cells slots Q (F0 m pc ls (va_rf r :: rest)) := by
  cases r with
  | none => exact lv_astore_nN hexec hb hdg hi h hn hl kk
  | some v => exact lv_astore_n hexec hb hdg hi h hn hl kk
theorem zq_astore (hexec : p.tables.exec = Jvm.exec) (hb : c.code = cc) {i nL : Nat} {lv lv' : List (Nat × Value)} (hdg : decode cc pc = .ok (.astore i, 2)) (h : lv_has ls nL lv) (hn : i < nL) (hl : (i, va_rf r) :: lv.filter (fun q => !(q.1 == i) && !(q.1 + 1 == i && q.2.category == 2)) = lv')
    (kk : ∀ ls' : Array Slot, lv_has ls' nL lv' → W p l e R s m args below meth c H locs cells slots Q (F0 m (pc + 2) ls' rest)) : W p l e R s m args below meth c H locs cells slots Q (F0 m pc ls (va_rf r :: rest)) := by
  cases r with
  | none => exact lv_astoreN hexec hb hdg h hn hl kk
  | some v => exact lv_astore hexec hb hdg h hn hl kk
theorem zq_ifnull (hexec : p.tables.exec = Jvm.exec) (hb : c.code = cc) {off : Int} {tgt : Nat} (hdg : decode cc pc = .ok (.ifnull off, 3)) (ht : (pc : Int) + off = (tgt : Int)) (kt : r = none → W p l e R s m args below meth c H locs cells slots Q (F0 m tgt ls rest)) (kf : ∀ v, r = some v → W p l e R s m args below meth c H locs cells slots Q (F0 m (pc + 3) ls rest)) : W p l e R s m args below meth c H locs cells slots Q (F0 m pc ls (va_rf r :: rest)) := by
  cases r with
  | none => exact lv_ifnullN hexec hb hdg ht (kt rfl)
  | some v => exact lv_ifnull hexec hb hdg (kf v rfl)
theorem zq_ifnonnull (hexec : p.tables.exec = Jvm.exec) (hb : c.code = cc) {off : Int} {tgt : Nat} (hdg : decode cc pc = .ok (.ifnonnull off, 3)) (ht : (pc : Int) + off = (tgt : Int)) (kt : ∀ v, r = some v → W p l e R s m args below meth c H locs cells slots Q (F0 m tgt ls rest)) (kf : r = none → W p l e R s m args below meth c H locs cells slots Q (F0 m (pc + 3) ls rest)) : W p l e R s m args below meth c H locs cells slots Q (F0 m pc ls (va_rf r :: rest)) := by
  cases r with
  | none => exact lv_ifnonnullN hexec hb hdg (kf rfl)
  | some v => exact lv_ifnonnull hexec hb hdg ht (kt v rfl)
end ZQ
