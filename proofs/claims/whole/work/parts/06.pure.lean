/-! THE STATE, as numbers and lists; what each call answers and does to it -/
abbrev zS : Type := (Nat × Nat) × ((Nat → Nat) × (Nat → Nat) × (Nat → Int32)) × ((Nat → Nat → Int64) × (Nat → Nat → Option Nat)) × ((Nat → Option Nat) × Option Nat) × (Nat → Nat × Nat × Nat × Nat) × (Int64 × Int32 × Int32 × Int32)
abbrev s_np (S : zS) : Nat := S.1.1
abbrev s_nc (S : zS) : Nat := S.1.2
abbrev s_kd (S : zS) : Nat → Nat := S.2.1.1
abbrev s_sz (S : zS) : Nat → Nat := S.2.1.2.1
abbrev s_wr (S : zS) : Nat → Int32 := S.2.1.2.2
abbrev s_nu (S : zS) : Nat → Nat → Int64 := S.2.2.1.1
abbrev s_th (S : zS) : Nat → Nat → Option Nat := S.2.2.1.2
abbrev s_sl (S : zS) : Nat → Option Nat := S.2.2.2.1.1
abbrev s_hd (S : zS) : Option Nat := S.2.2.2.1.2
abbrev s_cu (S : zS) : Nat → Nat × Nat × Nat × Nat := S.2.2.2.2.1
abbrev s_po (S : zS) : Int64 := S.2.2.2.2.2.1
abbrev s_wy (S : zS) : Int32 := S.2.2.2.2.2.2.1
abbrev s_at (S : zS) : Int32 := S.2.2.2.2.2.2.2.1
abbrev s_of (S : zS) : Int32 := S.2.2.2.2.2.2.2.2
abbrev w_wr (S : zS) (v : Nat → Int32) : zS := (S.1, (S.2.1.1, S.2.1.2.1, v), S.2.2)
abbrev w_nu (S : zS) (v : Nat → Nat → Int64) : zS := (S.1, S.2.1, (v, S.2.2.1.2), S.2.2.2)
abbrev w_th (S : zS) (v : Nat → Nat → Option Nat) : zS := (S.1, S.2.1, (S.2.2.1.1, v), S.2.2.2)
abbrev w_sl (S : zS) (v : Nat → Option Nat) : zS := (S.1, S.2.1, S.2.2.1, (v, S.2.2.2.1.2), S.2.2.2.2)
abbrev w_hd (S : zS) (v : Option Nat) : zS := (S.1, S.2.1, S.2.2.1, (S.2.2.2.1.1, v), S.2.2.2.2)
abbrev w_po (S : zS) (v : Int64) : zS := (S.1, S.2.1, S.2.2.1, S.2.2.2.1, S.2.2.2.2.1, (v, S.2.2.2.2.2.2))
abbrev w_ms (S : zS) (y a o : Int32) : zS := (S.1, S.2.1, S.2.2.1, S.2.2.2.1, S.2.2.2.2.1, (S.2.2.2.2.2.1, y, a, o))
abbrev w_nc (S : zS) (n : Nat) : zS := ((S.1.1, n), S.2)
abbrev w_cu (S : zS) (n : Nat) (v : Nat → Nat × Nat × Nat × Nat) : zS := ((S.1.1, n), S.2.1, S.2.2.1, S.2.2.2.1, v, S.2.2.2.2.2)
def s_0 : zS := ((0, 0), (fun _ => 0, fun _ => 0, fun _ => 0), (fun _ _ => 0, fun _ _ => none), (fun _ => none, none), (fun _ => (0, 0, 0, 0)), (0, 0, -1, 0))
def oI (o : Option Nat) : Int32 := match o with
  | none => -1
  | some j => nI j
def bI (b : Bool) : Int32 := if b = true then 1 else 0
theorem bI_0 {b : Bool} : bI b = 0 ↔ b = false := by cases b <;> simp [bI]
theorem bI_n {b : Bool} : ¬ bI b = 0 ↔ b = true := by cases b <;> simp [bI]
theorem bI_01 (b : Bool) : bI b = 0 ∨ bI b = 1 := by cases b <;> simp [bI]
def ix (n : Nat) (x : Int32) : Option Nat := if x < 0 ∨ nI n ≤ x then none else some x.toNatClampNeg
theorem ix_some {n j : Nat} {x : Int32} (hn : n < 2 ^ 31) (h : ix n x = some j) : j < n ∧ x = nI j := by
  unfold ix at h
  split at h
  · cases h
  · rename_i hc
    rcases pk_ix x hn with h1 | h1 | ⟨k, h1, rfl⟩
    · exact absurd (Or.inl h1) hc
    · exact absurd (Or.inr h1) hc
    · rw [nI_clamp (by omega)] at h
      cases h
      exact ⟨h1, rfl⟩
theorem ix_nI {n j : Nat} (hn : n < 2 ^ 31) (h : j < n) : ix n (nI j) = some j := by
  unfold ix
  rw [if_neg, nI_clamp (by omega)]
  rintro (q | q)
  · exact nI_pos (by omega) q
  · exact nI_ge h hn q
theorem ix_lt {n : Nat} {x : Int32} (h : x < 0) : ix n x = none := by unfold ix; rw [if_pos (Or.inl h)]
theorem ix_ge {n : Nat} {x : Int32} (h : nI n ≤ x) : ix n x = none := by unfold ix; rw [if_pos (Or.inr h)]
theorem ix_in {n : Nat} {x : Int32} (hn : n < 2 ^ 31) (h : ¬ x < 0) (h2 : ¬ nI n ≤ x) : ∃ j, j < n ∧ x = nI j ∧ ix n x = some j := by
  rcases pk_ix x hn with h1 | h1 | ⟨k, h1, rfl⟩
  · exact absurd h1 h
  · exact absurd h1 h2
  · exact ⟨k, h1, rfl, ix_nI hn h1⟩
theorem ix_none {n : Nat} {x : Int32} (h : ix n x = none) : x < 0 ∨ nI n ≤ x := by
  unfold ix at h
  split at h
  · assumption
  · cases h
theorem oI_nI {j : Nat} (h : j < 2 ^ 31) : ¬ nI j = -1 := by
  intro q
  have := nI_toInt h
  rw [q] at this
  simp at this
theorem oI_m1 {o : Option Nat} (h : ∀ j, o = some j → j < 2 ^ 31) : oI o = -1 ↔ o = none := by
  cases o with
  | none => simp [oI]
  | some j => simp only [oI, reduceCtorEq, iff_false]; exact oI_nI (h j rfl)
def gA (k v : Nat) : Bool := k == v || (match k with
  | 5 => v == 4
  | 6 => v == 4 || v == 16
  | 7 => v == 16
  | 9 => v == 8
  | 10 => v == 8 || v == 11
  | 12 => v == 11
  | 14 => v == 13 || v == 15
  | _ => false)
def inn (v : Nat) : Nat := match v with
  | 8 => 4
  | 9 => 5
  | 10 => 6
  | 11 => 16
  | 12 => 7
  | 13 => 8
  | 14 => 10
  | _ => 11
def hasV (a v : Nat) : Bool := match a with
  | 1 => (decide (4 ≤ v) && decide (v ≤ 6)) || (decide (8 ≤ v) && decide (v ≤ 10)) || (decide (13 ≤ v) && decide (v ≤ 14))
  | 2 => decide (8 ≤ v) && decide (v ≤ 15)
  | 3 => decide (8 ≤ v) && decide (v ≤ 15)
  | _ => true
def goS (S : zS) (o : Option Nat) (v : Nat) : Bool := match o with
  | none => true
  | some j => gA (s_kd S j) v
def many (S : zS) (j : Nat) : Nat := if s_kd S j = 3 then 3 * s_sz S j else s_sz S j
def isPc (k : Nat) : Bool := decide (4 ≤ k) && decide (k ≤ 7)
def isRw (k : Nat) : Bool := decide (8 ≤ k) && decide (k ≤ 15)
def cutV (k : Nat) (v : Int32) : Int64 := match k with
  | 0 => (v &&& 65535).toInt64
  | 1 => v.toInt16.toInt32.toInt64
  | 2 => v.toInt64
  | _ => v.toInt8.toInt32.toInt64
def zsum (f : Nat → Int64) : Nat → Int64
  | 0 => 0
  | n + 1 => zsum f n + f n
def wOne (S : zS) (j v : Nat) : Int64 := match v with
  | 4 => (nI (s_sz S j)).toInt64 + (s_wr S j).toInt64
  | 5 => 2 * (s_wr S j).toInt64
  | 6 => 3 * (nI (s_sz S j)).toInt64
  | 7 => (nI (s_sz S j)).toInt64
  | _ => if s_kd S j = 6 then (nI (s_sz S j)).toInt64 + 5 else 2 * (nI (s_sz S j)).toInt64
def wAt (f : Nat → Int64) (o : Option Nat) : Int64 := match o with
  | none => 0
  | some t => f t
def wRow (S : zS) (j v : Nat) : Int64 := zsum (fun i => wAt (fun t => wOne S t (inn v)) (s_th S j i)) (s_sz S j)
def wOf (S : zS) (j v : Nat) : Int64 :=
  if v < 4 then zsum (s_nu S j) (many S j)
  else if v < 8 ∨ v = 16 then wOne S j v
  else if v < 13 then wRow S j v
  else zsum (fun i => wAt (fun t => wRow S t (inn v)) (s_th S j i)) (s_sz S j)
def wInc (w : Nat → Int32) (o : Option Nat) : Nat → Int32 := match o with
  | none => w
  | some t => upd w t (w t + 1)
/-- the wear of a row's parts, n of them -/
def wrR (S : zS) (j : Nat) (w : Nat → Int32) : Nat → (Nat → Int32)
  | 0 => w
  | n + 1 => wInc (wrR S j w n) (s_th S j n)
def wrO (S : zS) (w : Nat → Int32) (o : Option Nat) : Nat → Int32 := match o with
  | none => w
  | some t => wrR S t w (s_sz S t)
def wrS (S : zS) (j : Nat) (w : Nat → Int32) : Nat → (Nat → Int32)
  | 0 => w
  | n + 1 => wrO S (wrS S j w n) (s_th S j n)
def wAll (S : zS) (j : Nat) : Nat → Int32 :=
  if s_kd S j < 8 then upd (s_wr S) j (s_wr S j + 1)
  else if s_kd S j < 13 then wrR S j (s_wr S) (s_sz S j)
  else wrS S j (s_wr S) (s_sz S j)
def up2 {α : Type} (f : Nat → Nat → α) (j i : Nat) (v : α) : Nat → Nat → α := fun a b => if a = j ∧ b = i then v else f a b
def stp (S : zS) (c : Nat) : Int32 × zS :=
  if goS S (s_sl S (s_cu S c).2.1) (s_cu S c).2.2.1 = false then (-5, S)
  else match (s_cu S c).1 with
    | 0 => (match s_sl S (s_cu S c).2.1 with
      | none => (-4, S)
      | some j => (0, w_po S (s_po S + wOf S j (s_cu S c).2.2.1)))
    | 1 => (match s_sl S (s_cu S c).2.1 with
      | none => (-4, S)
      | some j => (0, w_wr S (wAll S j)))
    | 2 => (match s_sl S (s_cu S c).2.1 with
      | none => (-4, S)
      | some j => if (s_cu S c).2.2.2 < s_sz S j then (0, w_th (w_hd S (s_th S j (s_cu S c).2.2.2)) (up2 (s_th S) j (s_cu S c).2.2.2 none)) else (-6, S))
    | 3 => if goS S (s_hd S) (inn (s_cu S c).2.2.1) = false then (-5, S)
      else (match s_sl S (s_cu S c).2.1 with
      | none => (-4, S)
      | some j => if (s_cu S c).2.2.2 < s_sz S j then (if goS S (s_hd S) (inn (s_kd S j)) = false then (-7, S) else (0, w_th (w_hd S none) (up2 (s_th S) j (s_cu S c).2.2.2 (s_hd S)))) else (-6, S))
    | 4 => (0, w_hd (w_sl S (va_up (s_sl S) (s_cu S c).2.1 (s_hd S))) (s_sl S (s_cu S c).2.1))
    | _ => (0, w_sl S (va_up (s_sl S) (s_cu S c).2.2.2 (s_sl S (s_cu S c).2.1)))
def pls : Nat → Nat → zS → Nat × zS
  | 0, _, S => (0, S)
  | n + 1, c, S => if (stp S c).1 = 0 then ((pls n (c + 1) (stp S c).2).1 + 1, (pls n (c + 1) (stp S c).2).2) else (0, w_ms S (stp S c).1 (nI c) (s_of S + 1))
def sp_prop (S : zS) (k n : Int32) : Int32 × zS := match ix 16 k with
  | none => (-2, S)
  | some kk => match ix (if isPc kk = true then 101 else 6) n with
    | none => (-2, S)
    | some nn => if s_np S = 50 then (-3, S) else (nI (s_np S), ((s_np S + 1, s_nc S), (va_up (s_kd S) (s_np S) kk, va_up (s_sz S) (s_np S) nn, upd (s_wr S) (s_np S) 0), (va_up (s_nu S) (s_np S) (fun _ => 0), va_up (s_th S) (s_np S) (fun _ => none)), S.2.2.2))
def sp_set (S : zS) (p i v : Int32) : Int32 × zS := match ix (s_np S) p with
  | none => (-2, S)
  | some j => if 3 < s_kd S j then (-5, S) else match ix (many S j) i with
    | none => (-6, S)
    | some ii => (1, w_nu S (up2 (s_nu S) j ii (cutV (s_kd S j) v)))
def px (S : zS) (p : Int32) : Option (Option Nat) := if p = -1 then some none else (ix (s_np S) p).map some
def sp_slot (S : zS) (x p : Int32) : Int32 × zS := match ix 10 x, px S p with
  | some j, some o => (oI (s_sl S j), w_sl S (va_up (s_sl S) j o))
  | _, _ => (-2, S)
def sp_held (S : zS) (x : Int32) : Int32 := match ix 10 x with
  | none => -2
  | some j => oI (s_sl S j)
def sp_cue (S : zS) (a x v i : Int32) : Int32 × zS := match ix 6 a, ix 10 x, ix 17 v, ix 10 i with
  | some aa, some xx, some vv, some ii => if hasV aa vv = false then (-2, S) else if s_nc S = 30 then (-3, S) else (nI (s_nc S), w_cu S (s_nc S + 1) (va_up (s_cu S) (s_nc S) (aa, xx, vv, ii)))
  | _, _, _, _ => (-2, S)
def sp_play (S : zS) (a b : Int32) : Int32 × zS := match ix (s_nc S) a, ix (s_nc S) b with
  | some x, some y => if x ≤ y then (nI (pls (y + 1 - x) x (w_ms S 0 (-1) (s_of S))).1, (pls (y + 1 - x) x (w_ms S 0 (-1) (s_of S))).2) else (-2, S)
  | _, _ => (-2, S)
def sp_miscue (S : zS) (w : Int32) : Int32 := if w = 0 then s_wy S else if w = 1 then s_at S else if w = 2 then s_of S else -2
def sp_is (S : zS) (p v : Int32) : Int32 := match ix (s_np S) p, ix 17 v with
  | some j, some w => bI (gA (s_kd S j) w)
  | _, _ => -2
def sp_worth (S : zS) (p v : Int32) : Int64 := match ix (s_np S) p, ix 17 v with
  | some j, some w => if gA (s_kd S j) w = true then wOf S j w else 0
  | _, _ => 0
def sp_wear (S : zS) (p : Int32) : Int32 := match ix (s_np S) p with
  | none => -2
  | some j => if 4 ≤ s_kd S j ∧ s_kd S j ≤ 6 then s_wr S j else -5
def sp_at (S : zS) (p i : Int32) : Int32 := match ix (s_np S) p with
  | none => -2
  | some j => if isRw (s_kd S j) = true then (match ix (s_sz S j) i with
    | none => -6
    | some ii => oI (s_th S j ii)) else -5
def sp_count (S : zS) (w : Int32) : Int32 := if w = 0 then nI (s_np S) else if w = 1 then nI (s_nc S) else -2
/-- what holds of every state -/
def zInv (S : zS) : Prop := s_np S ≤ 50 ∧ s_nc S ≤ 30 ∧ (∀ j, j < s_np S → s_kd S j < 16 ∧ s_sz S j ≤ 100 ∧ (isPc (s_kd S j) = false → s_sz S j ≤ 5)) ∧ (∀ j, j < s_np S → 8 ≤ s_kd S j → ∀ i t, i < s_sz S j → s_th S j i = some t → t < s_np S ∧ gA (s_kd S t) (inn (s_kd S j)) = true) ∧ (∀ i t, i < 10 → s_sl S i = some t → t < s_np S) ∧ (∀ t, s_hd S = some t → t < s_np S) ∧ ∀ c, c < s_nc S → (s_cu S c).1 < 6 ∧ (s_cu S c).2.1 < 10 ∧ (s_cu S c).2.2.1 < 17 ∧ (s_cu S c).2.2.2 < 10 ∧ hasV (s_cu S c).1 (s_cu S c).2.2.1 = true
