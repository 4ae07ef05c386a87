set_option maxRecDepth 100000 in
set_option maxHeartbeats 4000000 in
theorem c_X5_isAmong (l : Launch) (G : zm_G) (A : Nat → Prop) (M : zm_M) (x y : Int32) : Met l yX5_isAmong (zm_W yX5_isAmong cX5_isAmong 2 (some .boolean)) (zm_rm 0 0 0) (zm_Pc G [.int x, .int y] A M) (zm_Q G (fun r M' => r = some (.int (bI (decide ((x >>> (y &&& 31)) &&& 1 = 1)))) ∧ M' = M) A) 0 0 A := by
  refine zm_start (by decide) (Nat.le_of_ble_eq_true rfl) ?_
  intro p e s m below meth c hx hb hml hr hts hown hlk hnm hE hA ls hl hM hS
  have hl : lv_has ls 2 [(0, .int x), (1, .int y)] := hl
  refine lv_iload_n hx hb dX5_isAmong_0 rfl (lv_at hl 0 rfl) ?_
  refine lv_iload_n hx hb dX5_isAmong_1 rfl (lv_at hl 1 rfl) ?_
  refine lv_ishr hx hb dX5_isAmong_2 ?_
  refine lv_iconst (v := 1) hx hb dX5_isAmong_3 (by decide) ?_
  refine lv_iand hx hb dX5_isAmong_4 ?_
  refine lv_iconst (v := 1) hx hb dX5_isAmong_5 (by decide) ?_
  refine lv_icmp_ne (tgt := 13) hx hb dX5_isAmong_6 (by decide) (fun c6 => ?_) (fun c6 => ?_)
  · refine lv_iconst (v := 0) hx hb dX5_isAmong_13 (by decide) ?_
    refine zm_zret hx hb hr hlk hM hS (by first | exact Or.inl rfl | exact Or.inr rfl | exact bI_01 _) ?_ ⟨Nat.le_refl _, Nat.le_refl _⟩ dX5_isAmong_14
    refine ⟨?_, rfl⟩
    first | (rw [decide_eq_true (by assumption)]; rfl) | (rw [decide_eq_false (by assumption)]; rfl)
  · refine lv_iconst (v := 1) hx hb dX5_isAmong_9 (by decide) ?_
    refine lv_goto (tgt := 14) hx hb dX5_isAmong_10 (by decide) ?_
    refine zm_zret hx hb hr hlk hM hS (by first | exact Or.inl rfl | exact Or.inr rfl | exact bI_01 _) ?_ ⟨Nat.le_refl _, Nat.le_refl _⟩ dX5_isAmong_14
    refine ⟨?_, rfl⟩
    first | (rw [decide_eq_true (by assumption)]; rfl) | (rw [decide_eq_false (by assumption)]; rfl)
theorem zbt_pc : ∀ k, k < 16 → zbt 4 7 (nI k) = isPc k := by decide
theorem zbt_rw : ∀ k, k < 17 → zbt 8 15 (nI k) = isRw k := by decide
set_option maxRecDepth 100000 in
set_option maxHeartbeats 4000000 in
theorem c_X5_mostOf (l : Launch) (G : zm_G) (A : Nat → Prop) (M : zm_M) (k : Nat) (hk : k < 16) : Met l yX5_mostOf (zm_W yX5_mostOf cX5_mostOf 1 (some .int)) (zm_rm 1 0 0) (zm_Pc G [.int (nI k)] A M) (zm_Q G (fun r M' => r = some (.int (nI (if isPc k = true then 100 else 5))) ∧ M' = M) A) 0 0 A := by
  refine zm_start (by decide) (Nat.le_of_ble_eq_true rfl) ?_
  intro p e s m below meth c hx hb hml hr hts hown hlk hnm hE hA ls hl hM hS
  have hl : lv_has ls 1 [(0, .int (nI k))] := hl
  refine lv_iload_n hx hb dX5_mostOf_0 rfl (lv_at hl 0 rfl) ?_
  refine zm_callS (As := [.int (nI k)]) (rest := []) hx hb hml hts hown hE hA hM hS (c_X5_isPiece l G A _ (nI k)) cd_X5_isPiece ml_X5_149 rfl rfl hl.1 (Nat.le_of_ble_eq_true rfl) ⟨Nat.le_of_ble_eq_true rfl, Nat.le_of_ble_eq_true rfl⟩ ⟨Nat.le_of_ble_eq_true rfl, Nat.le_of_ble_eq_true rfl⟩ dX5_mostOf_1 ?_
  rintro r M1 H locs ⟨rfl, e1⟩ hM hS
  rw [e1] at hM
  clear e1 M1
  refine W.eq (g2 := F0 m 4 ls [.int (bI (zbt 4 7 (nI k)))]) rfl ?_
  refine lv_if_eq (tgt := 12) hx hb dX5_mostOf_4 (by decide) (fun c4 => ?_) (fun c4 => ?_)
  · rw [zbt_pc k hk, bI_0] at c4
    refine lv_iconst (v := 5) hx hb dX5_mostOf_12 (by decide) ?_
    refine zm_iret hx hb hr hlk hM hS ?_ ⟨Nat.le_refl _, Nat.le_refl _⟩ dX5_mostOf_13
    refine ⟨?_, rfl⟩
    first | (rw [if_pos c4]; rfl) | (rw [if_neg (by rw [c4]; decide)]; rfl)
  · rw [zbt_pc k hk, bI_n] at c4
    refine lv_bipush (v := 100) hx hb dX5_mostOf_7 (by decide) ?_
    refine lv_goto (tgt := 13) hx hb dX5_mostOf_9 (by decide) ?_
    refine zm_iret hx hb hr hlk hM hS ?_ ⟨Nat.le_refl _, Nat.le_refl _⟩ dX5_mostOf_13
    refine ⟨?_, rfl⟩
    first | (rw [if_pos c4]; rfl) | (rw [if_neg (by rw [c4]; decide)]; rfl)
theorem zpv_tab : ∀ k, k < 8 → zm_tv 2 k = nI (inn (8 + k)) := by decide
set_option maxRecDepth 100000 in
set_option maxHeartbeats 4000000 in
theorem c_X5_partView (l : Launch) (G : zm_G) (A : Nat → Prop) (M : zm_M) (k : Nat) (hk : 8 ≤ k) (hk2 : k ≤ 15) : Met l yX5_partView (zm_W yX5_partView cX5_partView 1 (some .int)) (zm_rm 1 0 0) (zm_Pc G [.int (nI k)] A M) (zm_Q G (fun r M' => r = some (.int (nI (inn k))) ∧ M' = M) A) 0 0 A := by
  refine zm_start (by decide) (Nat.le_of_ble_eq_true rfl) ?_
  intro p e s m below meth c hx hb hml hr hts hown hlk hnm hE hA ls hl hM hS
  have hl : lv_has ls 1 [(0, .int (nI k))] := hl
  refine lv_iload_n hx hb dX5_partView_0 rfl (lv_at hl 0 rfl) ?_
  refine zm_callS (As := [.int (nI k)]) (rest := []) hx hb hml hts hown hE hA hM hS (c_X5_isRow l G A _ (nI k)) cd_X5_isRow ml_X5_155 rfl rfl hl.1 (Nat.le_of_ble_eq_true rfl) ⟨Nat.le_of_ble_eq_true rfl, Nat.le_of_ble_eq_true rfl⟩ ⟨Nat.le_of_ble_eq_true rfl, Nat.le_of_ble_eq_true rfl⟩ dX5_partView_1 ?_
  rintro r M1 H locs ⟨rfl, e1⟩ hM hS
  rw [e1] at hM
  clear e1 M1
  refine W.eq (g2 := F0 m 4 ls [.int (bI (zbt 8 15 (nI k)))]) rfl ?_
  refine lv_if_eq (tgt := 18) hx hb dX5_partView_4 (by decide) (fun c4 => ?_) (fun c4 => ?_)
  · exact absurd (bI_0.mp c4) (by rw [zbt_rw k (by omega)]; simp [isRw, hk, hk2])
  · refine zm_gets hx hb hts hown hE hS 2 (by decide) st_X5_167 dX5_partView_7 ?_
    refine lv_iload_n hx hb dX5_partView_10 rfl (lv_at hl 0 rfl) ?_
    refine lv_bipush (v := 8) hx hb dX5_partView_11 (by decide) ?_
    refine lv_isub hx hb dX5_partView_13 ?_
    refine zt_eq (v' := .int (nI (k - 8))) (congrArg Value.int (pk_sub (b := 8) hk)) ?_
    refine zm_tab hx hb hE hS 2 (by decide) (vp_in_nI (show k - 8 < 8 by omega) (by decide)) dX5_partView_14 ?_
    refine zt_eq (v' := .int (nI (inn k))) (by rw [nI_clamp (by omega), zpv_tab (k - 8) (by omega), show 8 + (k - 8) = k by omega]) ?_
    refine lv_goto (tgt := 19) hx hb dX5_partView_15 (by decide) ?_
    refine zm_iret hx hb hr hlk hM hS ?_ ⟨Nat.le_refl _, Nat.le_refl _⟩ dX5_partView_19
    exact ⟨rfl, rfl⟩
section ZGP
variable {p : Program} {l : Launch} {e : Env} {R : Room} {s : State} {m : MethodId} {args : Array Value} {below : List Frame} {meth : Method} {c : Code} {H : Heap} {locs : List Loc} {cells slots : Nat} {Q : State → Prop}
variable {cc : ByteArray} {pc : Nat} {ls : Array Slot} {rest : List Value} {G : zm_G} {A : Nat → Prop} {M : zm_M} {B : zB} {S : zS} {j : Nat}
theorem zm_getPn (hx : p.tables.exec = Jvm.exec) (hb : c.code = cc) (hts : ∀ w ∈ wsL_law, w.before args s = true) (hown : s.vm.findClass RX5 = some m.cls) (hE : zm_E G A s s.heap) (hM : zm_P G A M H) (hR : RepC G B S M) (hj : j < s_np S) (hdg : decode cc pc = .ok (.getfield 160, 3))
    (kk : W p l e R s m args below meth c H locs cells slots Q (F0 m (pc + 3) ls (.int (nI j) :: rest))) : W p l e R s m args below meth c H locs cells slots Q (F0 m pc ls (.ref (B.2.1 j) :: rest)) := by
  have h := hR.2.2.2.2.2.1 j hj
  unfold pcell at h
  split at h
  · exact zm_get hx hb hts hown hE hM h fl_X5_160_2 rfl hdg kk
  · split at h
    · exact zm_get hx hb hts hown hE hM h fl_X5_160_3 rfl hdg kk
    · exact zm_get hx hb hts hown hE hM h fl_X5_160_1 rfl hdg kk
theorem zm_getPk (hx : p.tables.exec = Jvm.exec) (hb : c.code = cc) (hts : ∀ w ∈ wsL_law, w.before args s = true) (hown : s.vm.findClass RX5 = some m.cls) (hE : zm_E G A s s.heap) (hM : zm_P G A M H) (hR : RepC G B S M) (hj : j < s_np S) (hdg : decode cc pc = .ok (.getfield 166, 3))
    (kk : W p l e R s m args below meth c H locs cells slots Q (F0 m (pc + 3) ls (.int (nI (s_kd S j)) :: rest))) : W p l e R s m args below meth c H locs cells slots Q (F0 m pc ls (.ref (B.2.1 j) :: rest)) := by
  have h := hR.2.2.2.2.2.1 j hj
  unfold pcell at h
  split at h
  · exact zm_get hx hb hts hown hE hM h fl_X5_166_2 rfl hdg kk
  · split at h
    · exact zm_get hx hb hts hown hE hM h fl_X5_166_3 rfl hdg kk
    · exact zm_get hx hb hts hown hE hM h fl_X5_166_1 rfl hdg kk
end ZGP
set_option maxRecDepth 100000 in
set_option maxHeartbeats 4000000 in
theorem c_X5_numberOf (l : Launch) (G : zm_G) (A : Nat → Prop) (B : zB) (S : zS) (M : zm_M) (o : Option Nat) (hR : RepC G B S M) (ho : ∀ j, o = some j → j < s_np S) : Met l yX5_numberOf (zm_W yX5_numberOf cX5_numberOf 1 (some .int)) (zm_rm 0 0 0) (zm_Pc G [va_rf (oA B o)] A M) (zm_Q G (fun r M' => r = some (.int (oI o)) ∧ M' = M) A) 0 0 A := by
  refine zm_start (by decide) (by generalize (oA B o) = z; cases z <;> exact Nat.le_of_ble_eq_true rfl) ?_
  intro p e s m below meth c hx hb hml hr hts hown hlk hnm hE hA ls hl hM hS
  have hl : lv_has ls 1 [(0, va_rf (oA B o))] := by revert hl; generalize (oA B o) = z; cases z <;> exact id
  refine zq_aload_n hx hb dX5_numberOf_0 rfl (lv_at hl 0 rfl) ?_
  refine zq_ifnonnull (tgt := 8) hx hb dX5_numberOf_1 (by decide) (fun a1 c1 => ?_) (fun c1 => ?_)
  · obtain ⟨j, rfl, rfl⟩ : ∃ j, o = some j ∧ B.2.1 j = a1 := by
      cases o with
      | none => cases c1
      | some j => exact ⟨j, rfl, Option.some.inj c1⟩
    have hj := ho j rfl
    refine lv_aload_n hx hb dX5_numberOf_8 rfl (lv_at hl 0 rfl) ?_
    refine zm_getPn hx hb hts hown hE hM hR hj dX5_numberOf_9 ?_
    refine zm_iret hx hb hr hlk hM hS ?_ ⟨Nat.le_refl _, Nat.le_refl _⟩ dX5_numberOf_12
    exact ⟨rfl, rfl⟩
  · obtain rfl : o = none := by
      cases o with
      | none => rfl
      | some j => cases c1
    refine lv_iconst (v := (-1)) hx hb dX5_numberOf_4 (by decide) ?_
    refine lv_goto (tgt := 12) hx hb dX5_numberOf_5 (by decide) ?_
    refine zm_iret hx hb hr hlk hM hS ?_ ⟨Nat.le_refl _, Nat.le_refl _⟩ dX5_numberOf_12
    exact ⟨rfl, rfl⟩
set_option maxRecDepth 20000 in
theorem gA_tab : ∀ k, k < 16 → ∀ v, v < 17 → decide ((zm_tv 0 k >>> (nI v &&& 31)) &&& 1 = 1) = gA k v := by decide +kernel
set_option maxRecDepth 100000 in
set_option maxHeartbeats 4000000 in
theorem c_X5_goesAs (l : Launch) (G : zm_G) (A : Nat → Prop) (B : zB) (S : zS) (M : zm_M) (o : Option Nat) (v : Nat) (hv : v < 17) (hI : zInv S) (hR : RepC G B S M) (ho : ∀ j, o = some j → j < s_np S) : Met l yX5_goesAs (zm_W yX5_goesAs cX5_goesAs 2 (some .boolean)) (zm_rm 1 0 0) (zm_Pc G [va_rf (oA B o), .int (nI v)] A M) (zm_Q G (fun r M' => r = some (.int (bI (goS S o v))) ∧ M' = M) A) 0 0 A := by
  refine zm_start (by decide) (by generalize (oA B o) = z; cases z <;> exact Nat.le_of_ble_eq_true rfl) ?_
  intro p e s m below meth c hx hb hml hr hts hown hlk hnm hE hA ls hl hM hS
  have hl : lv_has ls 2 [(0, va_rf (oA B o)), (1, .int (nI v))] := by revert hl; generalize (oA B o) = z; cases z <;> exact id
  refine zq_aload_n hx hb dX5_goesAs_0 rfl (lv_at hl 0 rfl) ?_
  refine zq_ifnull (tgt := 19) hx hb dX5_goesAs_1 (by decide) (fun c1 => ?_) (fun a1 c1 => ?_)
  · obtain rfl : o = none := by
      cases o with
      | none => rfl
      | some j => cases c1
    refine lv_iconst (v := 1) hx hb dX5_goesAs_19 (by decide) ?_
    refine lv_goto (tgt := 24) hx hb dX5_goesAs_20 (by decide) ?_
    refine zm_zret hx hb hr hlk hM hS (by first | exact Or.inl rfl | exact Or.inr rfl | exact bI_01 _) ?_ ⟨Nat.le_refl _, Nat.le_refl _⟩ dX5_goesAs_24
    refine ⟨?_, rfl⟩
    first | rfl | (rw [show goS S (some j) v = true from c16]; rfl) | (rw [show goS S (some j) v = false from c16]; rfl)
  · obtain ⟨j, rfl, rfl⟩ : ∃ j, o = some j ∧ B.2.1 j = a1 := by
      cases o with
      | none => cases c1
      | some j => exact ⟨j, rfl, Option.some.inj c1⟩
    have hj := ho j rfl
    have hk := (hI.2.2.1 j hj).1
    refine zm_gets hx hb hts hown hE hS 0 (by decide) st_X5_163 dX5_goesAs_4 ?_
    refine lv_aload_n hx hb dX5_goesAs_7 rfl (lv_at hl 0 rfl) ?_
    refine zm_getPk hx hb hts hown hE hM hR hj dX5_goesAs_8 ?_
    refine zm_tab hx hb hE hS 0 (by decide) (vp_in_nI (show s_kd S j < 16 from hk) (by decide)) dX5_goesAs_11 ?_
    refine zt_eq (v' := .int (zm_tv 0 (s_kd S j))) (by rw [nI_clamp (by omega)]) ?_
    refine lv_iload_n hx hb dX5_goesAs_12 rfl (lv_at hl 1 rfl) ?_
    refine zm_callS (As := [.int (zm_tv 0 (s_kd S j)), .int (nI v)]) (rest := []) hx hb hml hts hown hE hA hM hS (c_X5_isAmong l G A _ (zm_tv 0 (s_kd S j)) (nI v)) cd_X5_isAmong ml_X5_68 rfl rfl hl.1 (Nat.le_of_ble_eq_true rfl) ⟨Nat.le_of_ble_eq_true rfl, Nat.le_of_ble_eq_true rfl⟩ ⟨Nat.le_of_ble_eq_true rfl, Nat.le_of_ble_eq_true rfl⟩ dX5_goesAs_13 ?_
    rintro r M1 H locs ⟨rfl, e1⟩ hM hS
    rw [e1] at hM
    clear e1 M1
    refine W.eq (g2 := F0 m 16 ls [.int (bI (decide (((zm_tv 0 (s_kd S j)) >>> ((nI v) &&& 31)) &&& 1 = 1)))]) rfl ?_
    refine lv_if_eq (tgt := 23) hx hb dX5_goesAs_16 (by decide) (fun c16 => ?_) (fun c16 => ?_)
    · rw [gA_tab _ hk _ hv, bI_0] at c16
      refine lv_iconst (v := 0) hx hb dX5_goesAs_23 (by decide) ?_
      refine zm_zret hx hb hr hlk hM hS (by first | exact Or.inl rfl | exact Or.inr rfl | exact bI_01 _) ?_ ⟨Nat.le_refl _, Nat.le_refl _⟩ dX5_goesAs_24
      refine ⟨?_, rfl⟩
      first | rfl | (rw [show goS S (some j) v = true from c16]; rfl) | (rw [show goS S (some j) v = false from c16]; rfl)
    · rw [gA_tab _ hk _ hv, bI_n] at c16
      refine lv_iconst (v := 1) hx hb dX5_goesAs_19 (by decide) ?_
      refine lv_goto (tgt := 24) hx hb dX5_goesAs_20 (by decide) ?_
      refine zm_zret hx hb hr hlk hM hS (by first | exact Or.inl rfl | exact Or.inr rfl | exact bI_01 _) ?_ ⟨Nat.le_refl _, Nat.le_refl _⟩ dX5_goesAs_24
      refine ⟨?_, rfl⟩
      first | rfl | (rw [show goS S (some j) v = true from c16]; rfl) | (rw [show goS S (some j) v = false from c16]; rfl)
set_option maxRecDepth 100000 in
set_option maxHeartbeats 4000000 in
theorem c_X5_find (l : Launch) (G : zm_G) (A : Nat → Prop) (B : zB) (S : zS) (M : zm_M) (x : Int32) (hI : zInv S) (hR : RepC G B S M) : Met l yX5_find (zm_W yX5_find cX5_find 2 (some (.object "PropStore$Prop"))) (zm_rm 0 0 0) (zm_Pc G [.ref B.1.1, .int x] A M) (zm_Q G (fun r M' => r = some (va_rf (oA B (ix (s_np S) x))) ∧ M' = M) A) 0 0 A := by
  refine zm_start (by decide) (Nat.le_of_ble_eq_true rfl) ?_
  intro p e s m below meth c hx hb hml hr hts hown hlk hnm hE hA ls hl hM hS
  have hl : lv_has ls 2 [(0, .ref B.1.1), (1, .int x)] := hl
  refine lv_iload_n hx hb dX5_find_0 rfl (lv_at hl 1 rfl) ?_
  refine lv_if_lt (tgt := 21) hx hb dX5_find_1 (by decide) (fun c1 => ?_) (fun c1 => ?_)
  · refine lv_null hx hb dX5_find_21 ?_
    refine zm_aret (r := none) hx hb hr hlk hM hS ?_ ⟨Nat.le_refl _, Nat.le_refl _⟩ dX5_find_22
    refine ⟨?_, rfl⟩
    first | (rw [hix]) | (rw [ix_lt (by assumption)]; rfl) | (rw [ix_ge (by assumption)]; rfl)
  · refine lv_iload_n hx hb dX5_find_4 rfl (lv_at hl 1 rfl) ?_
    refine lv_aload_n hx hb dX5_find_5 rfl (lv_at hl 0 rfl) ?_
    refine zm_get hx hb hts hown hE hM hR.1 fl_X5_32_4 rfl dX5_find_6 ?_
    refine lv_icmp_ge (tgt := 21) hx hb dX5_find_9 (by decide) (fun c9 => ?_) (fun c9 => ?_)
    · refine lv_null hx hb dX5_find_21 ?_
      refine zm_aret (r := none) hx hb hr hlk hM hS ?_ ⟨Nat.le_refl _, Nat.le_refl _⟩ dX5_find_22
      refine ⟨?_, rfl⟩
      first | (rw [hix]) | (rw [ix_lt (by assumption)]; rfl) | (rw [ix_ge (by assumption)]; rfl)
    · refine lv_aload_n hx hb dX5_find_12 rfl (lv_at hl 0 rfl) ?_
      refine zm_get hx hb hts hown hE hM hR.1 fl_X5_11_4 rfl dX5_find_13 ?_
      refine lv_iload_n hx hb dX5_find_16 rfl (lv_at hl 1 rfl) ?_
      obtain ⟨f1, h1, e1⟩ := hR.2.1
      obtain ⟨j, hj, rfl, hix⟩ := ix_in (n := s_np S) (by have := hI.1; omega) c1 c9
      have hnp := hI.1
      refine zm_aldR hx hb hE hM h1 (vp_in_nI (show j < 50 by omega) (by decide)) dX5_find_17 ?_
      refine zt_eq (v' := va_rf (oA B (some j))) (by rw [nI_clamp (by omega), e1 j hj]; rfl) ?_
      refine lv_goto (tgt := 22) hx hb dX5_find_18 (by decide) ?_
      refine zm_aret (r := (oA B (some j))) hx hb hr hlk hM hS ?_ ⟨Nat.le_refl _, Nat.le_refl _⟩ dX5_find_22
      refine ⟨?_, rfl⟩
      first | (rw [hix]) | (rw [ix_lt (by assumption)]; rfl) | (rw [ix_ge (by assumption)]; rfl)
