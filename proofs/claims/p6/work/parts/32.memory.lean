theorem q_or1 {x : Int32} (h : vp_in x 8) : vp_in (x ||| 1) 8 := by
  obtain ⟨j, hj, rfl⟩ := vp_in_of h (by decide)
  rcases (show j = 0 ∨ j = 1 ∨ j = 2 ∨ j = 3 ∨ j = 4 ∨ j = 5 ∨ j = 6 ∨ j = 7 by omega) with rfl | rfl | rfl | rfl | rfl | rfl | rfl | rfl <;> (unfold vp_in; decide)
theorem q_lt8 {x : Int32} (h : ¬ 8 ≤ x &&& 63) : vp_in (x &&& 63) 8 := by
  obtain ⟨j, hj, e⟩ := pk_andE x (m := 63) 6 (by decide)
  rw [e] at h ⊢
  have : j < 8 := by
    rcases Nat.lt_or_ge j 8 with q | q
    · exact q
    · exact absurd (show nI 8 ≤ nI j from nI_le q (by omega)) h
  exact vp_in_nI this (by decide)
theorem q_lnz {x : Int32} (h : ¬ x = 0) : ¬ Int32.toInt64 x = 0 := by
  intro e
  apply h
  apply Int32.toInt_inj.mp
  have := congrArg Int64.toInt e
  simpa using this
/-- the fault of a place -/
def fb (pl : Int32) : Int32 := if pl < 0 then 3 else if pl < 4096 then 0 else 3
def fa (pl k : Int32) : Int32 := if k = 65535 then (if pl &&& 1 = 0 then fb pl else 2) else fb pl
/-- one, if a word has its place there -/
def ct (pl : Int32) : Int32 := if fa pl 65535 = 0 then 1 else 0
set_option maxHeartbeats 4000000 in
set_option maxRecDepth 100000 in
theorem c_X1_faultAt (l : Launch) (dC : Nat → ClassId) (dI : Nat → Nat → Nat) (sz : Nat) (h9 : Nat) (pl : Int32) (k : Int32)  : Met l yX1_faultAt wsX1_faultAt ({ frames := 0, cells := 0, slots := 0, locals := 0 }) (va_Pc [.ref h9, .int pl, .int k] (q_pre dC dI sz [] [])) (va_Qi (fun (r : Int32) (u9 : Unit) => r = fa pl k) (q_at dC dI (va_A [] sz) (fun (u9 : Unit) => []) (fun (u9 : Unit) => [])) (va_A [] sz)) 0 0 (va_A [] sz) := by
  refine Met.ofW (cc := cX1_faultAt) (maxL := 3) (ret := (some .int)) (by decide) rfl ?_
  intro p e s m args below meth c s₁ B hml hv
  obtain ⟨rfl, hsz, hP, hK, hD0, hN⟩ := hv
  have hx := B.exec
  have hb := B.bytes
  have hr := B.returns
  have hts := atoms_spec (ws := wsX1_faultAt) B.pre
  have hown : s.vm.findClass RX1 = some m.cls := findClass_of_methodNamed B.named
  have hlocks := B.notSynchronized
  subst hsz
  have hD := hD0.self (sz := s.heap.size)
  generalize hAe : va_A [] s.heap.size = A at hD ⊢
  have hA : ∀ q : Nat, s.heap.size ≤ q → A q := fun q h => by rw [← hAe]; exact Or.inr h
  have hS : va_S A s.heap s.heap [] := va_S.rf
  have hP : va_P (dC, dI) vwCl [] s.heap := hP
  have hl := lv_entry ([.ref h9, .int pl, .int k]) (n := 3) (Nat.le_of_ble_eq_true rfl)
  rw [lg_entry_eq]
  generalize (lg_sl ([.ref h9, .int pl, .int k]) ++ List.replicate (3 - (lg_sl ([.ref h9, .int pl, .int k])).length) Slot.unset).toArray = ls at hl ⊢
  have hl : lv_has ls 3 [(0, .ref h9), (1, .int pl), (2, .int k)] := hl
  refine lv_iload_n hx hb dX1_faultAt_0 rfl (lv_at hl 2 rfl) ?_
  refine lv_ldc (v := 65535) hx hb hown (hts (.constant RX1 18 (65535)) (by decide +kernel)) dX1_faultAt_1 ?_
  refine lv_icmp_ne (tgt := 14) hx hb dX1_faultAt_3 (by decide) (fun c_1 => ?_) (fun c_1 => ?_)
  · refine lv_iload_n hx hb dX1_faultAt_14 rfl (lv_at hl 1 rfl) ?_
    refine lv_if_lt (tgt := 25) hx hb dX1_faultAt_15 (by decide) (fun c_2 => ?_) (fun c_2 => ?_)
    · refine lv_iconst (v := 3) hx hb dX1_faultAt_25 (by decide) ?_
      refine lv_goto (tgt := 30) hx hb dX1_faultAt_26 (by decide) ?_
      have hP9 := hP.sub (ws' := []) [] rfl
      have hD9 := hD.sub (ws' := []) [] (by decide) rfl
      have hK9 := hK.sub (tys' := []) [] rfl
      exact W.iret (v := 3) hx hb hr (fun t ht hW => ⟨⟨3, (), rfl, (by simp [fa, fb, c_1, c_2]), by rw [ht]; exact hP9, va_K.moved hW.alike hK9, hD9⟩, hS.F ht⟩) hS.2.2 dX1_faultAt_30
    · refine lv_iload_n hx hb dX1_faultAt_18 rfl (lv_at hl 1 rfl) ?_
      refine lv_sipush (v := 4096) hx hb dX1_faultAt_19 (by decide) ?_
      refine lv_icmp_lt (tgt := 29) hx hb dX1_faultAt_22 (by decide) (fun c_3 => ?_) (fun c_3 => ?_)
      · refine lv_iconst (v := 0) hx hb dX1_faultAt_29 (by decide) ?_
        have hP9 := hP.sub (ws' := []) [] rfl
        have hD9 := hD.sub (ws' := []) [] (by decide) rfl
        have hK9 := hK.sub (tys' := []) [] rfl
        exact W.iret (v := 0) hx hb hr (fun t ht hW => ⟨⟨0, (), rfl, (by simp [fa, fb, c_1, c_2, c_3]), by rw [ht]; exact hP9, va_K.moved hW.alike hK9, hD9⟩, hS.F ht⟩) hS.2.2 dX1_faultAt_30
      · refine lv_iconst (v := 3) hx hb dX1_faultAt_25 (by decide) ?_
        refine lv_goto (tgt := 30) hx hb dX1_faultAt_26 (by decide) ?_
        have hP9 := hP.sub (ws' := []) [] rfl
        have hD9 := hD.sub (ws' := []) [] (by decide) rfl
        have hK9 := hK.sub (tys' := []) [] rfl
        exact W.iret (v := 3) hx hb hr (fun t ht hW => ⟨⟨3, (), rfl, (by simp [fa, fb, c_1, c_2, c_3]), by rw [ht]; exact hP9, va_K.moved hW.alike hK9, hD9⟩, hS.F ht⟩) hS.2.2 dX1_faultAt_30
  · refine lv_iload_n hx hb dX1_faultAt_6 rfl (lv_at hl 1 rfl) ?_
    refine lv_iconst (v := 1) hx hb dX1_faultAt_7 (by decide) ?_
    refine lv_iand hx hb dX1_faultAt_8 ?_
    refine lv_if_eq (tgt := 14) hx hb dX1_faultAt_9 (by decide) (fun c_4 => ?_) (fun c_4 => ?_)
    · refine lv_iload_n hx hb dX1_faultAt_14 rfl (lv_at hl 1 rfl) ?_
      refine lv_if_lt (tgt := 25) hx hb dX1_faultAt_15 (by decide) (fun c_5 => ?_) (fun c_5 => ?_)
      · refine lv_iconst (v := 3) hx hb dX1_faultAt_25 (by decide) ?_
        refine lv_goto (tgt := 30) hx hb dX1_faultAt_26 (by decide) ?_
        have hP9 := hP.sub (ws' := []) [] rfl
        have hD9 := hD.sub (ws' := []) [] (by decide) rfl
        have hK9 := hK.sub (tys' := []) [] rfl
        exact W.iret (v := 3) hx hb hr (fun t ht hW => ⟨⟨3, (), rfl, (by simp [fa, fb, c_1, c_4, c_5]), by rw [ht]; exact hP9, va_K.moved hW.alike hK9, hD9⟩, hS.F ht⟩) hS.2.2 dX1_faultAt_30
      · refine lv_iload_n hx hb dX1_faultAt_18 rfl (lv_at hl 1 rfl) ?_
        refine lv_sipush (v := 4096) hx hb dX1_faultAt_19 (by decide) ?_
        refine lv_icmp_lt (tgt := 29) hx hb dX1_faultAt_22 (by decide) (fun c_6 => ?_) (fun c_6 => ?_)
        · refine lv_iconst (v := 0) hx hb dX1_faultAt_29 (by decide) ?_
          have hP9 := hP.sub (ws' := []) [] rfl
          have hD9 := hD.sub (ws' := []) [] (by decide) rfl
          have hK9 := hK.sub (tys' := []) [] rfl
          exact W.iret (v := 0) hx hb hr (fun t ht hW => ⟨⟨0, (), rfl, (by simp [fa, fb, c_1, c_4, c_5, c_6]), by rw [ht]; exact hP9, va_K.moved hW.alike hK9, hD9⟩, hS.F ht⟩) hS.2.2 dX1_faultAt_30
        · refine lv_iconst (v := 3) hx hb dX1_faultAt_25 (by decide) ?_
          refine lv_goto (tgt := 30) hx hb dX1_faultAt_26 (by decide) ?_
          have hP9 := hP.sub (ws' := []) [] rfl
          have hD9 := hD.sub (ws' := []) [] (by decide) rfl
          have hK9 := hK.sub (tys' := []) [] rfl
          exact W.iret (v := 3) hx hb hr (fun t ht hW => ⟨⟨3, (), rfl, (by simp [fa, fb, c_1, c_4, c_5, c_6]), by rw [ht]; exact hP9, va_K.moved hW.alike hK9, hD9⟩, hS.F ht⟩) hS.2.2 dX1_faultAt_30
    · refine lv_iconst (v := 2) hx hb dX1_faultAt_12 (by decide) ?_
      have hP9 := hP.sub (ws' := []) [] rfl
      have hD9 := hD.sub (ws' := []) [] (by decide) rfl
      have hK9 := hK.sub (tys' := []) [] rfl
      exact W.iret (v := 2) hx hb hr (fun t ht hW => ⟨⟨2, (), rfl, (by simp [fa, fb, c_1, c_4]), by rw [ht]; exact hP9, va_K.moved hW.alike hK9, hD9⟩, hS.F ht⟩) hS.2.2 dX1_faultAt_13
set_option maxHeartbeats 4000000 in
set_option maxRecDepth 100000 in
theorem s_X1_valueAt (l : Launch) (dC : Nat → ClassId) (dI : Nat → Nat → Nat) (sz : Nat) (aM : Nat) (pl : Int32) (k : Int32) (aW : Nat) (aT : Nat) (cnt : Int32) (cW : ClassId) (words : Nat → Int32)  : Met l yX1_valueAt wsX1_valueAt ({ frames := 0, cells := 0, slots := 0, locals := 0 }) (va_Pc [.ref aM, .int pl, .int k] (q_pre dC dI sz [(aM, .inr (1, [.ref aW, .ref aT, .int cnt])), (aW, .inl (cW, 2048, .inl words))] [(cW, .int)])) (va_Qi (fun (r : Int32) (u9 : Unit) => True) (q_at dC dI (va_A [(aM, .inr (1, [.ref aW, .ref aT, .int cnt])), (aW, .inl (cW, 2048, .inl words))] sz) (fun (u9 : Unit) => [(cW, .int)]) (fun (u9 : Unit) => [(aM, .inr (1, [.ref aW, .ref aT, .int cnt])), (aW, .inl (cW, 2048, .inl words))])) (va_A [(aM, .inr (1, [.ref aW, .ref aT, .int cnt])), (aW, .inl (cW, 2048, .inl words))] sz)) 0 0 (va_A [(aM, .inr (1, [.ref aW, .ref aT, .int cnt])), (aW, .inl (cW, 2048, .inl words))] sz) := by
  refine Met.ofW (cc := cX1_valueAt) (maxL := 4) (ret := (some .int)) (by decide) rfl ?_
  intro p e s m args below meth c s₁ B hml hv
  obtain ⟨rfl, hsz, hP, hK, hD0, hN⟩ := hv
  have hx := B.exec
  have hb := B.bytes
  have hr := B.returns
  have hts := atoms_spec (ws := wsX1_valueAt) B.pre
  have hown : s.vm.findClass RX1 = some m.cls := findClass_of_methodNamed B.named
  have hlocks := B.notSynchronized
  subst hsz
  have hD := hD0.self (sz := s.heap.size)
  generalize hAe : va_A [(aM, .inr (1, [.ref aW, .ref aT, .int cnt])), (aW, .inl (cW, 2048, .inl words))] s.heap.size = A at hD ⊢
  have hA : ∀ q : Nat, s.heap.size ≤ q → A q := fun q h => by rw [← hAe]; exact Or.inr h
  have hS : va_S A s.heap s.heap [] := va_S.rf
  have hP : va_P (dC, dI) vwCl [(aM, .inr (1, [.ref aW, .ref aT, .int cnt])), (aW, .inl (cW, 2048, .inl words))] s.heap := hP
  have hl := lv_entry ([.ref aM, .int pl, .int k]) (n := 4) (Nat.le_of_ble_eq_true rfl)
  rw [lg_entry_eq]
  generalize (lg_sl ([.ref aM, .int pl, .int k]) ++ List.replicate (4 - (lg_sl ([.ref aM, .int pl, .int k])).length) Slot.unset).toArray = ls at hl ⊢
  have hl : lv_has ls 4 [(0, .ref aM), (1, .int pl), (2, .int k)] := hl
  refine lv_iload_n hx hb dX1_valueAt_0 rfl (lv_at hl 1 rfl) ?_
  refine lv_iconst (v := 1) hx hb dX1_valueAt_1 (by decide) ?_
  refine lv_iand hx hb dX1_valueAt_2 ?_
  refine lv_bipush (v := 8) hx hb dX1_valueAt_3 (by decide) ?_
  refine lv_imul hx hb dX1_valueAt_5 ?_
  refine lv_istore_n (lv' := [(3, .int ((pl &&& 1) * 8)), (0, .ref aM), (1, .int pl), (2, .int k)]) hx hb dX1_valueAt_6 rfl hl (by decide) rfl (fun ls hl => ?_)
  refine lv_aload_n hx hb dX1_valueAt_7 rfl (lv_at hl 1 rfl) ?_
  refine va_get (D := (dC, dI)) (ci := 1) (v := .ref aW) (C := RX1) (T := TX1) (N := 3) hx hb hts (by decide +kernel) hown hK hP 0 rfl rfl 0 (by decide) (hts (.fieldLink RX1 9 "WordGuest$Memory" "words" "[I") (by decide +kernel)) (fun _ h9 => h9) rfl dX1_valueAt_8 ?_
  refine lv_iload_n hx hb dX1_valueAt_11 rfl (lv_at hl 2 rfl) ?_
  refine lv_iconst (v := 1) hx hb dX1_valueAt_12 (by decide) ?_
  refine lv_ishr hx hb dX1_valueAt_13 ?_
  refine lv_sipush (v := 2047) hx hb dX1_valueAt_14 (by decide) ?_
  refine lv_iand hx hb dX1_valueAt_17 ?_
  refine va_iald hx hb hK hP 1 0 rfl rfl (pk_andIn _ 11 (by decide) (by decide)) dX1_valueAt_18 ?_
  refine lv_iload_n hx hb dX1_valueAt_19 rfl (lv_at hl 0 rfl) ?_
  refine lv_ishr hx hb dX1_valueAt_20 ?_
  refine lv_iload_n hx hb dX1_valueAt_21 rfl (lv_at hl 3 rfl) ?_
  refine lv_iand hx hb dX1_valueAt_22 ?_
  have hP9 := hP.sub (ws' := [(aM, .inr (1, [.ref aW, .ref aT, .int cnt])), (aW, .inl (cW, 2048, .inl words))]) [0, 1] rfl
  have hD9 := hD.sub (ws' := [(aM, .inr (1, [.ref aW, .ref aT, .int cnt])), (aW, .inl (cW, 2048, .inl words))]) [0, 1] (by decide) rfl
  have hK9 := hK.sub (tys' := [(cW, .int)]) [0] rfl
  exact W.iret (v := ((words ((pl >>> (1 &&& 31)) &&& 2047).toNatClampNeg) >>> (((pl &&& 1) * 8) &&& 31)) &&& k) hx hb hr (fun t ht hW => ⟨⟨((words ((pl >>> (1 &&& 31)) &&& 2047).toNatClampNeg) >>> (((pl &&& 1) * 8) &&& 31)) &&& k, (), rfl, trivial, by rw [ht]; exact hP9, va_K.moved hW.alike hK9, hD9⟩, hS.F ht⟩) hS.2.2 dX1_valueAt_23
set_option maxHeartbeats 4000000 in
set_option maxRecDepth 100000 in
theorem s_X1_setWord (l : Launch) (dC : Nat → ClassId) (dI : Nat → Nat → Nat) (sz : Nat) (aM : Nat) (pl : Int32) (v : Int32) (aW : Nat) (aT : Nat) (cnt : Int32) (cW : ClassId) (words : Nat → Int32)  : Met l yX1_setWord wsX1_setWord ({ frames := 0, cells := 0, slots := 0, locals := 0 }) (va_Pc [.ref aM, .int pl, .int v] (q_pre dC dI sz [(aM, .inr (1, [.ref aW, .ref aT, .int cnt])), (aW, .inl (cW, 2048, .inl words))] [(cW, .int)])) (va_Qv (fun (u9 : (Nat → Int32)) => True) (q_at dC dI (va_A [(aM, .inr (1, [.ref aW, .ref aT, .int cnt])), (aW, .inl (cW, 2048, .inl words))] sz) (fun (u9 : (Nat → Int32)) => [(cW, .int)]) (fun (u9 : (Nat → Int32)) => [(aM, .inr (1, [.ref aW, .ref aT, .int cnt])), (aW, .inl (cW, 2048, .inl u9))])) (va_A [(aM, .inr (1, [.ref aW, .ref aT, .int cnt])), (aW, .inl (cW, 2048, .inl words))] sz)) 0 0 (va_A [(aM, .inr (1, [.ref aW, .ref aT, .int cnt])), (aW, .inl (cW, 2048, .inl words))] sz) := by
  refine Met.ofW (cc := cX1_setWord) (maxL := 3) (ret := none) (by decide) rfl ?_
  intro p e s m args below meth c s₁ B hml hv
  obtain ⟨rfl, hsz, hP, hK, hD0, hN⟩ := hv
  have hx := B.exec
  have hb := B.bytes
  have hr := B.returns
  have hts := atoms_spec (ws := wsX1_setWord) B.pre
  have hown : s.vm.findClass RX1 = some m.cls := findClass_of_methodNamed B.named
  have hlocks := B.notSynchronized
  subst hsz
  have hD := hD0.self (sz := s.heap.size)
  generalize hAe : va_A [(aM, .inr (1, [.ref aW, .ref aT, .int cnt])), (aW, .inl (cW, 2048, .inl words))] s.heap.size = A at hD ⊢
  have hA : ∀ q : Nat, s.heap.size ≤ q → A q := fun q h => by rw [← hAe]; exact Or.inr h
  have hS : va_S A s.heap s.heap [] := va_S.rf
  have hP : va_P (dC, dI) vwCl [(aM, .inr (1, [.ref aW, .ref aT, .int cnt])), (aW, .inl (cW, 2048, .inl words))] s.heap := hP
  have hl := lv_entry ([.ref aM, .int pl, .int v]) (n := 3) (Nat.le_of_ble_eq_true rfl)
  rw [lg_entry_eq]
  generalize (lg_sl ([.ref aM, .int pl, .int v]) ++ List.replicate (3 - (lg_sl ([.ref aM, .int pl, .int v])).length) Slot.unset).toArray = ls at hl ⊢
  have hl : lv_has ls 3 [(0, .ref aM), (1, .int pl), (2, .int v)] := hl
  refine lv_aload_n hx hb dX1_setWord_0 rfl (lv_at hl 0 rfl) ?_
  refine va_get (D := (dC, dI)) (ci := 1) (v := .ref aW) (C := RX1) (T := TX1) (N := 3) hx hb hts (by decide +kernel) hown hK hP 0 rfl rfl 0 (by decide) (hts (.fieldLink RX1 9 "WordGuest$Memory" "words" "[I") (by decide +kernel)) (fun _ h9 => h9) rfl dX1_setWord_1 ?_
  refine lv_iload_n hx hb dX1_setWord_4 rfl (lv_at hl 1 rfl) ?_
  refine lv_iconst (v := 1) hx hb dX1_setWord_5 (by decide) ?_
  refine lv_ishr hx hb dX1_setWord_6 ?_
  refine lv_sipush (v := 2047) hx hb dX1_setWord_7 (by decide) ?_
  refine lv_iand hx hb dX1_setWord_10 ?_
  refine lv_iload_n hx hb dX1_setWord_11 rfl (lv_at hl 2 rfl) ?_
  refine lv_ldc (v := 65535) hx hb hown (hts (.constant RX1 18 (65535)) (by decide +kernel)) dX1_setWord_12 ?_
  refine lv_iand hx hb dX1_setWord_14 ?_
  refine va_iast hx hb hK hP hD hS 1 0 rfl rfl (pk_andIn _ 11 (by decide) (by decide)) dX1_setWord_15 (fun H locs hP hD hS => ?_)
  have hP : va_P (dC, dI) vwCl [(aM, .inr (1, [.ref aW, .ref aT, .int cnt])), (aW, .inl (cW, 2048, .inl (upd words ((pl >>> (1 &&& 31)) &&& 2047).toNatClampNeg (v &&& 65535))))] H := hP
  have hD : va_D A [(aM, .inr (1, [.ref aW, .ref aT, .int cnt])), (aW, .inl (cW, 2048, .inl (upd words ((pl >>> (1 &&& 31)) &&& 2047).toNatClampNeg (v &&& 65535))))] := hD
  generalize (upd words ((pl >>> (1 &&& 31)) &&& 2047).toNatClampNeg (v &&& 65535)) = g_1 at hP hD
  have hP9 := hP.sub (ws' := [(aM, .inr (1, [.ref aW, .ref aT, .int cnt])), (aW, .inl (cW, 2048, .inl g_1))]) [0, 1] rfl
  have hD9 := hD.sub (ws' := [(aM, .inr (1, [.ref aW, .ref aT, .int cnt])), (aW, .inl (cW, 2048, .inl g_1))]) [0, 1] (by decide) rfl
  have hK9 := hK.sub (tys' := [(cW, .int)]) [0] rfl
  exact W.vret hx hb hr (fun t ht hW => ⟨⟨g_1, rfl, trivial, by rw [ht]; exact hP9, va_K.moved hW.alike hK9, hD9⟩, hS.F ht⟩) hS.2.2 dX1_setWord_16
set_option maxHeartbeats 4000000 in
set_option maxRecDepth 100000 in
theorem c_X1_setIfThere (l : Launch) (dC : Nat → ClassId) (dI : Nat → Nat → Nat) (sz : Nat) (aM : Nat) (pl : Int32) (v : Int32) (aW : Nat) (aT : Nat) (cnt : Int32) (cW : ClassId) (words : Nat → Int32)  : Met l yX1_setIfThere wsX1_setIfThere ({ frames := 1, cells := 0, slots := 0, locals := 22 }) (va_Pc [.ref aM, .int pl, .int v] (q_pre dC dI sz [(aM, .inr (1, [.ref aW, .ref aT, .int cnt])), (aW, .inl (cW, 2048, .inl words))] [(cW, .int)])) (va_Qi (fun (r : Int32) (u9 : (Nat → Int32)) => r = ct pl) (q_at dC dI (va_A [(aM, .inr (1, [.ref aW, .ref aT, .int cnt])), (aW, .inl (cW, 2048, .inl words))] sz) (fun (u9 : (Nat → Int32)) => [(cW, .int)]) (fun (u9 : (Nat → Int32)) => [(aM, .inr (1, [.ref aW, .ref aT, .int cnt])), (aW, .inl (cW, 2048, .inl u9))])) (va_A [(aM, .inr (1, [.ref aW, .ref aT, .int cnt])), (aW, .inl (cW, 2048, .inl words))] sz)) 0 0 (va_A [(aM, .inr (1, [.ref aW, .ref aT, .int cnt])), (aW, .inl (cW, 2048, .inl words))] sz) := by
  refine Met.ofW (cc := cX1_setIfThere) (maxL := 3) (ret := (some .int)) (by decide) rfl ?_
  intro p e s m args below meth c s₁ B hml hv
  obtain ⟨rfl, hsz, hP, hK, hD0, hN⟩ := hv
  have hx := B.exec
  have hb := B.bytes
  have hr := B.returns
  have hts := atoms_spec (ws := wsX1_setIfThere) B.pre
  have hown : s.vm.findClass RX1 = some m.cls := findClass_of_methodNamed B.named
  have hlocks := B.notSynchronized
  subst hsz
  have hD := hD0.self (sz := s.heap.size)
  generalize hAe : va_A [(aM, .inr (1, [.ref aW, .ref aT, .int cnt])), (aW, .inl (cW, 2048, .inl words))] s.heap.size = A at hD ⊢
  have hA : ∀ q : Nat, s.heap.size ≤ q → A q := fun q h => by rw [← hAe]; exact Or.inr h
  have hS : va_S A s.heap s.heap [] := va_S.rf
  have hP : va_P (dC, dI) vwCl [(aM, .inr (1, [.ref aW, .ref aT, .int cnt])), (aW, .inl (cW, 2048, .inl words))] s.heap := hP
  have hl := lv_entry ([.ref aM, .int pl, .int v]) (n := 3) (Nat.le_of_ble_eq_true rfl)
  rw [lg_entry_eq]
  generalize (lg_sl ([.ref aM, .int pl, .int v]) ++ List.replicate (3 - (lg_sl ([.ref aM, .int pl, .int v])).length) Slot.unset).toArray = ls at hl ⊢
  have hl : lv_has ls 3 [(0, .ref aM), (1, .int pl), (2, .int v)] := hl
  refine lv_aload_n hx hb dX1_setIfThere_0 rfl (lv_at hl 0 rfl) ?_
  refine lv_iload_n hx hb dX1_setIfThere_1 rfl (lv_at hl 1 rfl) ?_
  refine lv_ldc (v := 65535) hx hb hown (hts (.constant RX1 18 (65535)) (by decide +kernel)) dX1_setIfThere_2 ?_
  have hPc := hP.sub (ws' := []) [] rfl
  have hDc := hD.sub (ws' := []) [] (by decide) rfl
  have hKc := hK.sub (tys' := []) [] rfl
  have hFc := va_free (wc := []) hD hS hA [] rfl
  refine va_calli (va_runV (C := RX1) (b := aM) (As := [.int pl, .int 65535]) (rest := []) ⟨hx, hb, hml, hown, hts⟩ (c_X1_faultAt l dC dI s.heap.size aM pl (65535 : Int32)) (cwV 2 hts gX1_setIfThere_X1_faultAt rfl rfl rfl (by decide +kernel) ⟨Nat.le_of_ble_eq_true rfl, Nat.le_of_ble_eq_true rfl⟩) ⟨q_blind, va_recv hK hP (ci := 1) (q0 := 0) rfl rfl, fun U hU hW => ⟨rfl, q_pay hU hW hPc hKc hDc hN⟩⟩ rfl rfl hl.1 rfl (lv_room (Nat.le_of_ble_eq_true rfl)) dX1_setIfThere_4 ⟨show 0 + 0 ≤ 0 from by omega, show 0 + 0 ≤ 0 from by omega⟩) hS (fun q _ h => hFc q h) hFc (fun r_1 u9 t H locs ht hvm hw_2 hB hz1 hk1 hS => ?_)
  obtain ⟨hP1, hK1, hD1⟩ := hB
  rw [ht] at hP1
  obtain ⟨hP, hD⟩ := va_join (wr := [(aM, .inr (1, [.ref aW, .ref aT, .int cnt])), (aW, .inl (cW, 2048, .inl words))]) (w1 := []) hP hD [] [0, 1] rfl rfl (by decide) (by decide) hk1 hFc hP1 hD1
  have hP : va_P (dC, dI) vwCl [(aM, .inr (1, [.ref aW, .ref aT, .int cnt])), (aW, .inl (cW, 2048, .inl words))] H := hP
  have hD : va_D A [(aM, .inr (1, [.ref aW, .ref aT, .int cnt])), (aW, .inl (cW, 2048, .inl words))] := hD
  refine W.widen (k := 0) (n := 0) (by omega) (by omega) ?_
  try dsimp only at hw_2
  obtain rfl := hw_2
  refine lv_if_eq (tgt := 12) hx hb dX1_setIfThere_7 (by decide) (fun c_3 => ?_) (fun c_3 => ?_)
  · refine lv_aload_n hx hb dX1_setIfThere_12 rfl (lv_at hl 0 rfl) ?_
    refine lv_iload_n hx hb dX1_setIfThere_13 rfl (lv_at hl 1 rfl) ?_
    refine lv_iload_n hx hb dX1_setIfThere_14 rfl (lv_at hl 2 rfl) ?_
    have hPc := hP.sub (ws' := [(aM, .inr (1, [.ref aW, .ref aT, .int cnt])), (aW, .inl (cW, 2048, .inl words))]) [0, 1] rfl
    have hDc := hD.sub (ws' := [(aM, .inr (1, [.ref aW, .ref aT, .int cnt])), (aW, .inl (cW, 2048, .inl words))]) [0, 1] (by decide) rfl
    have hKc := hK.sub (tys' := [(cW, .int)]) [0] rfl
    have hFc := va_free (wc := [(aM, .inr (1, [.ref aW, .ref aT, .int cnt])), (aW, .inl (cW, 2048, .inl words))]) hD hS hA [0, 1] rfl
    refine va_callv (va_runV (C := RX1) (b := aM) (As := [.int pl, .int v]) (rest := []) ⟨hx, hb, hml, hown, hts⟩ (s_X1_setWord l dC dI H.size aM pl v aW aT cnt cW words) (cwV 2 hts gX1_setIfThere_X1_setWord rfl rfl rfl (by decide +kernel) ⟨Nat.le_of_ble_eq_true rfl, Nat.le_of_ble_eq_true rfl⟩) ⟨q_blind, va_recv hK hP (ci := 1) (q0 := 0) rfl rfl, fun U hU hW => ⟨rfl, q_pay hU hW hPc hKc hDc hN⟩⟩ rfl rfl hl.1 rfl (lv_room (Nat.le_of_ble_eq_true rfl)) dX1_setIfThere_15 ⟨show 0 + 0 ≤ 0 from by omega, show 0 + 0 ≤ 0 from by omega⟩) hS (fun q _ h => hFc q h) hFc (fun u9 t H locs ht hvm hw_5 hB hz1 hk1 hS => ?_)
    obtain ⟨words2_6, rfl⟩ : ∃ z, z = u9 := ⟨_, rfl⟩
    obtain ⟨hP1, hK1, hD1⟩ := hB
    rw [ht] at hP1
    obtain ⟨hP, hD⟩ := va_join (wr := []) (w1 := [(aM, .inr (1, [.ref aW, .ref aT, .int cnt])), (aW, .inl (cW, 2048, .inl words2_6))]) hP hD [0, 1] [] rfl rfl (by decide) (by decide) hk1 hFc hP1 hD1
    have hP : va_P (dC, dI) vwCl [(aM, .inr (1, [.ref aW, .ref aT, .int cnt])), (aW, .inl (cW, 2048, .inl words2_6))] H := hP
    have hD : va_D A [(aM, .inr (1, [.ref aW, .ref aT, .int cnt])), (aW, .inl (cW, 2048, .inl words2_6))] := hD
    refine W.widen (k := 0) (n := 0) (by omega) (by omega) ?_
    try dsimp only at hw_5
    refine lv_iconst (v := 1) hx hb dX1_setIfThere_18 (by decide) ?_
    have hP9 := hP.sub (ws' := [(aM, .inr (1, [.ref aW, .ref aT, .int cnt])), (aW, .inl (cW, 2048, .inl words2_6))]) [0, 1] rfl
    have hD9 := hD.sub (ws' := [(aM, .inr (1, [.ref aW, .ref aT, .int cnt])), (aW, .inl (cW, 2048, .inl words2_6))]) [0, 1] (by decide) rfl
    have hK9 := hK.sub (tys' := [(cW, .int)]) [0] rfl
    exact W.iret (v := 1) hx hb hr (fun t ht hW => ⟨⟨1, words2_6, rfl, (by simp [ct, c_3]), by rw [ht]; exact hP9, va_K.moved hW.alike hK9, hD9⟩, hS.F ht⟩) hS.2.2 dX1_setIfThere_19
  · refine lv_iconst (v := 0) hx hb dX1_setIfThere_10 (by decide) ?_
    have hP9 := hP.sub (ws' := [(aM, .inr (1, [.ref aW, .ref aT, .int cnt])), (aW, .inl (cW, 2048, .inl words))]) [0, 1] rfl
    have hD9 := hD.sub (ws' := [(aM, .inr (1, [.ref aW, .ref aT, .int cnt])), (aW, .inl (cW, 2048, .inl words))]) [0, 1] (by decide) rfl
    have hK9 := hK.sub (tys' := [(cW, .int)]) [0] rfl
    exact W.iret (v := 0) hx hb hr (fun t ht hW => ⟨⟨0, words, rfl, (by simp [ct, c_3]), by rw [ht]; exact hP9, va_K.moved hW.alike hK9, hD9⟩, hS.F ht⟩) hS.2.2 dX1_setIfThere_11
set_option maxHeartbeats 4000000 in
set_option maxRecDepth 100000 in
theorem c_X1_setPair (l : Launch) (dC : Nat → ClassId) (dI : Nat → Nat → Nat) (sz : Nat) (aM : Nat) (pl : Int32) (v : Int32) (aW : Nat) (aT : Nat) (cnt : Int32) (cW : ClassId) (words : Nat → Int32)  : Met l yX1_setPair wsX1_setPair ({ frames := 2, cells := 0, slots := 0, locals := 44 }) (va_Pc [.ref aM, .int pl, .int v] (q_pre dC dI sz [(aM, .inr (1, [.ref aW, .ref aT, .int cnt])), (aW, .inl (cW, 2048, .inl words))] [(cW, .int)])) (va_Qi (fun (r : Int32) (u9 : (Nat → Int32)) => r = ct pl + ct (pl + 2)) (q_at dC dI (va_A [(aM, .inr (1, [.ref aW, .ref aT, .int cnt])), (aW, .inl (cW, 2048, .inl words))] sz) (fun (u9 : (Nat → Int32)) => [(cW, .int)]) (fun (u9 : (Nat → Int32)) => [(aM, .inr (1, [.ref aW, .ref aT, .int cnt])), (aW, .inl (cW, 2048, .inl u9))])) (va_A [(aM, .inr (1, [.ref aW, .ref aT, .int cnt])), (aW, .inl (cW, 2048, .inl words))] sz)) 0 0 (va_A [(aM, .inr (1, [.ref aW, .ref aT, .int cnt])), (aW, .inl (cW, 2048, .inl words))] sz) := by
  refine Met.ofW (cc := cX1_setPair) (maxL := 3) (ret := (some .int)) (by decide) rfl ?_
  intro p e s m args below meth c s₁ B hml hv
  obtain ⟨rfl, hsz, hP, hK, hD0, hN⟩ := hv
  have hx := B.exec
  have hb := B.bytes
  have hr := B.returns
  have hts := atoms_spec (ws := wsX1_setPair) B.pre
  have hown : s.vm.findClass RX1 = some m.cls := findClass_of_methodNamed B.named
  have hlocks := B.notSynchronized
  subst hsz
  have hD := hD0.self (sz := s.heap.size)
  generalize hAe : va_A [(aM, .inr (1, [.ref aW, .ref aT, .int cnt])), (aW, .inl (cW, 2048, .inl words))] s.heap.size = A at hD ⊢
  have hA : ∀ q : Nat, s.heap.size ≤ q → A q := fun q h => by rw [← hAe]; exact Or.inr h
  have hS : va_S A s.heap s.heap [] := va_S.rf
  have hP : va_P (dC, dI) vwCl [(aM, .inr (1, [.ref aW, .ref aT, .int cnt])), (aW, .inl (cW, 2048, .inl words))] s.heap := hP
  have hl := lv_entry ([.ref aM, .int pl, .int v]) (n := 3) (Nat.le_of_ble_eq_true rfl)
  rw [lg_entry_eq]
  generalize (lg_sl ([.ref aM, .int pl, .int v]) ++ List.replicate (3 - (lg_sl ([.ref aM, .int pl, .int v])).length) Slot.unset).toArray = ls at hl ⊢
  have hl : lv_has ls 3 [(0, .ref aM), (1, .int pl), (2, .int v)] := hl
  refine lv_aload_n hx hb dX1_setPair_0 rfl (lv_at hl 0 rfl) ?_
  refine lv_iload_n hx hb dX1_setPair_1 rfl (lv_at hl 1 rfl) ?_
  refine lv_iload_n hx hb dX1_setPair_2 rfl (lv_at hl 2 rfl) ?_
  refine lv_bipush (v := 16) hx hb dX1_setPair_3 (by decide) ?_
  refine lv_iushr (v := (v.toUInt32 >>> (Int32.toUInt32 16 &&& Int32.toUInt32 31)).toInt32) hx hb dX1_setPair_5 rfl ?_
  have hPc := hP.sub (ws' := [(aM, .inr (1, [.ref aW, .ref aT, .int cnt])), (aW, .inl (cW, 2048, .inl words))]) [0, 1] rfl
  have hDc := hD.sub (ws' := [(aM, .inr (1, [.ref aW, .ref aT, .int cnt])), (aW, .inl (cW, 2048, .inl words))]) [0, 1] (by decide) rfl
  have hKc := hK.sub (tys' := [(cW, .int)]) [0] rfl
  have hFc := va_free (wc := [(aM, .inr (1, [.ref aW, .ref aT, .int cnt])), (aW, .inl (cW, 2048, .inl words))]) hD hS hA [0, 1] rfl
  refine va_calli (va_runV (C := RX1) (b := aM) (As := [.int pl, .int ((v.toUInt32 >>> (Int32.toUInt32 16 &&& Int32.toUInt32 31)).toInt32)]) (rest := []) ⟨hx, hb, hml, hown, hts⟩ (c_X1_setIfThere l dC dI s.heap.size aM pl ((v.toUInt32 >>> (Int32.toUInt32 16 &&& Int32.toUInt32 31)).toInt32) aW aT cnt cW words) (cwV 2 hts gX1_setPair_X1_setIfThere rfl rfl rfl (by decide +kernel) ⟨Nat.le_of_ble_eq_true rfl, Nat.le_of_ble_eq_true rfl⟩) ⟨q_blind, va_recv hK hP (ci := 1) (q0 := 0) rfl rfl, fun U hU hW => ⟨rfl, q_pay hU hW hPc hKc hDc hN⟩⟩ rfl rfl hl.1 rfl (lv_room (Nat.le_of_ble_eq_true rfl)) dX1_setPair_6 ⟨show 0 + 0 ≤ 0 from by omega, show 0 + 0 ≤ 0 from by omega⟩) hS (fun q _ h => hFc q h) hFc (fun r_1 u9 t H locs ht hvm hw_2 hB hz1 hk1 hS => ?_)
  obtain ⟨words2_3, rfl⟩ : ∃ z, z = u9 := ⟨_, rfl⟩
  obtain ⟨hP1, hK1, hD1⟩ := hB
  rw [ht] at hP1
  obtain ⟨hP, hD⟩ := va_join (wr := []) (w1 := [(aM, .inr (1, [.ref aW, .ref aT, .int cnt])), (aW, .inl (cW, 2048, .inl words2_3))]) hP hD [0, 1] [] rfl rfl (by decide) (by decide) hk1 hFc hP1 hD1
  have hP : va_P (dC, dI) vwCl [(aM, .inr (1, [.ref aW, .ref aT, .int cnt])), (aW, .inl (cW, 2048, .inl words2_3))] H := hP
  have hD : va_D A [(aM, .inr (1, [.ref aW, .ref aT, .int cnt])), (aW, .inl (cW, 2048, .inl words2_3))] := hD
  refine W.widen (k := 0) (n := 0) (by omega) (by omega) ?_
  try dsimp only at hw_2
  obtain rfl := hw_2
  refine lv_aload_n hx hb dX1_setPair_9 rfl (lv_at hl 0 rfl) ?_
  refine lv_iload_n hx hb dX1_setPair_10 rfl (lv_at hl 1 rfl) ?_
  refine lv_iconst (v := 2) hx hb dX1_setPair_11 (by decide) ?_
  refine lv_iadd hx hb dX1_setPair_12 ?_
  refine lv_iload_n hx hb dX1_setPair_13 rfl (lv_at hl 2 rfl) ?_
  have hPc := hP.sub (ws' := [(aM, .inr (1, [.ref aW, .ref aT, .int cnt])), (aW, .inl (cW, 2048, .inl words2_3))]) [0, 1] rfl
  have hDc := hD.sub (ws' := [(aM, .inr (1, [.ref aW, .ref aT, .int cnt])), (aW, .inl (cW, 2048, .inl words2_3))]) [0, 1] (by decide) rfl
  have hKc := hK.sub (tys' := [(cW, .int)]) [0] rfl
  have hFc := va_free (wc := [(aM, .inr (1, [.ref aW, .ref aT, .int cnt])), (aW, .inl (cW, 2048, .inl words2_3))]) hD hS hA [0, 1] rfl
  refine va_calli (va_runV (C := RX1) (b := aM) (As := [.int (pl + 2), .int v]) (rest := [.int (ct pl)]) ⟨hx, hb, hml, hown, hts⟩ (c_X1_setIfThere l dC dI H.size aM (pl + 2) v aW aT cnt cW words2_3) (cwV 2 hts gX1_setPair_X1_setIfThere rfl rfl rfl (by decide +kernel) ⟨Nat.le_of_ble_eq_true rfl, Nat.le_of_ble_eq_true rfl⟩) ⟨q_blind, va_recv hK hP (ci := 1) (q0 := 0) rfl rfl, fun U hU hW => ⟨rfl, q_pay hU hW hPc hKc hDc hN⟩⟩ rfl rfl hl.1 rfl (lv_room (Nat.le_of_ble_eq_true rfl)) dX1_setPair_14 ⟨show 0 + 0 ≤ 0 from by omega, show 0 + 0 ≤ 0 from by omega⟩) hS (fun q _ h => hFc q h) hFc (fun r_4 u9 t H locs ht hvm hw_5 hB hz1 hk1 hS => ?_)
  obtain ⟨words2_6, rfl⟩ : ∃ z, z = u9 := ⟨_, rfl⟩
  obtain ⟨hP1, hK1, hD1⟩ := hB
  rw [ht] at hP1
  obtain ⟨hP, hD⟩ := va_join (wr := []) (w1 := [(aM, .inr (1, [.ref aW, .ref aT, .int cnt])), (aW, .inl (cW, 2048, .inl words2_6))]) hP hD [0, 1] [] rfl rfl (by decide) (by decide) hk1 hFc hP1 hD1
  have hP : va_P (dC, dI) vwCl [(aM, .inr (1, [.ref aW, .ref aT, .int cnt])), (aW, .inl (cW, 2048, .inl words2_6))] H := hP
  have hD : va_D A [(aM, .inr (1, [.ref aW, .ref aT, .int cnt])), (aW, .inl (cW, 2048, .inl words2_6))] := hD
  refine W.widen (k := 0) (n := 0) (by omega) (by omega) ?_
  try dsimp only at hw_5
  obtain rfl := hw_5
  refine lv_iadd hx hb dX1_setPair_17 ?_
  have hP9 := hP.sub (ws' := [(aM, .inr (1, [.ref aW, .ref aT, .int cnt])), (aW, .inl (cW, 2048, .inl words2_6))]) [0, 1] rfl
  have hD9 := hD.sub (ws' := [(aM, .inr (1, [.ref aW, .ref aT, .int cnt])), (aW, .inl (cW, 2048, .inl words2_6))]) [0, 1] (by decide) rfl
  have hK9 := hK.sub (tys' := [(cW, .int)]) [0] rfl
  exact W.iret (v := (ct pl) + (ct (pl + 2))) hx hb hr (fun t ht hW => ⟨⟨(ct pl) + (ct (pl + 2)), words2_6, rfl, rfl, by rw [ht]; exact hP9, va_K.moved hW.alike hK9, hD9⟩, hS.F ht⟩) hS.2.2 dX1_setPair_18
set_option maxHeartbeats 4000000 in
set_option maxRecDepth 100000 in
theorem s_X1_write (l : Launch) (dC : Nat → ClassId) (dI : Nat → Nat → Nat) (sz : Nat) (aM : Nat) (pl : Int32) (k : Int32) (v : Int32) (aW : Nat) (aT : Nat) (cnt : Int32) (cW : ClassId) (words : Nat → Int32) (cT : ClassId) (told : Nat → Int32) (h4 : ok4 cnt) : Met l yX1_write wsX1_write ({ frames := 0, cells := 0, slots := 0, locals := 0 }) (va_Pc [.ref aM, .int pl, .int k, .int v] (q_pre dC dI sz [(aM, .inr (1, [.ref aW, .ref aT, .int cnt])), (aW, .inl (cW, 2048, .inl words)), (aT, .inl (cT, 400, .inl told))] [(cW, .int), (cT, .int)])) (va_Qv (fun (u9 : Int32 × (Nat → Int32) × (Nat → Int32)) => ok4 u9.1) (q_at dC dI (va_A [(aM, .inr (1, [.ref aW, .ref aT, .int cnt])), (aW, .inl (cW, 2048, .inl words)), (aT, .inl (cT, 400, .inl told))] sz) (fun (u9 : Int32 × (Nat → Int32) × (Nat → Int32)) => [(cW, .int), (cT, .int)]) (fun (u9 : Int32 × (Nat → Int32) × (Nat → Int32)) => [(aM, .inr (1, [.ref aW, .ref aT, .int u9.1])), (aW, .inl (cW, 2048, .inl u9.2.1)), (aT, .inl (cT, 400, .inl u9.2.2))])) (va_A [(aM, .inr (1, [.ref aW, .ref aT, .int cnt])), (aW, .inl (cW, 2048, .inl words)), (aT, .inl (cT, 400, .inl told))] sz)) 0 0 (va_A [(aM, .inr (1, [.ref aW, .ref aT, .int cnt])), (aW, .inl (cW, 2048, .inl words)), (aT, .inl (cT, 400, .inl told))] sz) := by
  refine Met.ofW (cc := cX1_write) (maxL := 6) (ret := none) (by decide) rfl ?_
  intro p e s m args below meth c s₁ B hml hv
  obtain ⟨rfl, hsz, hP, hK, hD0, hN⟩ := hv
  have hx := B.exec
  have hb := B.bytes
  have hr := B.returns
  have hts := atoms_spec (ws := wsX1_write) B.pre
  have hown : s.vm.findClass RX1 = some m.cls := findClass_of_methodNamed B.named
  have hlocks := B.notSynchronized
  subst hsz
  have hD := hD0.self (sz := s.heap.size)
  generalize hAe : va_A [(aM, .inr (1, [.ref aW, .ref aT, .int cnt])), (aW, .inl (cW, 2048, .inl words)), (aT, .inl (cT, 400, .inl told))] s.heap.size = A at hD ⊢
  have hA : ∀ q : Nat, s.heap.size ≤ q → A q := fun q h => by rw [← hAe]; exact Or.inr h
  have hS : va_S A s.heap s.heap [] := va_S.rf
  have hP : va_P (dC, dI) vwCl [(aM, .inr (1, [.ref aW, .ref aT, .int cnt])), (aW, .inl (cW, 2048, .inl words)), (aT, .inl (cT, 400, .inl told))] s.heap := hP
  have hl := lv_entry ([.ref aM, .int pl, .int k, .int v]) (n := 6) (Nat.le_of_ble_eq_true rfl)
  rw [lg_entry_eq]
  generalize (lg_sl ([.ref aM, .int pl, .int k, .int v]) ++ List.replicate (6 - (lg_sl ([.ref aM, .int pl, .int k, .int v])).length) Slot.unset).toArray = ls at hl ⊢
  have hl : lv_has ls 6 [(0, .ref aM), (1, .int pl), (2, .int k), (3, .int v)] := hl
  refine lv_iload_n hx hb dX1_write_0 rfl (lv_at hl 1 rfl) ?_
  refine lv_iconst (v := 1) hx hb dX1_write_1 (by decide) ?_
  refine lv_ishr hx hb dX1_write_2 ?_
  refine lv_sipush (v := 2047) hx hb dX1_write_3 (by decide) ?_
  refine lv_iand hx hb dX1_write_6 ?_
  refine lv_istore (lv' := [(4, .int ((pl >>> (1 &&& 31)) &&& 2047)), (0, .ref aM), (1, .int pl), (2, .int k), (3, .int v)]) hx hb dX1_write_7 hl (by decide) rfl (fun ls hl => ?_)
  refine lv_iload_n hx hb dX1_write_9 rfl (lv_at hl 2 rfl) ?_
  refine lv_iconst (v := 1) hx hb dX1_write_10 (by decide) ?_
  refine lv_iand hx hb dX1_write_11 ?_
  refine lv_bipush (v := 8) hx hb dX1_write_12 (by decide) ?_
  refine lv_imul hx hb dX1_write_14 ?_
  refine lv_istore (lv' := [(5, .int ((pl &&& 1) * 8)), (4, .int ((pl >>> (1 &&& 31)) &&& 2047)), (0, .ref aM), (1, .int pl), (2, .int k), (3, .int v)]) hx hb dX1_write_15 hl (by decide) rfl (fun ls hl => ?_)
  refine lv_aload_n hx hb dX1_write_17 rfl (lv_at hl 2 rfl) ?_
  refine va_get (D := (dC, dI)) (ci := 1) (v := .ref aW) (C := RX1) (T := TX1) (N := 3) hx hb hts (by decide +kernel) hown hK hP 0 rfl rfl 0 (by decide) (hts (.fieldLink RX1 9 "WordGuest$Memory" "words" "[I") (by decide +kernel)) (fun _ h9 => h9) rfl dX1_write_18 ?_
  refine lv_iload hx hb dX1_write_21 (lv_at hl 1 rfl) ?_
  refine lv_aload_n hx hb dX1_write_23 rfl (lv_at hl 2 rfl) ?_
  refine va_get (D := (dC, dI)) (ci := 1) (v := .ref aW) (C := RX1) (T := TX1) (N := 3) hx hb hts (by decide +kernel) hown hK hP 0 rfl rfl 0 (by decide) (hts (.fieldLink RX1 9 "WordGuest$Memory" "words" "[I") (by decide +kernel)) (fun _ h9 => h9) rfl dX1_write_24 ?_
  refine lv_iload hx hb dX1_write_27 (lv_at hl 1 rfl) ?_
  refine va_iald hx hb hK hP 1 0 rfl rfl (pk_andIn _ 11 (by decide) (by decide)) dX1_write_29 ?_
  refine lv_iload_n hx hb dX1_write_30 rfl (lv_at hl 4 rfl) ?_
  refine lv_iload hx hb dX1_write_31 (lv_at hl 0 rfl) ?_
  refine lv_ishl hx hb dX1_write_33 ?_
  refine lv_iconst (v := (-1)) hx hb dX1_write_34 (by decide) ?_
  refine lv_ixor hx hb dX1_write_35 ?_
  refine lv_iand hx hb dX1_write_36 ?_
  refine lv_iload_n hx hb dX1_write_37 rfl (lv_at hl 5 rfl) ?_
  refine lv_iload_n hx hb dX1_write_38 rfl (lv_at hl 4 rfl) ?_
  refine lv_iand hx hb dX1_write_39 ?_
  refine lv_iload hx hb dX1_write_40 (lv_at hl 0 rfl) ?_
  refine lv_ishl hx hb dX1_write_42 ?_
  refine lv_ior hx hb dX1_write_43 ?_
  refine va_iast hx hb hK hP hD hS 1 0 rfl rfl (pk_andIn _ 11 (by decide) (by decide)) dX1_write_44 (fun H locs hP hD hS => ?_)
  have hP : va_P (dC, dI) vwCl [(aM, .inr (1, [.ref aW, .ref aT, .int cnt])), (aW, .inl (cW, 2048, .inl (upd words ((pl >>> (1 &&& 31)) &&& 2047).toNatClampNeg (((words ((pl >>> (1 &&& 31)) &&& 2047).toNatClampNeg) &&& ((k <<< (((pl &&& 1) * 8) &&& 31)) ^^^ (-1))) ||| ((v &&& k) <<< (((pl &&& 1) * 8) &&& 31)))))), (aT, .inl (cT, 400, .inl told))] H := hP
  have hD : va_D A [(aM, .inr (1, [.ref aW, .ref aT, .int cnt])), (aW, .inl (cW, 2048, .inl (upd words ((pl >>> (1 &&& 31)) &&& 2047).toNatClampNeg (((words ((pl >>> (1 &&& 31)) &&& 2047).toNatClampNeg) &&& ((k <<< (((pl &&& 1) * 8) &&& 31)) ^^^ (-1))) ||| ((v &&& k) <<< (((pl &&& 1) * 8) &&& 31)))))), (aT, .inl (cT, 400, .inl told))] := hD
  generalize (upd words ((pl >>> (1 &&& 31)) &&& 2047).toNatClampNeg (((words ((pl >>> (1 &&& 31)) &&& 2047).toNatClampNeg) &&& ((k <<< (((pl &&& 1) * 8) &&& 31)) ^^^ (-1))) ||| ((v &&& k) <<< (((pl &&& 1) * 8) &&& 31)))) = g_1 at hP hD
  refine lv_iload_n hx hb dX1_write_45 rfl (lv_at hl 3 rfl) ?_
  refine lv_sipush (v := 4094) hx hb dX1_write_46 (by decide) ?_
  refine lv_icmp_ne (tgt := 84) hx hb dX1_write_49 (by decide) (fun c_2 => ?_) (fun c_2 => ?_)
  · have hP9 := hP.sub (ws' := [(aM, .inr (1, [.ref aW, .ref aT, .int cnt])), (aW, .inl (cW, 2048, .inl g_1)), (aT, .inl (cT, 400, .inl told))]) [0, 1, 2] rfl
    have hD9 := hD.sub (ws' := [(aM, .inr (1, [.ref aW, .ref aT, .int cnt])), (aW, .inl (cW, 2048, .inl g_1)), (aT, .inl (cT, 400, .inl told))]) [0, 1, 2] (by decide) rfl
    have hK9 := hK.sub (tys' := [(cW, .int), (cT, .int)]) [0, 1] rfl
    exact W.vret hx hb hr (fun t ht hW => ⟨⟨(cnt, g_1, told), rfl, h4, by rw [ht]; exact hP9, va_K.moved hW.alike hK9, hD9⟩, hS.F ht⟩) hS.2.2 dX1_write_84
  · refine lv_aload_n hx hb dX1_write_52 rfl (lv_at hl 2 rfl) ?_
    refine va_get (D := (dC, dI)) (ci := 1) (v := .int cnt) (C := RX1) (T := TX1) (N := 3) hx hb hts (by decide +kernel) hown hK hP 0 rfl rfl 2 (by decide) (hts (.fieldLink RX1 23 "WordGuest$Memory" "toldCount" "I") (by decide +kernel)) (fun _ h9 => h9) rfl dX1_write_53 ?_
    refine lv_sipush (v := 400) hx hb dX1_write_56 (by decide) ?_
    refine lv_icmp_ge (tgt := 84) hx hb dX1_write_59 (by decide) (fun c_3 => ?_) (fun c_3 => ?_)
    · have hP9 := hP.sub (ws' := [(aM, .inr (1, [.ref aW, .ref aT, .int cnt])), (aW, .inl (cW, 2048, .inl g_1)), (aT, .inl (cT, 400, .inl told))]) [0, 1, 2] rfl
      have hD9 := hD.sub (ws' := [(aM, .inr (1, [.ref aW, .ref aT, .int cnt])), (aW, .inl (cW, 2048, .inl g_1)), (aT, .inl (cT, 400, .inl told))]) [0, 1, 2] (by decide) rfl
      have hK9 := hK.sub (tys' := [(cW, .int), (cT, .int)]) [0, 1] rfl
      exact W.vret hx hb hr (fun t ht hW => ⟨⟨(cnt, g_1, told), rfl, h4, by rw [ht]; exact hP9, va_K.moved hW.alike hK9, hD9⟩, hS.F ht⟩) hS.2.2 dX1_write_84
    · refine lv_aload_n hx hb dX1_write_62 rfl (lv_at hl 2 rfl) ?_
      refine va_get (D := (dC, dI)) (ci := 1) (v := .ref aT) (C := RX1) (T := TX1) (N := 3) hx hb hts (by decide +kernel) hown hK hP 0 rfl rfl 1 (by decide) (hts (.fieldLink RX1 15 "WordGuest$Memory" "told" "[I") (by decide +kernel)) (fun _ h9 => h9) rfl dX1_write_63 ?_
      refine lv_aload_n hx hb dX1_write_66 rfl (lv_at hl 2 rfl) ?_
      refine va_get (D := (dC, dI)) (ci := 1) (v := .int cnt) (C := RX1) (T := TX1) (N := 3) hx hb hts (by decide +kernel) hown hK hP 0 rfl rfl 2 (by decide) (hts (.fieldLink RX1 23 "WordGuest$Memory" "toldCount" "I") (by decide +kernel)) (fun _ h9 => h9) rfl dX1_write_67 ?_
      refine lv_iload_n hx hb dX1_write_70 rfl (lv_at hl 5 rfl) ?_
      refine lv_iload_n hx hb dX1_write_71 rfl (lv_at hl 4 rfl) ?_
      refine lv_iand hx hb dX1_write_72 ?_
      refine va_iast hx hb hK hP hD hS 2 1 rfl rfl (ok4_in h4 c_3) dX1_write_73 (fun H locs hP hD hS => ?_)
      have hP : va_P (dC, dI) vwCl [(aM, .inr (1, [.ref aW, .ref aT, .int cnt])), (aW, .inl (cW, 2048, .inl g_1)), (aT, .inl (cT, 400, .inl (upd told cnt.toNatClampNeg (v &&& k))))] H := hP
      have hD : va_D A [(aM, .inr (1, [.ref aW, .ref aT, .int cnt])), (aW, .inl (cW, 2048, .inl g_1)), (aT, .inl (cT, 400, .inl (upd told cnt.toNatClampNeg (v &&& k))))] := hD
      generalize (upd told cnt.toNatClampNeg (v &&& k)) = g_4 at hP hD
      refine lv_aload_n hx hb dX1_write_74 rfl (lv_at hl 2 rfl) ?_
      refine lv_dup hx hb dX1_write_75 rfl ?_
      refine va_get (D := (dC, dI)) (ci := 1) (v := .int cnt) (C := RX1) (T := TX1) (N := 3) hx hb hts (by decide +kernel) hown hK hP 0 rfl rfl 2 (by decide) (hts (.fieldLink RX1 23 "WordGuest$Memory" "toldCount" "I") (by decide +kernel)) (fun _ h9 => h9) rfl dX1_write_76 ?_
      refine lv_iconst (v := 1) hx hb dX1_write_79 (by decide) ?_
      refine lv_iadd hx hb dX1_write_80 ?_
      refine va_put (D := (dC, dI)) (ci := 1) (v := .int (cnt + 1)) (ty := .int) (C := RX1) (T := TX1) (N := 3) hx hb hts (by decide +kernel) tyX1 tyX1_ok nmX1 hown hK hP hD hS 0 rfl rfl 2 (by decide) (hts (.fieldLink RX1 23 "WordGuest$Memory" "toldCount" "I") (by decide +kernel)) (fun _ h9 => h9) rfl (by decide +kernel) rfl rfl (Nat.le_of_ble_eq_true rfl) dX1_write_81 (fun H locs hP hD hS => ?_)
      have hP : va_P (dC, dI) vwCl [(aM, .inr (1, [.ref aW, .ref aT, .int (cnt + 1)])), (aW, .inl (cW, 2048, .inl g_1)), (aT, .inl (cT, 400, .inl g_4))] H := hP
      have hD : va_D A [(aM, .inr (1, [.ref aW, .ref aT, .int (cnt + 1)])), (aW, .inl (cW, 2048, .inl g_1)), (aT, .inl (cT, 400, .inl g_4))] := hD
      have hP9 := hP.sub (ws' := [(aM, .inr (1, [.ref aW, .ref aT, .int (cnt + 1)])), (aW, .inl (cW, 2048, .inl g_1)), (aT, .inl (cT, 400, .inl g_4))]) [0, 1, 2] rfl
      have hD9 := hD.sub (ws' := [(aM, .inr (1, [.ref aW, .ref aT, .int (cnt + 1)])), (aW, .inl (cW, 2048, .inl g_1)), (aT, .inl (cT, 400, .inl g_4))]) [0, 1, 2] (by decide) rfl
      have hK9 := hK.sub (tys' := [(cW, .int), (cT, .int)]) [0, 1] rfl
      exact W.vret hx hb hr (fun t ht hW => ⟨⟨(cnt + 1, g_1, g_4), rfl, (ok4_s h4 c_3), by rw [ht]; exact hP9, va_K.moved hW.alike hK9, hD9⟩, hS.F ht⟩) hS.2.2 dX1_write_84
