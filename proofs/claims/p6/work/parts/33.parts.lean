set_option maxHeartbeats 4000000 in
set_option maxRecDepth 100000 in
theorem s_X2_begin (l : Launch) (dC : Nat → ClassId) (dI : Nat → Nat → Nat) (sz : Nat) (aR : Nat) (aM : Nat) (aA : Nat) (aB : Nat) (fault : Int32) (cA : ClassId) (regs : Nat → Int32) (cB : ClassId) (regsB : Nat → Int32)  : Met l yX2_begin wsX2_begin ({ frames := 1, cells := 0, slots := 0, locals := 200 }) (va_Pc [.ref aR] (q_pre dC dI sz [(aR, .inr (2, [.ref aM, .ref aA, .ref aB, .int fault])), (aA, .inl (cA, 8, .inl regs)), (aB, .inl (cB, 8, .inl regsB))] [(cA, .int), (cB, .int)])) (va_Qv (fun (u9 : Int32 × (Nat → Int32)) => True) (q_at dC dI (va_A [(aR, .inr (2, [.ref aM, .ref aA, .ref aB, .int fault])), (aA, .inl (cA, 8, .inl regs)), (aB, .inl (cB, 8, .inl regsB))] sz) (fun (u9 : Int32 × (Nat → Int32)) => [(cA, .int), (cB, .int)]) (fun (u9 : Int32 × (Nat → Int32)) => [(aR, .inr (2, [.ref aM, .ref aA, .ref aB, .int u9.1])), (aA, .inl (cA, 8, .inl regs)), (aB, .inl (cB, 8, .inl u9.2))])) (va_A [(aR, .inr (2, [.ref aM, .ref aA, .ref aB, .int fault])), (aA, .inl (cA, 8, .inl regs)), (aB, .inl (cB, 8, .inl regsB))] sz)) 0 0 (va_A [(aR, .inr (2, [.ref aM, .ref aA, .ref aB, .int fault])), (aA, .inl (cA, 8, .inl regs)), (aB, .inl (cB, 8, .inl regsB))] sz) := by
  refine Met.ofW (cc := cX2_begin) (maxL := 1) (ret := none) (by decide) rfl ?_
  intro p e s m args below meth c s₁ B hml hv
  obtain ⟨rfl, hsz, hP, hK, hD0, hN⟩ := hv
  have hx := B.exec
  have hb := B.bytes
  have hr := B.returns
  have hts := atoms_spec (ws := wsX2_begin) B.pre
  have hown : s.vm.findClass RX2 = some m.cls := findClass_of_methodNamed B.named
  have hlocks := B.notSynchronized
  subst hsz
  have hD := hD0.self (sz := s.heap.size)
  generalize hAe : va_A [(aR, .inr (2, [.ref aM, .ref aA, .ref aB, .int fault])), (aA, .inl (cA, 8, .inl regs)), (aB, .inl (cB, 8, .inl regsB))] s.heap.size = A at hD ⊢
  have hA : ∀ q : Nat, s.heap.size ≤ q → A q := fun q h => by rw [← hAe]; exact Or.inr h
  have hS : va_S A s.heap s.heap [] := va_S.rf
  have hP : va_P (dC, dI) vwCl [(aR, .inr (2, [.ref aM, .ref aA, .ref aB, .int fault])), (aA, .inl (cA, 8, .inl regs)), (aB, .inl (cB, 8, .inl regsB))] s.heap := hP
  have hl := lv_entry ([.ref aR]) (n := 1) (Nat.le_of_ble_eq_true rfl)
  rw [lg_entry_eq]
  generalize (lg_sl ([.ref aR]) ++ List.replicate (1 - (lg_sl ([.ref aR])).length) Slot.unset).toArray = ls at hl ⊢
  have hl : lv_has ls 1 [(0, .ref aR)] := hl
  refine lv_aload_n hx hb dX2_begin_0 rfl (lv_at hl 0 rfl) ?_
  refine va_get (D := (dC, dI)) (ci := 2) (v := .ref aA) (C := RX2) (T := TX2) (N := 4) hx hb hts (by decide +kernel) hown hK hP 0 rfl rfl 1 (by decide) (hts (.fieldLink RX2 9 "WordGuest$Parts" "registers" "[I") (by decide +kernel)) (fun _ h9 => h9) rfl dX2_begin_1 ?_
  refine lv_iconst (v := 0) hx hb dX2_begin_4 (by decide) ?_
  refine lv_aload_n hx hb dX2_begin_5 rfl (lv_at hl 0 rfl) ?_
  refine va_get (D := (dC, dI)) (ci := 2) (v := .ref aB) (C := RX2) (T := TX2) (N := 4) hx hb hts (by decide +kernel) hown hK hP 0 rfl rfl 2 (by decide) (hts (.fieldLink RX2 15 "WordGuest$Parts" "registersBefore" "[I") (by decide +kernel)) (fun _ h9 => h9) rfl dX2_begin_6 ?_
  refine lv_iconst (v := 0) hx hb dX2_begin_9 (by decide) ?_
  refine lv_bipush (v := 8) hx hb dX2_begin_10 (by decide) ?_
  refine va_copyi hx hb (hml.trans hl.1.symm) hown (hts (.methodLink RX2 22 arraycopyName) (by decide +kernel)) (hts (.native arraycopyName) (by decide +kernel)) (hts (.static arraycopyName) (by decide +kernel)) (hts (.initialized "java/lang/System") (by decide +kernel)) hK hP hD hS 1 2 0 1 rfl rfl rfl rfl rfl (by decide) (by decide) (by decide) (by decide) (by decide) (fun _ _ => rfl) (by decide) (by decide) dX2_begin_12 (fun H locs hP hD hS => ?_)
  have hP : va_P (dC, dI) vwCl [(aR, .inr (2, [.ref aM, .ref aA, .ref aB, .int fault])), (aA, .inl (cA, 8, .inl regs)), (aB, .inl (cB, 8, .inl (va_cpy regs regsB (0 : Int32).toNatClampNeg (0 : Int32).toNatClampNeg (8 : Int32).toNatClampNeg)))] H := hP
  have hD : va_D A [(aR, .inr (2, [.ref aM, .ref aA, .ref aB, .int fault])), (aA, .inl (cA, 8, .inl regs)), (aB, .inl (cB, 8, .inl (va_cpy regs regsB (0 : Int32).toNatClampNeg (0 : Int32).toNatClampNeg (8 : Int32).toNatClampNeg)))] := hD
  refine lv_aload_n hx hb dX2_begin_15 rfl (lv_at hl 0 rfl) ?_
  refine lv_iconst (v := 0) hx hb dX2_begin_16 (by decide) ?_
  refine va_put (D := (dC, dI)) (ci := 2) (v := .int 0) (ty := .int) (C := RX2) (T := TX2) (N := 4) hx hb hts (by decide +kernel) tyX2 tyX2_ok nmX2 hown hK hP hD hS 0 rfl rfl 3 (by decide) (hts (.fieldLink RX2 28 "WordGuest$Parts" "fault" "I") (by decide +kernel)) (fun _ h9 => h9) rfl (by decide +kernel) rfl rfl (Nat.le_of_ble_eq_true rfl) dX2_begin_17 (fun H locs hP hD hS => ?_)
  have hP : va_P (dC, dI) vwCl [(aR, .inr (2, [.ref aM, .ref aA, .ref aB, .int 0])), (aA, .inl (cA, 8, .inl regs)), (aB, .inl (cB, 8, .inl (va_cpy regs regsB (0 : Int32).toNatClampNeg (0 : Int32).toNatClampNeg (8 : Int32).toNatClampNeg)))] H := hP
  have hD : va_D A [(aR, .inr (2, [.ref aM, .ref aA, .ref aB, .int 0])), (aA, .inl (cA, 8, .inl regs)), (aB, .inl (cB, 8, .inl (va_cpy regs regsB (0 : Int32).toNatClampNeg (0 : Int32).toNatClampNeg (8 : Int32).toNatClampNeg)))] := hD
  have hP9 := hP.sub (ws' := [(aR, .inr (2, [.ref aM, .ref aA, .ref aB, .int 0])), (aA, .inl (cA, 8, .inl regs)), (aB, .inl (cB, 8, .inl (va_cpy regs regsB (0 : Int32).toNatClampNeg (0 : Int32).toNatClampNeg (8 : Int32).toNatClampNeg)))]) [0, 1, 2] rfl
  have hD9 := hD.sub (ws' := [(aR, .inr (2, [.ref aM, .ref aA, .ref aB, .int 0])), (aA, .inl (cA, 8, .inl regs)), (aB, .inl (cB, 8, .inl (va_cpy regs regsB (0 : Int32).toNatClampNeg (0 : Int32).toNatClampNeg (8 : Int32).toNatClampNeg)))]) [0, 1, 2] (by decide) rfl
  have hK9 := hK.sub (tys' := [(cA, .int), (cB, .int)]) [0, 1] rfl
  exact W.vret hx hb hr (fun t ht hW => ⟨⟨(0, (va_cpy regs regsB (0 : Int32).toNatClampNeg (0 : Int32).toNatClampNeg (8 : Int32).toNatClampNeg)), rfl, trivial, by rw [ht]; exact hP9, va_K.moved hW.alike hK9, hD9⟩, hS.F ht⟩) hS.2.2 dX2_begin_20
set_option maxHeartbeats 4000000 in
set_option maxRecDepth 100000 in
theorem s_X2_takeBack (l : Launch) (dC : Nat → ClassId) (dI : Nat → Nat → Nat) (sz : Nat) (aR : Nat) (aM : Nat) (aA : Nat) (aB : Nat) (fault : Int32) (cA : ClassId) (regs : Nat → Int32) (cB : ClassId) (regsB : Nat → Int32)  : Met l yX2_takeBack wsX2_takeBack ({ frames := 1, cells := 0, slots := 0, locals := 200 }) (va_Pc [.ref aR] (q_pre dC dI sz [(aR, .inr (2, [.ref aM, .ref aA, .ref aB, .int fault])), (aA, .inl (cA, 8, .inl regs)), (aB, .inl (cB, 8, .inl regsB))] [(cA, .int), (cB, .int)])) (va_Qv (fun (u9 : (Nat → Int32)) => True) (q_at dC dI (va_A [(aR, .inr (2, [.ref aM, .ref aA, .ref aB, .int fault])), (aA, .inl (cA, 8, .inl regs)), (aB, .inl (cB, 8, .inl regsB))] sz) (fun (u9 : (Nat → Int32)) => [(cA, .int), (cB, .int)]) (fun (u9 : (Nat → Int32)) => [(aR, .inr (2, [.ref aM, .ref aA, .ref aB, .int fault])), (aA, .inl (cA, 8, .inl u9)), (aB, .inl (cB, 8, .inl regsB))])) (va_A [(aR, .inr (2, [.ref aM, .ref aA, .ref aB, .int fault])), (aA, .inl (cA, 8, .inl regs)), (aB, .inl (cB, 8, .inl regsB))] sz)) 0 0 (va_A [(aR, .inr (2, [.ref aM, .ref aA, .ref aB, .int fault])), (aA, .inl (cA, 8, .inl regs)), (aB, .inl (cB, 8, .inl regsB))] sz) := by
  refine Met.ofW (cc := cX2_takeBack) (maxL := 1) (ret := none) (by decide) rfl ?_
  intro p e s m args below meth c s₁ B hml hv
  obtain ⟨rfl, hsz, hP, hK, hD0, hN⟩ := hv
  have hx := B.exec
  have hb := B.bytes
  have hr := B.returns
  have hts := atoms_spec (ws := wsX2_takeBack) B.pre
  have hown : s.vm.findClass RX2 = some m.cls := findClass_of_methodNamed B.named
  have hlocks := B.notSynchronized
  subst hsz
  have hD := hD0.self (sz := s.heap.size)
  generalize hAe : va_A [(aR, .inr (2, [.ref aM, .ref aA, .ref aB, .int fault])), (aA, .inl (cA, 8, .inl regs)), (aB, .inl (cB, 8, .inl regsB))] s.heap.size = A at hD ⊢
  have hA : ∀ q : Nat, s.heap.size ≤ q → A q := fun q h => by rw [← hAe]; exact Or.inr h
  have hS : va_S A s.heap s.heap [] := va_S.rf
  have hP : va_P (dC, dI) vwCl [(aR, .inr (2, [.ref aM, .ref aA, .ref aB, .int fault])), (aA, .inl (cA, 8, .inl regs)), (aB, .inl (cB, 8, .inl regsB))] s.heap := hP
  have hl := lv_entry ([.ref aR]) (n := 1) (Nat.le_of_ble_eq_true rfl)
  rw [lg_entry_eq]
  generalize (lg_sl ([.ref aR]) ++ List.replicate (1 - (lg_sl ([.ref aR])).length) Slot.unset).toArray = ls at hl ⊢
  have hl : lv_has ls 1 [(0, .ref aR)] := hl
  refine lv_aload_n hx hb dX2_takeBack_0 rfl (lv_at hl 0 rfl) ?_
  refine va_get (D := (dC, dI)) (ci := 2) (v := .ref aB) (C := RX2) (T := TX2) (N := 4) hx hb hts (by decide +kernel) hown hK hP 0 rfl rfl 2 (by decide) (hts (.fieldLink RX2 15 "WordGuest$Parts" "registersBefore" "[I") (by decide +kernel)) (fun _ h9 => h9) rfl dX2_takeBack_1 ?_
  refine lv_iconst (v := 0) hx hb dX2_takeBack_4 (by decide) ?_
  refine lv_aload_n hx hb dX2_takeBack_5 rfl (lv_at hl 0 rfl) ?_
  refine va_get (D := (dC, dI)) (ci := 2) (v := .ref aA) (C := RX2) (T := TX2) (N := 4) hx hb hts (by decide +kernel) hown hK hP 0 rfl rfl 1 (by decide) (hts (.fieldLink RX2 9 "WordGuest$Parts" "registers" "[I") (by decide +kernel)) (fun _ h9 => h9) rfl dX2_takeBack_6 ?_
  refine lv_iconst (v := 0) hx hb dX2_takeBack_9 (by decide) ?_
  refine lv_bipush (v := 8) hx hb dX2_takeBack_10 (by decide) ?_
  refine va_copyi hx hb (hml.trans hl.1.symm) hown (hts (.methodLink RX2 22 arraycopyName) (by decide +kernel)) (hts (.native arraycopyName) (by decide +kernel)) (hts (.static arraycopyName) (by decide +kernel)) (hts (.initialized "java/lang/System") (by decide +kernel)) hK hP hD hS 2 1 1 0 rfl rfl rfl rfl rfl (by decide) (by decide) (by decide) (by decide) (by decide) (fun _ _ => rfl) (by decide) (by decide) dX2_takeBack_12 (fun H locs hP hD hS => ?_)
  have hP : va_P (dC, dI) vwCl [(aR, .inr (2, [.ref aM, .ref aA, .ref aB, .int fault])), (aA, .inl (cA, 8, .inl (va_cpy regsB regs (0 : Int32).toNatClampNeg (0 : Int32).toNatClampNeg (8 : Int32).toNatClampNeg))), (aB, .inl (cB, 8, .inl regsB))] H := hP
  have hD : va_D A [(aR, .inr (2, [.ref aM, .ref aA, .ref aB, .int fault])), (aA, .inl (cA, 8, .inl (va_cpy regsB regs (0 : Int32).toNatClampNeg (0 : Int32).toNatClampNeg (8 : Int32).toNatClampNeg))), (aB, .inl (cB, 8, .inl regsB))] := hD
  have hP9 := hP.sub (ws' := [(aR, .inr (2, [.ref aM, .ref aA, .ref aB, .int fault])), (aA, .inl (cA, 8, .inl (va_cpy regsB regs (0 : Int32).toNatClampNeg (0 : Int32).toNatClampNeg (8 : Int32).toNatClampNeg))), (aB, .inl (cB, 8, .inl regsB))]) [0, 1, 2] rfl
  have hD9 := hD.sub (ws' := [(aR, .inr (2, [.ref aM, .ref aA, .ref aB, .int fault])), (aA, .inl (cA, 8, .inl (va_cpy regsB regs (0 : Int32).toNatClampNeg (0 : Int32).toNatClampNeg (8 : Int32).toNatClampNeg))), (aB, .inl (cB, 8, .inl regsB))]) [0, 1, 2] (by decide) rfl
  have hK9 := hK.sub (tys' := [(cA, .int), (cB, .int)]) [0, 1] rfl
  exact W.vret hx hb hr (fun t ht hW => ⟨⟨(va_cpy regsB regs (0 : Int32).toNatClampNeg (0 : Int32).toNatClampNeg (8 : Int32).toNatClampNeg), rfl, trivial, by rw [ht]; exact hP9, va_K.moved hW.alike hK9, hD9⟩, hS.F ht⟩) hS.2.2 dX2_takeBack_15
set_option maxHeartbeats 4000000 in
set_option maxRecDepth 100000 in
theorem s_X2_grow (l : Launch) (dC : Nat → ClassId) (dI : Nat → Nat → Nat) (sz : Nat) (aR : Nat) (rr : Int32) (v : Int32) (aM : Nat) (aA : Nat) (aB : Nat) (fault : Int32) (cA : ClassId) (regs : Nat → Int32) (hr9 : vp_in rr 8) : Met l yX2_grow wsX2_grow ({ frames := 0, cells := 0, slots := 0, locals := 0 }) (va_Pc [.ref aR, .int rr, .int v] (q_pre dC dI sz [(aR, .inr (2, [.ref aM, .ref aA, .ref aB, .int fault])), (aA, .inl (cA, 8, .inl regs))] [(cA, .int)])) (va_Qi (fun (r : Int32) (u9 : (Nat → Int32)) => True) (q_at dC dI (va_A [(aR, .inr (2, [.ref aM, .ref aA, .ref aB, .int fault])), (aA, .inl (cA, 8, .inl regs))] sz) (fun (u9 : (Nat → Int32)) => [(cA, .int)]) (fun (u9 : (Nat → Int32)) => [(aR, .inr (2, [.ref aM, .ref aA, .ref aB, .int fault])), (aA, .inl (cA, 8, .inl u9))])) (va_A [(aR, .inr (2, [.ref aM, .ref aA, .ref aB, .int fault])), (aA, .inl (cA, 8, .inl regs))] sz)) 0 0 (va_A [(aR, .inr (2, [.ref aM, .ref aA, .ref aB, .int fault])), (aA, .inl (cA, 8, .inl regs))] sz) := by
  refine Met.ofW (cc := cX2_grow) (maxL := 4) (ret := (some .int)) (by decide) rfl ?_
  intro p e s m args below meth c s₁ B hml hv
  obtain ⟨rfl, hsz, hP, hK, hD0, hN⟩ := hv
  have hx := B.exec
  have hb := B.bytes
  have hr := B.returns
  have hts := atoms_spec (ws := wsX2_grow) B.pre
  have hown : s.vm.findClass RX2 = some m.cls := findClass_of_methodNamed B.named
  have hlocks := B.notSynchronized
  subst hsz
  have hD := hD0.self (sz := s.heap.size)
  generalize hAe : va_A [(aR, .inr (2, [.ref aM, .ref aA, .ref aB, .int fault])), (aA, .inl (cA, 8, .inl regs))] s.heap.size = A at hD ⊢
  have hA : ∀ q : Nat, s.heap.size ≤ q → A q := fun q h => by rw [← hAe]; exact Or.inr h
  have hS : va_S A s.heap s.heap [] := va_S.rf
  have hP : va_P (dC, dI) vwCl [(aR, .inr (2, [.ref aM, .ref aA, .ref aB, .int fault])), (aA, .inl (cA, 8, .inl regs))] s.heap := hP
  have hl := lv_entry ([.ref aR, .int rr, .int v]) (n := 4) (Nat.le_of_ble_eq_true rfl)
  rw [lg_entry_eq]
  generalize (lg_sl ([.ref aR, .int rr, .int v]) ++ List.replicate (4 - (lg_sl ([.ref aR, .int rr, .int v])).length) Slot.unset).toArray = ls at hl ⊢
  have hl : lv_has ls 4 [(0, .ref aR), (1, .int rr), (2, .int v)] := hl
  refine lv_aload_n hx hb dX2_grow_0 rfl (lv_at hl 0 rfl) ?_
  refine va_get (D := (dC, dI)) (ci := 2) (v := .ref aA) (C := RX2) (T := TX2) (N := 4) hx hb hts (by decide +kernel) hown hK hP 0 rfl rfl 1 (by decide) (hts (.fieldLink RX2 9 "WordGuest$Parts" "registers" "[I") (by decide +kernel)) (fun _ h9 => h9) rfl dX2_grow_1 ?_
  refine lv_iload_n hx hb dX2_grow_4 rfl (lv_at hl 1 rfl) ?_
  refine va_iald hx hb hK hP 1 0 rfl rfl hr9 dX2_grow_5 ?_
  refine lv_istore_n (lv' := [(3, .int (regs rr.toNatClampNeg)), (0, .ref aR), (1, .int rr), (2, .int v)]) hx hb dX2_grow_6 rfl hl (by decide) rfl (fun ls hl => ?_)
  refine lv_aload_n hx hb dX2_grow_7 rfl (lv_at hl 1 rfl) ?_
  refine va_get (D := (dC, dI)) (ci := 2) (v := .ref aA) (C := RX2) (T := TX2) (N := 4) hx hb hts (by decide +kernel) hown hK hP 0 rfl rfl 1 (by decide) (hts (.fieldLink RX2 9 "WordGuest$Parts" "registers" "[I") (by decide +kernel)) (fun _ h9 => h9) rfl dX2_grow_8 ?_
  refine lv_iload_n hx hb dX2_grow_11 rfl (lv_at hl 2 rfl) ?_
  refine lv_iload_n hx hb dX2_grow_12 rfl (lv_at hl 0 rfl) ?_
  refine lv_iload_n hx hb dX2_grow_13 rfl (lv_at hl 3 rfl) ?_
  refine lv_iadd hx hb dX2_grow_14 ?_
  refine lv_ldc (v := 65535) hx hb hown (hts (.constant RX2 46 (65535)) (by decide +kernel)) dX2_grow_15 ?_
  refine lv_iand hx hb dX2_grow_17 ?_
  refine va_iast hx hb hK hP hD hS 1 0 rfl rfl hr9 dX2_grow_18 (fun H locs hP hD hS => ?_)
  have hP : va_P (dC, dI) vwCl [(aR, .inr (2, [.ref aM, .ref aA, .ref aB, .int fault])), (aA, .inl (cA, 8, .inl (upd regs rr.toNatClampNeg (((regs rr.toNatClampNeg) + v) &&& 65535))))] H := hP
  have hD : va_D A [(aR, .inr (2, [.ref aM, .ref aA, .ref aB, .int fault])), (aA, .inl (cA, 8, .inl (upd regs rr.toNatClampNeg (((regs rr.toNatClampNeg) + v) &&& 65535))))] := hD
  generalize (upd regs rr.toNatClampNeg (((regs rr.toNatClampNeg) + v) &&& 65535)) = g_1 at hP hD
  refine lv_iload_n hx hb dX2_grow_19 rfl (lv_at hl 0 rfl) ?_
  have hP9 := hP.sub (ws' := [(aR, .inr (2, [.ref aM, .ref aA, .ref aB, .int fault])), (aA, .inl (cA, 8, .inl g_1))]) [0, 1] rfl
  have hD9 := hD.sub (ws' := [(aR, .inr (2, [.ref aM, .ref aA, .ref aB, .int fault])), (aA, .inl (cA, 8, .inl g_1))]) [0, 1] (by decide) rfl
  have hK9 := hK.sub (tys' := [(cA, .int)]) [0] rfl
  exact W.iret (v := regs rr.toNatClampNeg) hx hb hr (fun t ht hW => ⟨⟨regs rr.toNatClampNeg, g_1, rfl, trivial, by rw [ht]; exact hP9, va_K.moved hW.alike hK9, hD9⟩, hS.F ht⟩) hS.2.2 dX2_grow_20
set_option maxHeartbeats 4000000 in
set_option maxRecDepth 100000 in
theorem s_X2_shrink (l : Launch) (dC : Nat → ClassId) (dI : Nat → Nat → Nat) (sz : Nat) (aR : Nat) (rr : Int32) (v : Int32) (aM : Nat) (aA : Nat) (aB : Nat) (fault : Int32) (cA : ClassId) (regs : Nat → Int32) (hr9 : vp_in rr 8) : Met l yX2_shrink wsX2_shrink ({ frames := 0, cells := 0, slots := 0, locals := 0 }) (va_Pc [.ref aR, .int rr, .int v] (q_pre dC dI sz [(aR, .inr (2, [.ref aM, .ref aA, .ref aB, .int fault])), (aA, .inl (cA, 8, .inl regs))] [(cA, .int)])) (va_Qi (fun (r : Int32) (u9 : (Nat → Int32)) => True) (q_at dC dI (va_A [(aR, .inr (2, [.ref aM, .ref aA, .ref aB, .int fault])), (aA, .inl (cA, 8, .inl regs))] sz) (fun (u9 : (Nat → Int32)) => [(cA, .int)]) (fun (u9 : (Nat → Int32)) => [(aR, .inr (2, [.ref aM, .ref aA, .ref aB, .int fault])), (aA, .inl (cA, 8, .inl u9))])) (va_A [(aR, .inr (2, [.ref aM, .ref aA, .ref aB, .int fault])), (aA, .inl (cA, 8, .inl regs))] sz)) 0 0 (va_A [(aR, .inr (2, [.ref aM, .ref aA, .ref aB, .int fault])), (aA, .inl (cA, 8, .inl regs))] sz) := by
  refine Met.ofW (cc := cX2_shrink) (maxL := 3) (ret := (some .int)) (by decide) rfl ?_
  intro p e s m args below meth c s₁ B hml hv
  obtain ⟨rfl, hsz, hP, hK, hD0, hN⟩ := hv
  have hx := B.exec
  have hb := B.bytes
  have hr := B.returns
  have hts := atoms_spec (ws := wsX2_shrink) B.pre
  have hown : s.vm.findClass RX2 = some m.cls := findClass_of_methodNamed B.named
  have hlocks := B.notSynchronized
  subst hsz
  have hD := hD0.self (sz := s.heap.size)
  generalize hAe : va_A [(aR, .inr (2, [.ref aM, .ref aA, .ref aB, .int fault])), (aA, .inl (cA, 8, .inl regs))] s.heap.size = A at hD ⊢
  have hA : ∀ q : Nat, s.heap.size ≤ q → A q := fun q h => by rw [← hAe]; exact Or.inr h
  have hS : va_S A s.heap s.heap [] := va_S.rf
  have hP : va_P (dC, dI) vwCl [(aR, .inr (2, [.ref aM, .ref aA, .ref aB, .int fault])), (aA, .inl (cA, 8, .inl regs))] s.heap := hP
  have hl := lv_entry ([.ref aR, .int rr, .int v]) (n := 3) (Nat.le_of_ble_eq_true rfl)
  rw [lg_entry_eq]
  generalize (lg_sl ([.ref aR, .int rr, .int v]) ++ List.replicate (3 - (lg_sl ([.ref aR, .int rr, .int v])).length) Slot.unset).toArray = ls at hl ⊢
  have hl : lv_has ls 3 [(0, .ref aR), (1, .int rr), (2, .int v)] := hl
  refine lv_aload_n hx hb dX2_shrink_0 rfl (lv_at hl 0 rfl) ?_
  refine va_get (D := (dC, dI)) (ci := 2) (v := .ref aA) (C := RX2) (T := TX2) (N := 4) hx hb hts (by decide +kernel) hown hK hP 0 rfl rfl 1 (by decide) (hts (.fieldLink RX2 9 "WordGuest$Parts" "registers" "[I") (by decide +kernel)) (fun _ h9 => h9) rfl dX2_shrink_1 ?_
  refine lv_iload_n hx hb dX2_shrink_4 rfl (lv_at hl 1 rfl) ?_
  refine lv_aload_n hx hb dX2_shrink_5 rfl (lv_at hl 0 rfl) ?_
  refine va_get (D := (dC, dI)) (ci := 2) (v := .ref aA) (C := RX2) (T := TX2) (N := 4) hx hb hts (by decide +kernel) hown hK hP 0 rfl rfl 1 (by decide) (hts (.fieldLink RX2 9 "WordGuest$Parts" "registers" "[I") (by decide +kernel)) (fun _ h9 => h9) rfl dX2_shrink_6 ?_
  refine lv_iload_n hx hb dX2_shrink_9 rfl (lv_at hl 1 rfl) ?_
  refine va_iald hx hb hK hP 1 0 rfl rfl hr9 dX2_shrink_10 ?_
  refine lv_iload_n hx hb dX2_shrink_11 rfl (lv_at hl 2 rfl) ?_
  refine lv_isub hx hb dX2_shrink_12 ?_
  refine lv_ldc (v := 65535) hx hb hown (hts (.constant RX2 46 (65535)) (by decide +kernel)) dX2_shrink_13 ?_
  refine lv_iand hx hb dX2_shrink_15 ?_
  refine va_iast hx hb hK hP hD hS 1 0 rfl rfl hr9 dX2_shrink_16 (fun H locs hP hD hS => ?_)
  have hP : va_P (dC, dI) vwCl [(aR, .inr (2, [.ref aM, .ref aA, .ref aB, .int fault])), (aA, .inl (cA, 8, .inl (upd regs rr.toNatClampNeg (((regs rr.toNatClampNeg) - v) &&& 65535))))] H := hP
  have hD : va_D A [(aR, .inr (2, [.ref aM, .ref aA, .ref aB, .int fault])), (aA, .inl (cA, 8, .inl (upd regs rr.toNatClampNeg (((regs rr.toNatClampNeg) - v) &&& 65535))))] := hD
  generalize (upd regs rr.toNatClampNeg (((regs rr.toNatClampNeg) - v) &&& 65535)) = g_1 at hP hD
  refine lv_aload_n hx hb dX2_shrink_17 rfl (lv_at hl 0 rfl) ?_
  refine va_get (D := (dC, dI)) (ci := 2) (v := .ref aA) (C := RX2) (T := TX2) (N := 4) hx hb hts (by decide +kernel) hown hK hP 0 rfl rfl 1 (by decide) (hts (.fieldLink RX2 9 "WordGuest$Parts" "registers" "[I") (by decide +kernel)) (fun _ h9 => h9) rfl dX2_shrink_18 ?_
  refine lv_iload_n hx hb dX2_shrink_21 rfl (lv_at hl 1 rfl) ?_
  refine va_iald hx hb hK hP 1 0 rfl rfl hr9 dX2_shrink_22 ?_
  have hP9 := hP.sub (ws' := [(aR, .inr (2, [.ref aM, .ref aA, .ref aB, .int fault])), (aA, .inl (cA, 8, .inl g_1))]) [0, 1] rfl
  have hD9 := hD.sub (ws' := [(aR, .inr (2, [.ref aM, .ref aA, .ref aB, .int fault])), (aA, .inl (cA, 8, .inl g_1))]) [0, 1] (by decide) rfl
  have hK9 := hK.sub (tys' := [(cA, .int)]) [0] rfl
  exact W.iret (v := g_1 rr.toNatClampNeg) hx hb hr (fun t ht hW => ⟨⟨g_1 rr.toNatClampNeg, g_1, rfl, trivial, by rw [ht]; exact hP9, va_K.moved hW.alike hK9, hD9⟩, hS.F ht⟩) hS.2.2 dX2_shrink_23
set_option maxHeartbeats 4000000 in
set_option maxRecDepth 100000 in
theorem s_X2_fromRegister (l : Launch) (dC : Nat → ClassId) (dI : Nat → Nat → Nat) (sz : Nat) (aR : Nat) (rr : Int32) (v : Int32) (aM : Nat) (aA : Nat) (aB : Nat) (fault : Int32) (cA : ClassId) (regs : Nat → Int32) (hr9 : vp_in rr 8) : Met l yX2_fromRegister wsX2_fromRegister ({ frames := 0, cells := 0, slots := 0, locals := 0 }) (va_Pc [.ref aR, .int rr, .int v] (q_pre dC dI sz [(aR, .inr (2, [.ref aM, .ref aA, .ref aB, .int fault])), (aA, .inl (cA, 8, .inl regs))] [(cA, .int)])) (va_Qi (fun (r : Int32) (u9 : Unit) => True) (q_at dC dI (va_A [(aR, .inr (2, [.ref aM, .ref aA, .ref aB, .int fault])), (aA, .inl (cA, 8, .inl regs))] sz) (fun (u9 : Unit) => [(cA, .int)]) (fun (u9 : Unit) => [(aR, .inr (2, [.ref aM, .ref aA, .ref aB, .int fault])), (aA, .inl (cA, 8, .inl regs))])) (va_A [(aR, .inr (2, [.ref aM, .ref aA, .ref aB, .int fault])), (aA, .inl (cA, 8, .inl regs))] sz)) 0 0 (va_A [(aR, .inr (2, [.ref aM, .ref aA, .ref aB, .int fault])), (aA, .inl (cA, 8, .inl regs))] sz) := by
  refine Met.ofW (cc := cX2_fromRegister) (maxL := 3) (ret := (some .int)) (by decide) rfl ?_
  intro p e s m args below meth c s₁ B hml hv
  obtain ⟨rfl, hsz, hP, hK, hD0, hN⟩ := hv
  have hx := B.exec
  have hb := B.bytes
  have hr := B.returns
  have hts := atoms_spec (ws := wsX2_fromRegister) B.pre
  have hown : s.vm.findClass RX2 = some m.cls := findClass_of_methodNamed B.named
  have hlocks := B.notSynchronized
  subst hsz
  have hD := hD0.self (sz := s.heap.size)
  generalize hAe : va_A [(aR, .inr (2, [.ref aM, .ref aA, .ref aB, .int fault])), (aA, .inl (cA, 8, .inl regs))] s.heap.size = A at hD ⊢
  have hA : ∀ q : Nat, s.heap.size ≤ q → A q := fun q h => by rw [← hAe]; exact Or.inr h
  have hS : va_S A s.heap s.heap [] := va_S.rf
  have hP : va_P (dC, dI) vwCl [(aR, .inr (2, [.ref aM, .ref aA, .ref aB, .int fault])), (aA, .inl (cA, 8, .inl regs))] s.heap := hP
  have hl := lv_entry ([.ref aR, .int rr, .int v]) (n := 3) (Nat.le_of_ble_eq_true rfl)
  rw [lg_entry_eq]
  generalize (lg_sl ([.ref aR, .int rr, .int v]) ++ List.replicate (3 - (lg_sl ([.ref aR, .int rr, .int v])).length) Slot.unset).toArray = ls at hl ⊢
  have hl : lv_has ls 3 [(0, .ref aR), (1, .int rr), (2, .int v)] := hl
  refine lv_aload_n hx hb dX2_fromRegister_0 rfl (lv_at hl 0 rfl) ?_
  refine va_get (D := (dC, dI)) (ci := 2) (v := .ref aA) (C := RX2) (T := TX2) (N := 4) hx hb hts (by decide +kernel) hown hK hP 0 rfl rfl 1 (by decide) (hts (.fieldLink RX2 9 "WordGuest$Parts" "registers" "[I") (by decide +kernel)) (fun _ h9 => h9) rfl dX2_fromRegister_1 ?_
  refine lv_iload_n hx hb dX2_fromRegister_4 rfl (lv_at hl 1 rfl) ?_
  refine va_iald hx hb hK hP 1 0 rfl rfl hr9 dX2_fromRegister_5 ?_
  refine lv_iload_n hx hb dX2_fromRegister_6 rfl (lv_at hl 2 rfl) ?_
  refine lv_iadd hx hb dX2_fromRegister_7 ?_
  refine lv_ldc (v := 65535) hx hb hown (hts (.constant RX2 46 (65535)) (by decide +kernel)) dX2_fromRegister_8 ?_
  refine lv_iand hx hb dX2_fromRegister_10 ?_
  have hP9 := hP.sub (ws' := [(aR, .inr (2, [.ref aM, .ref aA, .ref aB, .int fault])), (aA, .inl (cA, 8, .inl regs))]) [0, 1] rfl
  have hD9 := hD.sub (ws' := [(aR, .inr (2, [.ref aM, .ref aA, .ref aB, .int fault])), (aA, .inl (cA, 8, .inl regs))]) [0, 1] (by decide) rfl
  have hK9 := hK.sub (tys' := [(cA, .int)]) [0] rfl
  exact W.iret (v := ((regs rr.toNatClampNeg) + v) &&& 65535) hx hb hr (fun t ht hW => ⟨⟨((regs rr.toNatClampNeg) + v) &&& 65535, (), rfl, trivial, by rw [ht]; exact hP9, va_K.moved hW.alike hK9, hD9⟩, hS.F ht⟩) hS.2.2 dX2_fromRegister_11
set_option maxHeartbeats 4000000 in
set_option maxRecDepth 100000 in
theorem s_X2_goOn (l : Launch) (dC : Nat → ClassId) (dI : Nat → Nat → Nat) (sz : Nat) (aR : Nat) (v : Int32) (aM : Nat) (aA : Nat) (aB : Nat) (fault : Int32) (cA : ClassId) (regs : Nat → Int32)  : Met l yX2_goOn wsX2_goOn ({ frames := 0, cells := 0, slots := 0, locals := 0 }) (va_Pc [.ref aR, .int v] (q_pre dC dI sz [(aR, .inr (2, [.ref aM, .ref aA, .ref aB, .int fault])), (aA, .inl (cA, 8, .inl regs))] [(cA, .int)])) (va_Qv (fun (u9 : (Nat → Int32)) => True) (q_at dC dI (va_A [(aR, .inr (2, [.ref aM, .ref aA, .ref aB, .int fault])), (aA, .inl (cA, 8, .inl regs))] sz) (fun (u9 : (Nat → Int32)) => [(cA, .int)]) (fun (u9 : (Nat → Int32)) => [(aR, .inr (2, [.ref aM, .ref aA, .ref aB, .int fault])), (aA, .inl (cA, 8, .inl u9))])) (va_A [(aR, .inr (2, [.ref aM, .ref aA, .ref aB, .int fault])), (aA, .inl (cA, 8, .inl regs))] sz)) 0 0 (va_A [(aR, .inr (2, [.ref aM, .ref aA, .ref aB, .int fault])), (aA, .inl (cA, 8, .inl regs))] sz) := by
  refine Met.ofW (cc := cX2_goOn) (maxL := 2) (ret := none) (by decide) rfl ?_
  intro p e s m args below meth c s₁ B hml hv
  obtain ⟨rfl, hsz, hP, hK, hD0, hN⟩ := hv
  have hx := B.exec
  have hb := B.bytes
  have hr := B.returns
  have hts := atoms_spec (ws := wsX2_goOn) B.pre
  have hown : s.vm.findClass RX2 = some m.cls := findClass_of_methodNamed B.named
  have hlocks := B.notSynchronized
  subst hsz
  have hD := hD0.self (sz := s.heap.size)
  generalize hAe : va_A [(aR, .inr (2, [.ref aM, .ref aA, .ref aB, .int fault])), (aA, .inl (cA, 8, .inl regs))] s.heap.size = A at hD ⊢
  have hA : ∀ q : Nat, s.heap.size ≤ q → A q := fun q h => by rw [← hAe]; exact Or.inr h
  have hS : va_S A s.heap s.heap [] := va_S.rf
  have hP : va_P (dC, dI) vwCl [(aR, .inr (2, [.ref aM, .ref aA, .ref aB, .int fault])), (aA, .inl (cA, 8, .inl regs))] s.heap := hP
  have hl := lv_entry ([.ref aR, .int v]) (n := 2) (Nat.le_of_ble_eq_true rfl)
  rw [lg_entry_eq]
  generalize (lg_sl ([.ref aR, .int v]) ++ List.replicate (2 - (lg_sl ([.ref aR, .int v])).length) Slot.unset).toArray = ls at hl ⊢
  have hl : lv_has ls 2 [(0, .ref aR), (1, .int v)] := hl
  refine lv_aload_n hx hb dX2_goOn_0 rfl (lv_at hl 0 rfl) ?_
  refine va_get (D := (dC, dI)) (ci := 2) (v := .ref aA) (C := RX2) (T := TX2) (N := 4) hx hb hts (by decide +kernel) hown hK hP 0 rfl rfl 1 (by decide) (hts (.fieldLink RX2 9 "WordGuest$Parts" "registers" "[I") (by decide +kernel)) (fun _ h9 => h9) rfl dX2_goOn_1 ?_
  refine lv_bipush (v := 7) hx hb dX2_goOn_4 (by decide) ?_
  refine lv_aload_n hx hb dX2_goOn_6 rfl (lv_at hl 0 rfl) ?_
  refine va_get (D := (dC, dI)) (ci := 2) (v := .ref aA) (C := RX2) (T := TX2) (N := 4) hx hb hts (by decide +kernel) hown hK hP 0 rfl rfl 1 (by decide) (hts (.fieldLink RX2 9 "WordGuest$Parts" "registers" "[I") (by decide +kernel)) (fun _ h9 => h9) rfl dX2_goOn_7 ?_
  refine lv_bipush (v := 7) hx hb dX2_goOn_10 (by decide) ?_
  refine va_iald hx hb hK hP 1 0 rfl rfl (by unfold vp_in; decide) dX2_goOn_12 ?_
  refine lv_iconst (v := 2) hx hb dX2_goOn_13 (by decide) ?_
  refine lv_iload_n hx hb dX2_goOn_14 rfl (lv_at hl 1 rfl) ?_
  refine lv_imul hx hb dX2_goOn_15 ?_
  refine lv_iadd hx hb dX2_goOn_16 ?_
  refine lv_ldc (v := 65535) hx hb hown (hts (.constant RX2 46 (65535)) (by decide +kernel)) dX2_goOn_17 ?_
  refine lv_iand hx hb dX2_goOn_19 ?_
  refine va_iast hx hb hK hP hD hS 1 0 rfl rfl (by unfold vp_in; decide) dX2_goOn_20 (fun H locs hP hD hS => ?_)
  have hP : va_P (dC, dI) vwCl [(aR, .inr (2, [.ref aM, .ref aA, .ref aB, .int fault])), (aA, .inl (cA, 8, .inl (upd regs (7 : Int32).toNatClampNeg (((regs (7 : Int32).toNatClampNeg) + (2 * v)) &&& 65535))))] H := hP
  have hD : va_D A [(aR, .inr (2, [.ref aM, .ref aA, .ref aB, .int fault])), (aA, .inl (cA, 8, .inl (upd regs (7 : Int32).toNatClampNeg (((regs (7 : Int32).toNatClampNeg) + (2 * v)) &&& 65535))))] := hD
  generalize (upd regs (7 : Int32).toNatClampNeg (((regs (7 : Int32).toNatClampNeg) + (2 * v)) &&& 65535)) = g_1 at hP hD
  have hP9 := hP.sub (ws' := [(aR, .inr (2, [.ref aM, .ref aA, .ref aB, .int fault])), (aA, .inl (cA, 8, .inl g_1))]) [0, 1] rfl
  have hD9 := hD.sub (ws' := [(aR, .inr (2, [.ref aM, .ref aA, .ref aB, .int fault])), (aA, .inl (cA, 8, .inl g_1))]) [0, 1] (by decide) rfl
  have hK9 := hK.sub (tys' := [(cA, .int)]) [0] rfl
  exact W.vret hx hb hr (fun t ht hW => ⟨⟨g_1, rfl, trivial, by rw [ht]; exact hP9, va_K.moved hW.alike hK9, hD9⟩, hS.F ht⟩) hS.2.2 dX2_goOn_21
set_option maxHeartbeats 4000000 in
set_option maxRecDepth 100000 in
theorem s_X2_fetch (l : Launch) (dC : Nat → ClassId) (dI : Nat → Nat → Nat) (sz : Nat) (aR : Nat) (pl : Int32) (k : Int32) (aM : Nat) (aA : Nat) (aB : Nat) (fault : Int32) (cA : ClassId) (regs : Nat → Int32) (aW : Nat) (aT : Nat) (cnt : Int32) (cW : ClassId) (words : Nat → Int32)  : Met l yX2_fetch wsX2_fetch ({ frames := 1, cells := 0, slots := 0, locals := 23 }) (va_Pc [.ref aR, .int pl, .int k] (q_pre dC dI sz [(aR, .inr (2, [.ref aM, .ref aA, .ref aB, .int fault])), (aA, .inl (cA, 8, .inl regs)), (aM, .inr (1, [.ref aW, .ref aT, .int cnt])), (aW, .inl (cW, 2048, .inl words))] [(cA, .int), (cW, .int)])) (va_Qi (fun (r : Int32) (u9 : Int32) => True) (q_at dC dI (va_A [(aR, .inr (2, [.ref aM, .ref aA, .ref aB, .int fault])), (aA, .inl (cA, 8, .inl regs)), (aM, .inr (1, [.ref aW, .ref aT, .int cnt])), (aW, .inl (cW, 2048, .inl words))] sz) (fun (u9 : Int32) => [(cA, .int), (cW, .int)]) (fun (u9 : Int32) => [(aR, .inr (2, [.ref aM, .ref aA, .ref aB, .int u9])), (aA, .inl (cA, 8, .inl regs)), (aM, .inr (1, [.ref aW, .ref aT, .int cnt])), (aW, .inl (cW, 2048, .inl words))])) (va_A [(aR, .inr (2, [.ref aM, .ref aA, .ref aB, .int fault])), (aA, .inl (cA, 8, .inl regs)), (aM, .inr (1, [.ref aW, .ref aT, .int cnt])), (aW, .inl (cW, 2048, .inl words))] sz)) 0 0 (va_A [(aR, .inr (2, [.ref aM, .ref aA, .ref aB, .int fault])), (aA, .inl (cA, 8, .inl regs)), (aM, .inr (1, [.ref aW, .ref aT, .int cnt])), (aW, .inl (cW, 2048, .inl words))] sz) := by
  refine Met.ofW (cc := cX2_fetch) (maxL := 3) (ret := (some .int)) (by decide) rfl ?_
  intro p e s m args below meth c s₁ B hml hv
  obtain ⟨rfl, hsz, hP, hK, hD0, hN⟩ := hv
  have hx := B.exec
  have hb := B.bytes
  have hr := B.returns
  have hts := atoms_spec (ws := wsX2_fetch) B.pre
  have hown : s.vm.findClass RX2 = some m.cls := findClass_of_methodNamed B.named
  have hlocks := B.notSynchronized
  subst hsz
  have hD := hD0.self (sz := s.heap.size)
  generalize hAe : va_A [(aR, .inr (2, [.ref aM, .ref aA, .ref aB, .int fault])), (aA, .inl (cA, 8, .inl regs)), (aM, .inr (1, [.ref aW, .ref aT, .int cnt])), (aW, .inl (cW, 2048, .inl words))] s.heap.size = A at hD ⊢
  have hA : ∀ q : Nat, s.heap.size ≤ q → A q := fun q h => by rw [← hAe]; exact Or.inr h
  have hS : va_S A s.heap s.heap [] := va_S.rf
  have hP : va_P (dC, dI) vwCl [(aR, .inr (2, [.ref aM, .ref aA, .ref aB, .int fault])), (aA, .inl (cA, 8, .inl regs)), (aM, .inr (1, [.ref aW, .ref aT, .int cnt])), (aW, .inl (cW, 2048, .inl words))] s.heap := hP
  have hl := lv_entry ([.ref aR, .int pl, .int k]) (n := 3) (Nat.le_of_ble_eq_true rfl)
  rw [lg_entry_eq]
  generalize (lg_sl ([.ref aR, .int pl, .int k]) ++ List.replicate (3 - (lg_sl ([.ref aR, .int pl, .int k])).length) Slot.unset).toArray = ls at hl ⊢
  have hl : lv_has ls 3 [(0, .ref aR), (1, .int pl), (2, .int k)] := hl
  refine lv_iload_n hx hb dX2_fetch_0 rfl (lv_at hl 1 rfl) ?_
  refine lv_ldc (v := 65536) hx hb hown (hts (.constant RX2 38 (65536)) (by decide +kernel)) dX2_fetch_1 ?_
  refine lv_icmp_lt (tgt := 18) hx hb dX2_fetch_3 (by decide) (fun c_1 => ?_) (fun c_1 => ?_)
  · refine lv_aload_n hx hb dX2_fetch_18 rfl (lv_at hl 0 rfl) ?_
    refine va_get (D := (dC, dI)) (ci := 2) (v := .int fault) (C := RX2) (T := TX2) (N := 4) hx hb hts (by decide +kernel) hown hK hP 0 rfl rfl 3 (by decide) (hts (.fieldLink RX2 28 "WordGuest$Parts" "fault" "I") (by decide +kernel)) (fun _ h9 => h9) rfl dX2_fetch_19 ?_
    refine lv_if_ne (tgt := 38) hx hb dX2_fetch_22 (by decide) (fun c_2 => ?_) (fun c_2 => ?_)
    · refine lv_aload_n hx hb dX2_fetch_38 rfl (lv_at hl 0 rfl) ?_
      refine va_get (D := (dC, dI)) (ci := 2) (v := .int fault) (C := RX2) (T := TX2) (N := 4) hx hb hts (by decide +kernel) hown hK hP 0 rfl rfl 3 (by decide) (hts (.fieldLink RX2 28 "WordGuest$Parts" "fault" "I") (by decide +kernel)) (fun _ h9 => h9) rfl dX2_fetch_39 ?_
      refine lv_if_ne (tgt := 57) hx hb dX2_fetch_42 (by decide) (fun c_3 => ?_) (fun c_3 => ?_)
      · refine lv_iconst (v := 0) hx hb dX2_fetch_57 (by decide) ?_
        have hP9 := hP.sub (ws' := [(aR, .inr (2, [.ref aM, .ref aA, .ref aB, .int fault])), (aA, .inl (cA, 8, .inl regs)), (aM, .inr (1, [.ref aW, .ref aT, .int cnt])), (aW, .inl (cW, 2048, .inl words))]) [0, 1, 2, 3] rfl
        have hD9 := hD.sub (ws' := [(aR, .inr (2, [.ref aM, .ref aA, .ref aB, .int fault])), (aA, .inl (cA, 8, .inl regs)), (aM, .inr (1, [.ref aW, .ref aT, .int cnt])), (aW, .inl (cW, 2048, .inl words))]) [0, 1, 2, 3] (by decide) rfl
        have hK9 := hK.sub (tys' := [(cA, .int), (cW, .int)]) [0, 1] rfl
        exact W.iret (v := 0) hx hb hr (fun t ht hW => ⟨⟨0, fault, rfl, trivial, by rw [ht]; exact hP9, va_K.moved hW.alike hK9, hD9⟩, hS.F ht⟩) hS.2.2 dX2_fetch_58
      · refine lv_aload_n hx hb dX2_fetch_45 rfl (lv_at hl 0 rfl) ?_
        refine va_get (D := (dC, dI)) (ci := 2) (v := .ref aM) (C := RX2) (T := TX2) (N := 4) hx hb hts (by decide +kernel) hown hK hP 0 rfl rfl 0 (by decide) (hts (.fieldLink RX2 18 "WordGuest$Parts" "memory" "LWordGuest$Memory;") (by decide +kernel)) (fun _ h9 => h9) rfl dX2_fetch_46 ?_
        refine lv_iload_n hx hb dX2_fetch_49 rfl (lv_at hl 1 rfl) ?_
        refine lv_iload_n hx hb dX2_fetch_50 rfl (lv_at hl 2 rfl) ?_
        have hPc := hP.sub (ws' := [(aM, .inr (1, [.ref aW, .ref aT, .int cnt])), (aW, .inl (cW, 2048, .inl words))]) [2, 3] rfl
        have hDc := hD.sub (ws' := [(aM, .inr (1, [.ref aW, .ref aT, .int cnt])), (aW, .inl (cW, 2048, .inl words))]) [2, 3] (by decide) rfl
        have hKc := hK.sub (tys' := [(cW, .int)]) [1] rfl
        have hFc := va_free (wc := [(aM, .inr (1, [.ref aW, .ref aT, .int cnt])), (aW, .inl (cW, 2048, .inl words))]) hD hS hA [2, 3] rfl
        refine va_calli (va_runV (C := RX1) (b := aM) (As := [.int pl, .int k]) (rest := []) ⟨hx, hb, hml, hown, hts⟩ (s_X1_valueAt l dC dI s.heap.size aM pl k aW aT cnt cW words) (cwV 2 hts gX2_fetch_X1_valueAt rfl rfl rfl (by decide +kernel) ⟨Nat.le_of_ble_eq_true rfl, Nat.le_of_ble_eq_true rfl⟩) ⟨q_blind, va_recv hK hP (ci := 1) (q0 := 2) rfl rfl, fun U hU hW => ⟨rfl, q_pay hU hW hPc hKc hDc hN⟩⟩ rfl rfl hl.1 rfl (lv_room (Nat.le_of_ble_eq_true rfl)) dX2_fetch_51 ⟨show 0 + 0 ≤ 0 from by omega, show 0 + 0 ≤ 0 from by omega⟩) hS (fun q _ h => hFc q h) hFc (fun r_4 u9 t H locs ht hvm hw_5 hB hz1 hk1 hS => ?_)
        obtain ⟨hP1, hK1, hD1⟩ := hB
        rw [ht] at hP1
        obtain ⟨hP, hD⟩ := va_join (wr := [(aR, .inr (2, [.ref aM, .ref aA, .ref aB, .int fault])), (aA, .inl (cA, 8, .inl regs))]) (w1 := [(aM, .inr (1, [.ref aW, .ref aT, .int cnt])), (aW, .inl (cW, 2048, .inl words))]) hP hD [2, 3] [0, 1] rfl rfl (by decide) (by decide) hk1 hFc hP1 hD1
        have hP : va_P (dC, dI) vwCl [(aR, .inr (2, [.ref aM, .ref aA, .ref aB, .int fault])), (aA, .inl (cA, 8, .inl regs)), (aM, .inr (1, [.ref aW, .ref aT, .int cnt])), (aW, .inl (cW, 2048, .inl words))] H := hP
        have hD : va_D A [(aR, .inr (2, [.ref aM, .ref aA, .ref aB, .int fault])), (aA, .inl (cA, 8, .inl regs)), (aM, .inr (1, [.ref aW, .ref aT, .int cnt])), (aW, .inl (cW, 2048, .inl words))] := hD
        refine W.widen (k := 0) (n := 0) (by omega) (by omega) ?_
        try dsimp only at hw_5
        refine lv_goto (tgt := 58) hx hb dX2_fetch_54 (by decide) ?_
        have hP9 := hP.sub (ws' := [(aR, .inr (2, [.ref aM, .ref aA, .ref aB, .int fault])), (aA, .inl (cA, 8, .inl regs)), (aM, .inr (1, [.ref aW, .ref aT, .int cnt])), (aW, .inl (cW, 2048, .inl words))]) [0, 1, 2, 3] rfl
        have hD9 := hD.sub (ws' := [(aR, .inr (2, [.ref aM, .ref aA, .ref aB, .int fault])), (aA, .inl (cA, 8, .inl regs)), (aM, .inr (1, [.ref aW, .ref aT, .int cnt])), (aW, .inl (cW, 2048, .inl words))]) [0, 1, 2, 3] (by decide) rfl
        have hK9 := hK.sub (tys' := [(cA, .int), (cW, .int)]) [0, 1] rfl
        exact W.iret (v := r_4) hx hb hr (fun t ht hW => ⟨⟨r_4, fault, rfl, trivial, by rw [ht]; exact hP9, va_K.moved hW.alike hK9, hD9⟩, hS.F ht⟩) hS.2.2 dX2_fetch_58
    · refine lv_aload_n hx hb dX2_fetch_25 rfl (lv_at hl 0 rfl) ?_
      refine lv_aload_n hx hb dX2_fetch_26 rfl (lv_at hl 0 rfl) ?_
      refine va_get (D := (dC, dI)) (ci := 2) (v := .ref aM) (C := RX2) (T := TX2) (N := 4) hx hb hts (by decide +kernel) hown hK hP 0 rfl rfl 0 (by decide) (hts (.fieldLink RX2 18 "WordGuest$Parts" "memory" "LWordGuest$Memory;") (by decide +kernel)) (fun _ h9 => h9) rfl dX2_fetch_27 ?_
      refine lv_iload_n hx hb dX2_fetch_30 rfl (lv_at hl 1 rfl) ?_
      refine lv_iload_n hx hb dX2_fetch_31 rfl (lv_at hl 2 rfl) ?_
      have hPc := hP.sub (ws' := []) [] rfl
      have hDc := hD.sub (ws' := []) [] (by decide) rfl
      have hKc := hK.sub (tys' := []) [] rfl
      have hFc := va_free (wc := []) hD hS hA [] rfl
      refine va_calli (va_runV (C := RX1) (b := aM) (As := [.int pl, .int k]) (rest := [.ref aR]) ⟨hx, hb, hml, hown, hts⟩ (c_X1_faultAt l dC dI s.heap.size aM pl k) (cwV 2 hts gX2_fetch_X1_faultAt rfl rfl rfl (by decide +kernel) ⟨Nat.le_of_ble_eq_true rfl, Nat.le_of_ble_eq_true rfl⟩) ⟨q_blind, va_recv hK hP (ci := 1) (q0 := 2) rfl rfl, fun U hU hW => ⟨rfl, q_pay hU hW hPc hKc hDc hN⟩⟩ rfl rfl hl.1 rfl (lv_room (Nat.le_of_ble_eq_true rfl)) dX2_fetch_32 ⟨show 0 + 0 ≤ 0 from by omega, show 0 + 0 ≤ 0 from by omega⟩) hS (fun q _ h => hFc q h) hFc (fun r_6 u9 t H locs ht hvm hw_7 hB hz1 hk1 hS => ?_)
      obtain ⟨hP1, hK1, hD1⟩ := hB
      rw [ht] at hP1
      obtain ⟨hP, hD⟩ := va_join (wr := [(aR, .inr (2, [.ref aM, .ref aA, .ref aB, .int fault])), (aA, .inl (cA, 8, .inl regs)), (aM, .inr (1, [.ref aW, .ref aT, .int cnt])), (aW, .inl (cW, 2048, .inl words))]) (w1 := []) hP hD [] [0, 1, 2, 3] rfl rfl (by decide) (by decide) hk1 hFc hP1 hD1
      have hP : va_P (dC, dI) vwCl [(aR, .inr (2, [.ref aM, .ref aA, .ref aB, .int fault])), (aA, .inl (cA, 8, .inl regs)), (aM, .inr (1, [.ref aW, .ref aT, .int cnt])), (aW, .inl (cW, 2048, .inl words))] H := hP
      have hD : va_D A [(aR, .inr (2, [.ref aM, .ref aA, .ref aB, .int fault])), (aA, .inl (cA, 8, .inl regs)), (aM, .inr (1, [.ref aW, .ref aT, .int cnt])), (aW, .inl (cW, 2048, .inl words))] := hD
      refine W.widen (k := 0) (n := 0) (by omega) (by omega) ?_
      try dsimp only at hw_7
      obtain rfl := hw_7
      refine va_put (D := (dC, dI)) (ci := 2) (v := .int (fa pl k)) (ty := .int) (C := RX2) (T := TX2) (N := 4) hx hb hts (by decide +kernel) tyX2 tyX2_ok nmX2 hown hK hP hD hS 0 rfl rfl 3 (by decide) (hts (.fieldLink RX2 28 "WordGuest$Parts" "fault" "I") (by decide +kernel)) (fun _ h9 => h9) rfl (by decide +kernel) rfl rfl (Nat.le_of_ble_eq_true rfl) dX2_fetch_35 (fun H locs hP hD hS => ?_)
      have hP : va_P (dC, dI) vwCl [(aR, .inr (2, [.ref aM, .ref aA, .ref aB, .int (fa pl k)])), (aA, .inl (cA, 8, .inl regs)), (aM, .inr (1, [.ref aW, .ref aT, .int cnt])), (aW, .inl (cW, 2048, .inl words))] H := hP
      have hD : va_D A [(aR, .inr (2, [.ref aM, .ref aA, .ref aB, .int (fa pl k)])), (aA, .inl (cA, 8, .inl regs)), (aM, .inr (1, [.ref aW, .ref aT, .int cnt])), (aW, .inl (cW, 2048, .inl words))] := hD
      refine lv_aload_n hx hb dX2_fetch_38 rfl (lv_at hl 0 rfl) ?_
      refine va_get (D := (dC, dI)) (ci := 2) (v := .int (fa pl k)) (C := RX2) (T := TX2) (N := 4) hx hb hts (by decide +kernel) hown hK hP 0 rfl rfl 3 (by decide) (hts (.fieldLink RX2 28 "WordGuest$Parts" "fault" "I") (by decide +kernel)) (fun _ h9 => h9) rfl dX2_fetch_39 ?_
      refine lv_if_ne (tgt := 57) hx hb dX2_fetch_42 (by decide) (fun c_8 => ?_) (fun c_8 => ?_)
      · refine lv_iconst (v := 0) hx hb dX2_fetch_57 (by decide) ?_
        have hP9 := hP.sub (ws' := [(aR, .inr (2, [.ref aM, .ref aA, .ref aB, .int (fa pl k)])), (aA, .inl (cA, 8, .inl regs)), (aM, .inr (1, [.ref aW, .ref aT, .int cnt])), (aW, .inl (cW, 2048, .inl words))]) [0, 1, 2, 3] rfl
        have hD9 := hD.sub (ws' := [(aR, .inr (2, [.ref aM, .ref aA, .ref aB, .int (fa pl k)])), (aA, .inl (cA, 8, .inl regs)), (aM, .inr (1, [.ref aW, .ref aT, .int cnt])), (aW, .inl (cW, 2048, .inl words))]) [0, 1, 2, 3] (by decide) rfl
        have hK9 := hK.sub (tys' := [(cA, .int), (cW, .int)]) [0, 1] rfl
        exact W.iret (v := 0) hx hb hr (fun t ht hW => ⟨⟨0, fa pl k, rfl, trivial, by rw [ht]; exact hP9, va_K.moved hW.alike hK9, hD9⟩, hS.F ht⟩) hS.2.2 dX2_fetch_58
      · refine lv_aload_n hx hb dX2_fetch_45 rfl (lv_at hl 0 rfl) ?_
        refine va_get (D := (dC, dI)) (ci := 2) (v := .ref aM) (C := RX2) (T := TX2) (N := 4) hx hb hts (by decide +kernel) hown hK hP 0 rfl rfl 0 (by decide) (hts (.fieldLink RX2 18 "WordGuest$Parts" "memory" "LWordGuest$Memory;") (by decide +kernel)) (fun _ h9 => h9) rfl dX2_fetch_46 ?_
        refine lv_iload_n hx hb dX2_fetch_49 rfl (lv_at hl 1 rfl) ?_
        refine lv_iload_n hx hb dX2_fetch_50 rfl (lv_at hl 2 rfl) ?_
        have hPc := hP.sub (ws' := [(aM, .inr (1, [.ref aW, .ref aT, .int cnt])), (aW, .inl (cW, 2048, .inl words))]) [2, 3] rfl
        have hDc := hD.sub (ws' := [(aM, .inr (1, [.ref aW, .ref aT, .int cnt])), (aW, .inl (cW, 2048, .inl words))]) [2, 3] (by decide) rfl
        have hKc := hK.sub (tys' := [(cW, .int)]) [1] rfl
        have hFc := va_free (wc := [(aM, .inr (1, [.ref aW, .ref aT, .int cnt])), (aW, .inl (cW, 2048, .inl words))]) hD hS hA [2, 3] rfl
        refine va_calli (va_runV (C := RX1) (b := aM) (As := [.int pl, .int k]) (rest := []) ⟨hx, hb, hml, hown, hts⟩ (s_X1_valueAt l dC dI H.size aM pl k aW aT cnt cW words) (cwV 2 hts gX2_fetch_X1_valueAt rfl rfl rfl (by decide +kernel) ⟨Nat.le_of_ble_eq_true rfl, Nat.le_of_ble_eq_true rfl⟩) ⟨q_blind, va_recv hK hP (ci := 1) (q0 := 2) rfl rfl, fun U hU hW => ⟨rfl, q_pay hU hW hPc hKc hDc hN⟩⟩ rfl rfl hl.1 rfl (lv_room (Nat.le_of_ble_eq_true rfl)) dX2_fetch_51 ⟨show 0 + 0 ≤ 0 from by omega, show 0 + 0 ≤ 0 from by omega⟩) hS (fun q _ h => hFc q h) hFc (fun r_9 u9 t H locs ht hvm hw_10 hB hz1 hk1 hS => ?_)
        obtain ⟨hP1, hK1, hD1⟩ := hB
        rw [ht] at hP1
        obtain ⟨hP, hD⟩ := va_join (wr := [(aR, .inr (2, [.ref aM, .ref aA, .ref aB, .int (fa pl k)])), (aA, .inl (cA, 8, .inl regs))]) (w1 := [(aM, .inr (1, [.ref aW, .ref aT, .int cnt])), (aW, .inl (cW, 2048, .inl words))]) hP hD [2, 3] [0, 1] rfl rfl (by decide) (by decide) hk1 hFc hP1 hD1
        have hP : va_P (dC, dI) vwCl [(aR, .inr (2, [.ref aM, .ref aA, .ref aB, .int (fa pl k)])), (aA, .inl (cA, 8, .inl regs)), (aM, .inr (1, [.ref aW, .ref aT, .int cnt])), (aW, .inl (cW, 2048, .inl words))] H := hP
        have hD : va_D A [(aR, .inr (2, [.ref aM, .ref aA, .ref aB, .int (fa pl k)])), (aA, .inl (cA, 8, .inl regs)), (aM, .inr (1, [.ref aW, .ref aT, .int cnt])), (aW, .inl (cW, 2048, .inl words))] := hD
        refine W.widen (k := 0) (n := 0) (by omega) (by omega) ?_
        try dsimp only at hw_10
        refine lv_goto (tgt := 58) hx hb dX2_fetch_54 (by decide) ?_
        have hP9 := hP.sub (ws' := [(aR, .inr (2, [.ref aM, .ref aA, .ref aB, .int (fa pl k)])), (aA, .inl (cA, 8, .inl regs)), (aM, .inr (1, [.ref aW, .ref aT, .int cnt])), (aW, .inl (cW, 2048, .inl words))]) [0, 1, 2, 3] rfl
        have hD9 := hD.sub (ws' := [(aR, .inr (2, [.ref aM, .ref aA, .ref aB, .int (fa pl k)])), (aA, .inl (cA, 8, .inl regs)), (aM, .inr (1, [.ref aW, .ref aT, .int cnt])), (aW, .inl (cW, 2048, .inl words))]) [0, 1, 2, 3] (by decide) rfl
        have hK9 := hK.sub (tys' := [(cA, .int), (cW, .int)]) [0, 1] rfl
        exact W.iret (v := r_9) hx hb hr (fun t ht hW => ⟨⟨r_9, fa pl k, rfl, trivial, by rw [ht]; exact hP9, va_K.moved hW.alike hK9, hD9⟩, hS.F ht⟩) hS.2.2 dX2_fetch_58
  · refine lv_aload_n hx hb dX2_fetch_6 rfl (lv_at hl 0 rfl) ?_
    refine va_get (D := (dC, dI)) (ci := 2) (v := .ref aA) (C := RX2) (T := TX2) (N := 4) hx hb hts (by decide +kernel) hown hK hP 0 rfl rfl 1 (by decide) (hts (.fieldLink RX2 9 "WordGuest$Parts" "registers" "[I") (by decide +kernel)) (fun _ h9 => h9) rfl dX2_fetch_7 ?_
    refine lv_iload_n hx hb dX2_fetch_10 rfl (lv_at hl 1 rfl) ?_
    refine lv_bipush (v := 7) hx hb dX2_fetch_11 (by decide) ?_
    refine lv_iand hx hb dX2_fetch_13 ?_
    refine va_iald hx hb hK hP 1 0 rfl rfl (pk_andIn _ 3 (by decide) (by decide)) dX2_fetch_14 ?_
    refine lv_iload_n hx hb dX2_fetch_15 rfl (lv_at hl 2 rfl) ?_
    refine lv_iand hx hb dX2_fetch_16 ?_
    have hP9 := hP.sub (ws' := [(aR, .inr (2, [.ref aM, .ref aA, .ref aB, .int fault])), (aA, .inl (cA, 8, .inl regs)), (aM, .inr (1, [.ref aW, .ref aT, .int cnt])), (aW, .inl (cW, 2048, .inl words))]) [0, 1, 2, 3] rfl
    have hD9 := hD.sub (ws' := [(aR, .inr (2, [.ref aM, .ref aA, .ref aB, .int fault])), (aA, .inl (cA, 8, .inl regs)), (aM, .inr (1, [.ref aW, .ref aT, .int cnt])), (aW, .inl (cW, 2048, .inl words))]) [0, 1, 2, 3] (by decide) rfl
    have hK9 := hK.sub (tys' := [(cA, .int), (cW, .int)]) [0, 1] rfl
    exact W.iret (v := (regs (pl &&& 7).toNatClampNeg) &&& k) hx hb hr (fun t ht hW => ⟨⟨(regs (pl &&& 7).toNatClampNeg) &&& k, fault, rfl, trivial, by rw [ht]; exact hP9, va_K.moved hW.alike hK9, hD9⟩, hS.F ht⟩) hS.2.2 dX2_fetch_17
set_option maxHeartbeats 4000000 in
set_option maxRecDepth 100000 in
theorem s_X2_locate (l : Launch) (dC : Nat → ClassId) (dI : Nat → Nat → Nat) (sz : Nat) (aR : Nat) (bits : Int32) (k : Int32) (aM : Nat) (aA : Nat) (aB : Nat) (fault : Int32) (cA : ClassId) (regs : Nat → Int32) (aW : Nat) (aT : Nat) (cnt : Int32) (cW : ClassId) (words : Nat → Int32)  : Met l yX2_locate wsX2_locate ({ frames := 2, cells := 0, slots := 0, locals := 45 }) (va_Pc [.ref aR, .int bits, .int k] (q_pre dC dI sz [(aR, .inr (2, [.ref aM, .ref aA, .ref aB, .int fault])), (aA, .inl (cA, 8, .inl regs)), (aM, .inr (1, [.ref aW, .ref aT, .int cnt])), (aW, .inl (cW, 2048, .inl words))] [(cA, .int), (cW, .int)])) (va_Qi (fun (r : Int32) (u9 : Int32 × (Nat → Int32)) => True) (q_at dC dI (va_A [(aR, .inr (2, [.ref aM, .ref aA, .ref aB, .int fault])), (aA, .inl (cA, 8, .inl regs)), (aM, .inr (1, [.ref aW, .ref aT, .int cnt])), (aW, .inl (cW, 2048, .inl words))] sz) (fun (u9 : Int32 × (Nat → Int32)) => [(cA, .int), (cW, .int)]) (fun (u9 : Int32 × (Nat → Int32)) => [(aR, .inr (2, [.ref aM, .ref aA, .ref aB, .int u9.1])), (aA, .inl (cA, 8, .inl u9.2)), (aM, .inr (1, [.ref aW, .ref aT, .int cnt])), (aW, .inl (cW, 2048, .inl words))])) (va_A [(aR, .inr (2, [.ref aM, .ref aA, .ref aB, .int fault])), (aA, .inl (cA, 8, .inl regs)), (aM, .inr (1, [.ref aW, .ref aT, .int cnt])), (aW, .inl (cW, 2048, .inl words))] sz)) 0 0 (va_A [(aR, .inr (2, [.ref aM, .ref aA, .ref aB, .int fault])), (aA, .inl (cA, 8, .inl regs)), (aM, .inr (1, [.ref aW, .ref aT, .int cnt])), (aW, .inl (cW, 2048, .inl words))] sz) := by
  refine Met.ofW (cc := cX2_locate) (maxL := 4) (ret := (some .int)) (by decide) rfl ?_
  intro p e s m args below meth c s₁ B hml hv
  obtain ⟨rfl, hsz, hP, hK, hD0, hN⟩ := hv
  have hx := B.exec
  have hb := B.bytes
  have hr := B.returns
  have hts := atoms_spec (ws := wsX2_locate) B.pre
  have hown : s.vm.findClass RX2 = some m.cls := findClass_of_methodNamed B.named
  have hlocks := B.notSynchronized
  subst hsz
  have hD := hD0.self (sz := s.heap.size)
  generalize hAe : va_A [(aR, .inr (2, [.ref aM, .ref aA, .ref aB, .int fault])), (aA, .inl (cA, 8, .inl regs)), (aM, .inr (1, [.ref aW, .ref aT, .int cnt])), (aW, .inl (cW, 2048, .inl words))] s.heap.size = A at hD ⊢
  have hA : ∀ q : Nat, s.heap.size ≤ q → A q := fun q h => by rw [← hAe]; exact Or.inr h
  have hS : va_S A s.heap s.heap [] := va_S.rf
  have hP : va_P (dC, dI) vwCl [(aR, .inr (2, [.ref aM, .ref aA, .ref aB, .int fault])), (aA, .inl (cA, 8, .inl regs)), (aM, .inr (1, [.ref aW, .ref aT, .int cnt])), (aW, .inl (cW, 2048, .inl words))] s.heap := hP
  have hl := lv_entry ([.ref aR, .int bits, .int k]) (n := 4) (Nat.le_of_ble_eq_true rfl)
  rw [lg_entry_eq]
  generalize (lg_sl ([.ref aR, .int bits, .int k]) ++ List.replicate (4 - (lg_sl ([.ref aR, .int bits, .int k])).length) Slot.unset).toArray = ls at hl ⊢
  have hl : lv_has ls 4 [(0, .ref aR), (1, .int bits), (2, .int k)] := hl
  refine lv_iload_n hx hb dX2_locate_0 rfl (lv_at hl 1 rfl) ?_
  refine lv_bipush (v := 7) hx hb dX2_locate_1 (by decide) ?_
  refine lv_iand hx hb dX2_locate_3 ?_
  refine lv_istore_n (lv' := [(3, .int (bits &&& 7)), (0, .ref aR), (1, .int bits), (2, .int k)]) hx hb dX2_locate_4 rfl hl (by decide) rfl (fun ls hl => ?_)
  refine lv_iload_n hx hb dX2_locate_5 rfl (lv_at hl 2 rfl) ?_
  refine lv_iconst (v := 3) hx hb dX2_locate_6 (by decide) ?_
  refine lv_ishr hx hb dX2_locate_7 ?_
  refine lv_bipush (v := 7) hx hb dX2_locate_8 (by decide) ?_
  refine lv_iand hx hb dX2_locate_10 ?_
  by_cases hs_1 : ((bits >>> (3 &&& 31)) &&& 7) = 0
  · refine q_toc (y := 0) hs_1 ?_
    refine lv_tableIn (off := 41) (tgt := 52) hx hb dX2_locate_11 (by decide) (by decide) (by decide) (by decide) ?_
    refine lv_ldc (v := 65536) hx hb hown (hts (.constant RX2 38 (65536)) (by decide +kernel)) dX2_locate_52 ?_
    refine lv_iload_n hx hb dX2_locate_54 rfl (lv_at hl 0 rfl) ?_
    refine lv_iadd hx hb dX2_locate_55 ?_
    have hP9 := hP.sub (ws' := [(aR, .inr (2, [.ref aM, .ref aA, .ref aB, .int fault])), (aA, .inl (cA, 8, .inl regs)), (aM, .inr (1, [.ref aW, .ref aT, .int cnt])), (aW, .inl (cW, 2048, .inl words))]) [0, 1, 2, 3] rfl
    have hD9 := hD.sub (ws' := [(aR, .inr (2, [.ref aM, .ref aA, .ref aB, .int fault])), (aA, .inl (cA, 8, .inl regs)), (aM, .inr (1, [.ref aW, .ref aT, .int cnt])), (aW, .inl (cW, 2048, .inl words))]) [0, 1, 2, 3] (by decide) rfl
    have hK9 := hK.sub (tys' := [(cA, .int), (cW, .int)]) [0, 1] rfl
    exact W.iret (v := 65536 + (bits &&& 7)) hx hb hr (fun t ht hW => ⟨⟨65536 + (bits &&& 7), (fault, regs), rfl, trivial, by rw [ht]; exact hP9, va_K.moved hW.alike hK9, hD9⟩, hS.F ht⟩) hS.2.2 dX2_locate_56
  by_cases hs_2 : ((bits >>> (3 &&& 31)) &&& 7) = 1
  · refine q_toc (y := 1) hs_2 ?_
    refine lv_tableIn (off := 46) (tgt := 57) hx hb dX2_locate_11 (by decide) (by decide) (by decide) (by decide) ?_
    refine lv_aload_n hx hb dX2_locate_57 rfl (lv_at hl 1 rfl) ?_
    refine va_get (D := (dC, dI)) (ci := 2) (v := .ref aA) (C := RX2) (T := TX2) (N := 4) hx hb hts (by decide +kernel) hown hK hP 0 rfl rfl 1 (by decide) (hts (.fieldLink RX2 9 "WordGuest$Parts" "registers" "[I") (by decide +kernel)) (fun _ h9 => h9) rfl dX2_locate_58 ?_
    refine lv_iload_n hx hb dX2_locate_61 rfl (lv_at hl 0 rfl) ?_
    refine va_iald hx hb hK hP 1 0 rfl rfl (pk_andIn _ 3 (by decide) (by decide)) dX2_locate_62 ?_
    have hP9 := hP.sub (ws' := [(aR, .inr (2, [.ref aM, .ref aA, .ref aB, .int fault])), (aA, .inl (cA, 8, .inl regs)), (aM, .inr (1, [.ref aW, .ref aT, .int cnt])), (aW, .inl (cW, 2048, .inl words))]) [0, 1, 2, 3] rfl
    have hD9 := hD.sub (ws' := [(aR, .inr (2, [.ref aM, .ref aA, .ref aB, .int fault])), (aA, .inl (cA, 8, .inl regs)), (aM, .inr (1, [.ref aW, .ref aT, .int cnt])), (aW, .inl (cW, 2048, .inl words))]) [0, 1, 2, 3] (by decide) rfl
    have hK9 := hK.sub (tys' := [(cA, .int), (cW, .int)]) [0, 1] rfl
    exact W.iret (v := regs (bits &&& 7).toNatClampNeg) hx hb hr (fun t ht hW => ⟨⟨regs (bits &&& 7).toNatClampNeg, (fault, regs), rfl, trivial, by rw [ht]; exact hP9, va_K.moved hW.alike hK9, hD9⟩, hS.F ht⟩) hS.2.2 dX2_locate_63
  by_cases hs_3 : ((bits >>> (3 &&& 31)) &&& 7) = 2
  · refine q_toc (y := 2) hs_3 ?_
    refine lv_tableIn (off := 53) (tgt := 64) hx hb dX2_locate_11 (by decide) (by decide) (by decide) (by decide) ?_
    refine lv_aload_n hx hb dX2_locate_64 rfl (lv_at hl 1 rfl) ?_
    refine lv_iload_n hx hb dX2_locate_65 rfl (lv_at hl 0 rfl) ?_
    refine lv_iload_n hx hb dX2_locate_66 rfl (lv_at hl 0 rfl) ?_
    refine lv_iload_n hx hb dX2_locate_67 rfl (lv_at hl 3 rfl) ?_
    have hPc := hP.sub (ws' := []) [] rfl
    have hDc := hD.sub (ws' := []) [] (by decide) rfl
    have hKc := hK.sub (tys' := []) [] rfl
    have hFc := va_free (wc := []) hD hS hA [] rfl
    refine va_calli (va_runS (As := [.int (bits &&& 7), .int k]) (rest := [.int (bits &&& 7), .ref aR]) ⟨hx, hb, hml, hown, hts⟩ (s_X2_strideOf l dC dI s.heap.size (bits &&& 7) k) (va_cwS 2 hts gX2_locate_X2_strideOf rfl rfl rfl (by decide +kernel) ⟨Nat.le_of_ble_eq_true rfl, Nat.le_of_ble_eq_true rfl⟩) ⟨q_blind, fun U hU hW => ⟨rfl, q_pay hU hW hPc hKc hDc hN⟩⟩ rfl rfl hl.1 rfl (lv_room (Nat.le_of_ble_eq_true rfl)) dX2_locate_68 ⟨show 0 + 0 ≤ 0 from by omega, show 0 + 0 ≤ 0 from by omega⟩) hS (fun q _ h => hFc q h) hFc (fun r_4 u9 t H locs ht hvm hw_5 hB hz1 hk1 hS => ?_)
    obtain ⟨hP1, hK1, hD1⟩ := hB
    rw [ht] at hP1
    obtain ⟨hP, hD⟩ := va_join (wr := [(aR, .inr (2, [.ref aM, .ref aA, .ref aB, .int fault])), (aA, .inl (cA, 8, .inl regs)), (aM, .inr (1, [.ref aW, .ref aT, .int cnt])), (aW, .inl (cW, 2048, .inl words))]) (w1 := []) hP hD [] [0, 1, 2, 3] rfl rfl (by decide) (by decide) hk1 hFc hP1 hD1
    have hP : va_P (dC, dI) vwCl [(aR, .inr (2, [.ref aM, .ref aA, .ref aB, .int fault])), (aA, .inl (cA, 8, .inl regs)), (aM, .inr (1, [.ref aW, .ref aT, .int cnt])), (aW, .inl (cW, 2048, .inl words))] H := hP
    have hD : va_D A [(aR, .inr (2, [.ref aM, .ref aA, .ref aB, .int fault])), (aA, .inl (cA, 8, .inl regs)), (aM, .inr (1, [.ref aW, .ref aT, .int cnt])), (aW, .inl (cW, 2048, .inl words))] := hD
    refine W.widen (k := 0) (n := 0) (by omega) (by omega) ?_
    try dsimp only at hw_5
    have hPc := hP.sub (ws' := [(aR, .inr (2, [.ref aM, .ref aA, .ref aB, .int fault])), (aA, .inl (cA, 8, .inl regs))]) [0, 1] rfl
    have hDc := hD.sub (ws' := [(aR, .inr (2, [.ref aM, .ref aA, .ref aB, .int fault])), (aA, .inl (cA, 8, .inl regs))]) [0, 1] (by decide) rfl
    have hKc := hK.sub (tys' := [(cA, .int)]) [0] rfl
    have hFc := va_free (wc := [(aR, .inr (2, [.ref aM, .ref aA, .ref aB, .int fault])), (aA, .inl (cA, 8, .inl regs))]) hD hS hA [0, 1] rfl
    refine va_calli (va_runV (C := RX2) (b := aR) (As := [.int (bits &&& 7), .int r_4]) (rest := []) ⟨hx, hb, hml, hown, hts⟩ (s_X2_grow l dC dI H.size aR (bits &&& 7) r_4 aM aA aB fault cA regs (pk_andIn _ 3 (by decide) (by decide))) (cwV 2 hts gX2_locate_X2_grow rfl rfl rfl (by decide +kernel) ⟨Nat.le_of_ble_eq_true rfl, Nat.le_of_ble_eq_true rfl⟩) ⟨q_blind, va_recv hK hP (ci := 2) (q0 := 0) rfl rfl, fun U hU hW => ⟨rfl, q_pay hU hW hPc hKc hDc hN⟩⟩ rfl rfl hl.1 rfl (lv_room (Nat.le_of_ble_eq_true rfl)) dX2_locate_71 ⟨show 0 + 0 ≤ 0 from by omega, show 0 + 0 ≤ 0 from by omega⟩) hS (fun q _ h => hFc q h) hFc (fun r_6 u9 t H locs ht hvm hw_7 hB hz1 hk1 hS => ?_)
    obtain ⟨regs2_8, rfl⟩ : ∃ z, z = u9 := ⟨_, rfl⟩
    obtain ⟨hP1, hK1, hD1⟩ := hB
    rw [ht] at hP1
    obtain ⟨hP, hD⟩ := va_join (wr := [(aM, .inr (1, [.ref aW, .ref aT, .int cnt])), (aW, .inl (cW, 2048, .inl words))]) (w1 := [(aR, .inr (2, [.ref aM, .ref aA, .ref aB, .int fault])), (aA, .inl (cA, 8, .inl regs2_8))]) hP hD [0, 1] [2, 3] rfl rfl (by decide) (by decide) hk1 hFc hP1 hD1
    have hP : va_P (dC, dI) vwCl [(aM, .inr (1, [.ref aW, .ref aT, .int cnt])), (aW, .inl (cW, 2048, .inl words)), (aR, .inr (2, [.ref aM, .ref aA, .ref aB, .int fault])), (aA, .inl (cA, 8, .inl regs2_8))] H := hP
    have hD : va_D A [(aM, .inr (1, [.ref aW, .ref aT, .int cnt])), (aW, .inl (cW, 2048, .inl words)), (aR, .inr (2, [.ref aM, .ref aA, .ref aB, .int fault])), (aA, .inl (cA, 8, .inl regs2_8))] := hD
    refine W.widen (k := 0) (n := 0) (by omega) (by omega) ?_
    try dsimp only at hw_7
    have hP9 := hP.sub (ws' := [(aR, .inr (2, [.ref aM, .ref aA, .ref aB, .int fault])), (aA, .inl (cA, 8, .inl regs2_8)), (aM, .inr (1, [.ref aW, .ref aT, .int cnt])), (aW, .inl (cW, 2048, .inl words))]) [2, 3, 0, 1] rfl
    have hD9 := hD.sub (ws' := [(aR, .inr (2, [.ref aM, .ref aA, .ref aB, .int fault])), (aA, .inl (cA, 8, .inl regs2_8)), (aM, .inr (1, [.ref aW, .ref aT, .int cnt])), (aW, .inl (cW, 2048, .inl words))]) [2, 3, 0, 1] (by decide) rfl
    have hK9 := hK.sub (tys' := [(cA, .int), (cW, .int)]) [0, 1] rfl
    exact W.iret (v := r_6) hx hb hr (fun t ht hW => ⟨⟨r_6, (fault, regs2_8), rfl, trivial, by rw [ht]; exact hP9, va_K.moved hW.alike hK9, hD9⟩, hS.F ht⟩) hS.2.2 dX2_locate_74
  by_cases hs_9 : ((bits >>> (3 &&& 31)) &&& 7) = 3
  · refine q_toc (y := 3) hs_9 ?_
    refine lv_tableIn (off := 64) (tgt := 75) hx hb dX2_locate_11 (by decide) (by decide) (by decide) (by decide) ?_
    refine lv_aload_n hx hb dX2_locate_75 rfl (lv_at hl 1 rfl) ?_
    refine lv_aload_n hx hb dX2_locate_76 rfl (lv_at hl 1 rfl) ?_
    refine lv_iload_n hx hb dX2_locate_77 rfl (lv_at hl 0 rfl) ?_
    refine lv_iconst (v := 2) hx hb dX2_locate_78 (by decide) ?_
    have hPc := hP.sub (ws' := [(aR, .inr (2, [.ref aM, .ref aA, .ref aB, .int fault])), (aA, .inl (cA, 8, .inl regs))]) [0, 1] rfl
    have hDc := hD.sub (ws' := [(aR, .inr (2, [.ref aM, .ref aA, .ref aB, .int fault])), (aA, .inl (cA, 8, .inl regs))]) [0, 1] (by decide) rfl
    have hKc := hK.sub (tys' := [(cA, .int)]) [0] rfl
    have hFc := va_free (wc := [(aR, .inr (2, [.ref aM, .ref aA, .ref aB, .int fault])), (aA, .inl (cA, 8, .inl regs))]) hD hS hA [0, 1] rfl
    refine va_calli (va_runV (C := RX2) (b := aR) (As := [.int (bits &&& 7), .int 2]) (rest := [.ref aR]) ⟨hx, hb, hml, hown, hts⟩ (s_X2_grow l dC dI s.heap.size aR (bits &&& 7) (2 : Int32) aM aA aB fault cA regs (pk_andIn _ 3 (by decide) (by decide))) (cwV 2 hts gX2_locate_X2_grow rfl rfl rfl (by decide +kernel) ⟨Nat.le_of_ble_eq_true rfl, Nat.le_of_ble_eq_true rfl⟩) ⟨q_blind, va_recv hK hP (ci := 2) (q0 := 0) rfl rfl, fun U hU hW => ⟨rfl, q_pay hU hW hPc hKc hDc hN⟩⟩ rfl rfl hl.1 rfl (lv_room (Nat.le_of_ble_eq_true rfl)) dX2_locate_79 ⟨show 0 + 0 ≤ 0 from by omega, show 0 + 0 ≤ 0 from by omega⟩) hS (fun q _ h => hFc q h) hFc (fun r_10 u9 t H locs ht hvm hw_11 hB hz1 hk1 hS => ?_)
    obtain ⟨regs2_12, rfl⟩ : ∃ z, z = u9 := ⟨_, rfl⟩
    obtain ⟨hP1, hK1, hD1⟩ := hB
    rw [ht] at hP1
    obtain ⟨hP, hD⟩ := va_join (wr := [(aM, .inr (1, [.ref aW, .ref aT, .int cnt])), (aW, .inl (cW, 2048, .inl words))]) (w1 := [(aR, .inr (2, [.ref aM, .ref aA, .ref aB, .int fault])), (aA, .inl (cA, 8, .inl regs2_12))]) hP hD [0, 1] [2, 3] rfl rfl (by decide) (by decide) hk1 hFc hP1 hD1
    have hP : va_P (dC, dI) vwCl [(aM, .inr (1, [.ref aW, .ref aT, .int cnt])), (aW, .inl (cW, 2048, .inl words)), (aR, .inr (2, [.ref aM, .ref aA, .ref aB, .int fault])), (aA, .inl (cA, 8, .inl regs2_12))] H := hP
    have hD : va_D A [(aM, .inr (1, [.ref aW, .ref aT, .int cnt])), (aW, .inl (cW, 2048, .inl words)), (aR, .inr (2, [.ref aM, .ref aA, .ref aB, .int fault])), (aA, .inl (cA, 8, .inl regs2_12))] := hD
    refine W.widen (k := 0) (n := 0) (by omega) (by omega) ?_
    try dsimp only at hw_11
    refine lv_ldc (v := 65535) hx hb hown (hts (.constant RX2 46 (65535)) (by decide +kernel)) dX2_locate_82 ?_
    have hPc := hP.sub (ws' := [(aR, .inr (2, [.ref aM, .ref aA, .ref aB, .int fault])), (aA, .inl (cA, 8, .inl regs2_12)), (aM, .inr (1, [.ref aW, .ref aT, .int cnt])), (aW, .inl (cW, 2048, .inl words))]) [2, 3, 0, 1] rfl
    have hDc := hD.sub (ws' := [(aR, .inr (2, [.ref aM, .ref aA, .ref aB, .int fault])), (aA, .inl (cA, 8, .inl regs2_12)), (aM, .inr (1, [.ref aW, .ref aT, .int cnt])), (aW, .inl (cW, 2048, .inl words))]) [2, 3, 0, 1] (by decide) rfl
    have hKc := hK.sub (tys' := [(cA, .int), (cW, .int)]) [0, 1] rfl
    have hFc := va_free (wc := [(aR, .inr (2, [.ref aM, .ref aA, .ref aB, .int fault])), (aA, .inl (cA, 8, .inl regs2_12)), (aM, .inr (1, [.ref aW, .ref aT, .int cnt])), (aW, .inl (cW, 2048, .inl words))]) hD hS hA [2, 3, 0, 1] rfl
    refine va_calli (va_runV (C := RX2) (b := aR) (As := [.int r_10, .int 65535]) (rest := []) ⟨hx, hb, hml, hown, hts⟩ (s_X2_fetch l dC dI H.size aR r_10 (65535 : Int32) aM aA aB fault cA regs2_12 aW aT cnt cW words) (cwV 2 hts gX2_locate_X2_fetch rfl rfl rfl (by decide +kernel) ⟨Nat.le_of_ble_eq_true rfl, Nat.le_of_ble_eq_true rfl⟩) ⟨q_blind, va_recv hK hP (ci := 2) (q0 := 2) rfl rfl, fun U hU hW => ⟨rfl, q_pay hU hW hPc hKc hDc hN⟩⟩ rfl rfl hl.1 rfl (lv_room (Nat.le_of_ble_eq_true rfl)) dX2_locate_84 ⟨show 0 + 0 ≤ 0 from by omega, show 0 + 0 ≤ 0 from by omega⟩) hS (fun q _ h => hFc q h) hFc (fun r_13 u9 t H locs ht hvm hw_14 hB hz1 hk1 hS => ?_)
    obtain ⟨fault2_15, rfl⟩ : ∃ z, z = u9 := ⟨_, rfl⟩
    obtain ⟨hP1, hK1, hD1⟩ := hB
    rw [ht] at hP1
    obtain ⟨hP, hD⟩ := va_join (wr := []) (w1 := [(aR, .inr (2, [.ref aM, .ref aA, .ref aB, .int fault2_15])), (aA, .inl (cA, 8, .inl regs2_12)), (aM, .inr (1, [.ref aW, .ref aT, .int cnt])), (aW, .inl (cW, 2048, .inl words))]) hP hD [2, 3, 0, 1] [] rfl rfl (by decide) (by decide) hk1 hFc hP1 hD1
    have hP : va_P (dC, dI) vwCl [(aR, .inr (2, [.ref aM, .ref aA, .ref aB, .int fault2_15])), (aA, .inl (cA, 8, .inl regs2_12)), (aM, .inr (1, [.ref aW, .ref aT, .int cnt])), (aW, .inl (cW, 2048, .inl words))] H := hP
    have hD : va_D A [(aR, .inr (2, [.ref aM, .ref aA, .ref aB, .int fault2_15])), (aA, .inl (cA, 8, .inl regs2_12)), (aM, .inr (1, [.ref aW, .ref aT, .int cnt])), (aW, .inl (cW, 2048, .inl words))] := hD
    refine W.widen (k := 0) (n := 0) (by omega) (by omega) ?_
    try dsimp only at hw_14
    have hP9 := hP.sub (ws' := [(aR, .inr (2, [.ref aM, .ref aA, .ref aB, .int fault2_15])), (aA, .inl (cA, 8, .inl regs2_12)), (aM, .inr (1, [.ref aW, .ref aT, .int cnt])), (aW, .inl (cW, 2048, .inl words))]) [0, 1, 2, 3] rfl
    have hD9 := hD.sub (ws' := [(aR, .inr (2, [.ref aM, .ref aA, .ref aB, .int fault2_15])), (aA, .inl (cA, 8, .inl regs2_12)), (aM, .inr (1, [.ref aW, .ref aT, .int cnt])), (aW, .inl (cW, 2048, .inl words))]) [0, 1, 2, 3] (by decide) rfl
    have hK9 := hK.sub (tys' := [(cA, .int), (cW, .int)]) [0, 1] rfl
    exact W.iret (v := r_13) hx hb hr (fun t ht hW => ⟨⟨r_13, (fault2_15, regs2_12), rfl, trivial, by rw [ht]; exact hP9, va_K.moved hW.alike hK9, hD9⟩, hS.F ht⟩) hS.2.2 dX2_locate_87
  by_cases hs_16 : ((bits >>> (3 &&& 31)) &&& 7) = 4
  · refine q_toc (y := 4) hs_16 ?_
    refine lv_tableIn (off := 77) (tgt := 88) hx hb dX2_locate_11 (by decide) (by decide) (by decide) (by decide) ?_
    refine lv_aload_n hx hb dX2_locate_88 rfl (lv_at hl 1 rfl) ?_
    refine lv_iload_n hx hb dX2_locate_89 rfl (lv_at hl 0 rfl) ?_
    refine lv_iload_n hx hb dX2_locate_90 rfl (lv_at hl 0 rfl) ?_
    refine lv_iload_n hx hb dX2_locate_91 rfl (lv_at hl 3 rfl) ?_
    have hPc := hP.sub (ws' := []) [] rfl
    have hDc := hD.sub (ws' := []) [] (by decide) rfl
    have hKc := hK.sub (tys' := []) [] rfl
    have hFc := va_free (wc := []) hD hS hA [] rfl
    refine va_calli (va_runS (As := [.int (bits &&& 7), .int k]) (rest := [.int (bits &&& 7), .ref aR]) ⟨hx, hb, hml, hown, hts⟩ (s_X2_strideOf l dC dI s.heap.size (bits &&& 7) k) (va_cwS 2 hts gX2_locate_X2_strideOf rfl rfl rfl (by decide +kernel) ⟨Nat.le_of_ble_eq_true rfl, Nat.le_of_ble_eq_true rfl⟩) ⟨q_blind, fun U hU hW => ⟨rfl, q_pay hU hW hPc hKc hDc hN⟩⟩ rfl rfl hl.1 rfl (lv_room (Nat.le_of_ble_eq_true rfl)) dX2_locate_92 ⟨show 0 + 0 ≤ 0 from by omega, show 0 + 0 ≤ 0 from by omega⟩) hS (fun q _ h => hFc q h) hFc (fun r_17 u9 t H locs ht hvm hw_18 hB hz1 hk1 hS => ?_)
    obtain ⟨hP1, hK1, hD1⟩ := hB
    rw [ht] at hP1
    obtain ⟨hP, hD⟩ := va_join (wr := [(aR, .inr (2, [.ref aM, .ref aA, .ref aB, .int fault])), (aA, .inl (cA, 8, .inl regs)), (aM, .inr (1, [.ref aW, .ref aT, .int cnt])), (aW, .inl (cW, 2048, .inl words))]) (w1 := []) hP hD [] [0, 1, 2, 3] rfl rfl (by decide) (by decide) hk1 hFc hP1 hD1
    have hP : va_P (dC, dI) vwCl [(aR, .inr (2, [.ref aM, .ref aA, .ref aB, .int fault])), (aA, .inl (cA, 8, .inl regs)), (aM, .inr (1, [.ref aW, .ref aT, .int cnt])), (aW, .inl (cW, 2048, .inl words))] H := hP
    have hD : va_D A [(aR, .inr (2, [.ref aM, .ref aA, .ref aB, .int fault])), (aA, .inl (cA, 8, .inl regs)), (aM, .inr (1, [.ref aW, .ref aT, .int cnt])), (aW, .inl (cW, 2048, .inl words))] := hD
    refine W.widen (k := 0) (n := 0) (by omega) (by omega) ?_
    try dsimp only at hw_18
    have hPc := hP.sub (ws' := [(aR, .inr (2, [.ref aM, .ref aA, .ref aB, .int fault])), (aA, .inl (cA, 8, .inl regs))]) [0, 1] rfl
    have hDc := hD.sub (ws' := [(aR, .inr (2, [.ref aM, .ref aA, .ref aB, .int fault])), (aA, .inl (cA, 8, .inl regs))]) [0, 1] (by decide) rfl
    have hKc := hK.sub (tys' := [(cA, .int)]) [0] rfl
    have hFc := va_free (wc := [(aR, .inr (2, [.ref aM, .ref aA, .ref aB, .int fault])), (aA, .inl (cA, 8, .inl regs))]) hD hS hA [0, 1] rfl
    refine va_calli (va_runV (C := RX2) (b := aR) (As := [.int (bits &&& 7), .int r_17]) (rest := []) ⟨hx, hb, hml, hown, hts⟩ (s_X2_shrink l dC dI H.size aR (bits &&& 7) r_17 aM aA aB fault cA regs (pk_andIn _ 3 (by decide) (by decide))) (cwV 2 hts gX2_locate_X2_shrink rfl rfl rfl (by decide +kernel) ⟨Nat.le_of_ble_eq_true rfl, Nat.le_of_ble_eq_true rfl⟩) ⟨q_blind, va_recv hK hP (ci := 2) (q0 := 0) rfl rfl, fun U hU hW => ⟨rfl, q_pay hU hW hPc hKc hDc hN⟩⟩ rfl rfl hl.1 rfl (lv_room (Nat.le_of_ble_eq_true rfl)) dX2_locate_95 ⟨show 0 + 0 ≤ 0 from by omega, show 0 + 0 ≤ 0 from by omega⟩) hS (fun q _ h => hFc q h) hFc (fun r_19 u9 t H locs ht hvm hw_20 hB hz1 hk1 hS => ?_)
    obtain ⟨regs2_21, rfl⟩ : ∃ z, z = u9 := ⟨_, rfl⟩
    obtain ⟨hP1, hK1, hD1⟩ := hB
    rw [ht] at hP1
    obtain ⟨hP, hD⟩ := va_join (wr := [(aM, .inr (1, [.ref aW, .ref aT, .int cnt])), (aW, .inl (cW, 2048, .inl words))]) (w1 := [(aR, .inr (2, [.ref aM, .ref aA, .ref aB, .int fault])), (aA, .inl (cA, 8, .inl regs2_21))]) hP hD [0, 1] [2, 3] rfl rfl (by decide) (by decide) hk1 hFc hP1 hD1
    have hP : va_P (dC, dI) vwCl [(aM, .inr (1, [.ref aW, .ref aT, .int cnt])), (aW, .inl (cW, 2048, .inl words)), (aR, .inr (2, [.ref aM, .ref aA, .ref aB, .int fault])), (aA, .inl (cA, 8, .inl regs2_21))] H := hP
    have hD : va_D A [(aM, .inr (1, [.ref aW, .ref aT, .int cnt])), (aW, .inl (cW, 2048, .inl words)), (aR, .inr (2, [.ref aM, .ref aA, .ref aB, .int fault])), (aA, .inl (cA, 8, .inl regs2_21))] := hD
    refine W.widen (k := 0) (n := 0) (by omega) (by omega) ?_
    try dsimp only at hw_20
    have hP9 := hP.sub (ws' := [(aR, .inr (2, [.ref aM, .ref aA, .ref aB, .int fault])), (aA, .inl (cA, 8, .inl regs2_21)), (aM, .inr (1, [.ref aW, .ref aT, .int cnt])), (aW, .inl (cW, 2048, .inl words))]) [2, 3, 0, 1] rfl
    have hD9 := hD.sub (ws' := [(aR, .inr (2, [.ref aM, .ref aA, .ref aB, .int fault])), (aA, .inl (cA, 8, .inl regs2_21)), (aM, .inr (1, [.ref aW, .ref aT, .int cnt])), (aW, .inl (cW, 2048, .inl words))]) [2, 3, 0, 1] (by decide) rfl
    have hK9 := hK.sub (tys' := [(cA, .int), (cW, .int)]) [0, 1] rfl
    exact W.iret (v := r_19) hx hb hr (fun t ht hW => ⟨⟨r_19, (fault, regs2_21), rfl, trivial, by rw [ht]; exact hP9, va_K.moved hW.alike hK9, hD9⟩, hS.F ht⟩) hS.2.2 dX2_locate_98
  by_cases hs_22 : ((bits >>> (3 &&& 31)) &&& 7) = 5
  · refine q_toc (y := 5) hs_22 ?_
    refine lv_tableIn (off := 88) (tgt := 99) hx hb dX2_locate_11 (by decide) (by decide) (by decide) (by decide) ?_
    refine lv_aload_n hx hb dX2_locate_99 rfl (lv_at hl 1 rfl) ?_
    refine lv_aload_n hx hb dX2_locate_100 rfl (lv_at hl 1 rfl) ?_
    refine lv_iload_n hx hb dX2_locate_101 rfl (lv_at hl 0 rfl) ?_
    refine lv_iconst (v := 2) hx hb dX2_locate_102 (by decide) ?_
    have hPc := hP.sub (ws' := [(aR, .inr (2, [.ref aM, .ref aA, .ref aB, .int fault])), (aA, .inl (cA, 8, .inl regs))]) [0, 1] rfl
    have hDc := hD.sub (ws' := [(aR, .inr (2, [.ref aM, .ref aA, .ref aB, .int fault])), (aA, .inl (cA, 8, .inl regs))]) [0, 1] (by decide) rfl
    have hKc := hK.sub (tys' := [(cA, .int)]) [0] rfl
    have hFc := va_free (wc := [(aR, .inr (2, [.ref aM, .ref aA, .ref aB, .int fault])), (aA, .inl (cA, 8, .inl regs))]) hD hS hA [0, 1] rfl
    refine va_calli (va_runV (C := RX2) (b := aR) (As := [.int (bits &&& 7), .int 2]) (rest := [.ref aR]) ⟨hx, hb, hml, hown, hts⟩ (s_X2_shrink l dC dI s.heap.size aR (bits &&& 7) (2 : Int32) aM aA aB fault cA regs (pk_andIn _ 3 (by decide) (by decide))) (cwV 2 hts gX2_locate_X2_shrink rfl rfl rfl (by decide +kernel) ⟨Nat.le_of_ble_eq_true rfl, Nat.le_of_ble_eq_true rfl⟩) ⟨q_blind, va_recv hK hP (ci := 2) (q0 := 0) rfl rfl, fun U hU hW => ⟨rfl, q_pay hU hW hPc hKc hDc hN⟩⟩ rfl rfl hl.1 rfl (lv_room (Nat.le_of_ble_eq_true rfl)) dX2_locate_103 ⟨show 0 + 0 ≤ 0 from by omega, show 0 + 0 ≤ 0 from by omega⟩) hS (fun q _ h => hFc q h) hFc (fun r_23 u9 t H locs ht hvm hw_24 hB hz1 hk1 hS => ?_)
    obtain ⟨regs2_25, rfl⟩ : ∃ z, z = u9 := ⟨_, rfl⟩
    obtain ⟨hP1, hK1, hD1⟩ := hB
    rw [ht] at hP1
    obtain ⟨hP, hD⟩ := va_join (wr := [(aM, .inr (1, [.ref aW, .ref aT, .int cnt])), (aW, .inl (cW, 2048, .inl words))]) (w1 := [(aR, .inr (2, [.ref aM, .ref aA, .ref aB, .int fault])), (aA, .inl (cA, 8, .inl regs2_25))]) hP hD [0, 1] [2, 3] rfl rfl (by decide) (by decide) hk1 hFc hP1 hD1
    have hP : va_P (dC, dI) vwCl [(aM, .inr (1, [.ref aW, .ref aT, .int cnt])), (aW, .inl (cW, 2048, .inl words)), (aR, .inr (2, [.ref aM, .ref aA, .ref aB, .int fault])), (aA, .inl (cA, 8, .inl regs2_25))] H := hP
    have hD : va_D A [(aM, .inr (1, [.ref aW, .ref aT, .int cnt])), (aW, .inl (cW, 2048, .inl words)), (aR, .inr (2, [.ref aM, .ref aA, .ref aB, .int fault])), (aA, .inl (cA, 8, .inl regs2_25))] := hD
    refine W.widen (k := 0) (n := 0) (by omega) (by omega) ?_
    try dsimp only at hw_24
    refine lv_ldc (v := 65535) hx hb hown (hts (.constant RX2 46 (65535)) (by decide +kernel)) dX2_locate_106 ?_
    have hPc := hP.sub (ws' := [(aR, .inr (2, [.ref aM, .ref aA, .ref aB, .int fault])), (aA, .inl (cA, 8, .inl regs2_25)), (aM, .inr (1, [.ref aW, .ref aT, .int cnt])), (aW, .inl (cW, 2048, .inl words))]) [2, 3, 0, 1] rfl
    have hDc := hD.sub (ws' := [(aR, .inr (2, [.ref aM, .ref aA, .ref aB, .int fault])), (aA, .inl (cA, 8, .inl regs2_25)), (aM, .inr (1, [.ref aW, .ref aT, .int cnt])), (aW, .inl (cW, 2048, .inl words))]) [2, 3, 0, 1] (by decide) rfl
    have hKc := hK.sub (tys' := [(cA, .int), (cW, .int)]) [0, 1] rfl
    have hFc := va_free (wc := [(aR, .inr (2, [.ref aM, .ref aA, .ref aB, .int fault])), (aA, .inl (cA, 8, .inl regs2_25)), (aM, .inr (1, [.ref aW, .ref aT, .int cnt])), (aW, .inl (cW, 2048, .inl words))]) hD hS hA [2, 3, 0, 1] rfl
    refine va_calli (va_runV (C := RX2) (b := aR) (As := [.int r_23, .int 65535]) (rest := []) ⟨hx, hb, hml, hown, hts⟩ (s_X2_fetch l dC dI H.size aR r_23 (65535 : Int32) aM aA aB fault cA regs2_25 aW aT cnt cW words) (cwV 2 hts gX2_locate_X2_fetch rfl rfl rfl (by decide +kernel) ⟨Nat.le_of_ble_eq_true rfl, Nat.le_of_ble_eq_true rfl⟩) ⟨q_blind, va_recv hK hP (ci := 2) (q0 := 2) rfl rfl, fun U hU hW => ⟨rfl, q_pay hU hW hPc hKc hDc hN⟩⟩ rfl rfl hl.1 rfl (lv_room (Nat.le_of_ble_eq_true rfl)) dX2_locate_108 ⟨show 0 + 0 ≤ 0 from by omega, show 0 + 0 ≤ 0 from by omega⟩) hS (fun q _ h => hFc q h) hFc (fun r_26 u9 t H locs ht hvm hw_27 hB hz1 hk1 hS => ?_)
    obtain ⟨fault2_28, rfl⟩ : ∃ z, z = u9 := ⟨_, rfl⟩
    obtain ⟨hP1, hK1, hD1⟩ := hB
    rw [ht] at hP1
    obtain ⟨hP, hD⟩ := va_join (wr := []) (w1 := [(aR, .inr (2, [.ref aM, .ref aA, .ref aB, .int fault2_28])), (aA, .inl (cA, 8, .inl regs2_25)), (aM, .inr (1, [.ref aW, .ref aT, .int cnt])), (aW, .inl (cW, 2048, .inl words))]) hP hD [2, 3, 0, 1] [] rfl rfl (by decide) (by decide) hk1 hFc hP1 hD1
    have hP : va_P (dC, dI) vwCl [(aR, .inr (2, [.ref aM, .ref aA, .ref aB, .int fault2_28])), (aA, .inl (cA, 8, .inl regs2_25)), (aM, .inr (1, [.ref aW, .ref aT, .int cnt])), (aW, .inl (cW, 2048, .inl words))] H := hP
    have hD : va_D A [(aR, .inr (2, [.ref aM, .ref aA, .ref aB, .int fault2_28])), (aA, .inl (cA, 8, .inl regs2_25)), (aM, .inr (1, [.ref aW, .ref aT, .int cnt])), (aW, .inl (cW, 2048, .inl words))] := hD
    refine W.widen (k := 0) (n := 0) (by omega) (by omega) ?_
    try dsimp only at hw_27
    have hP9 := hP.sub (ws' := [(aR, .inr (2, [.ref aM, .ref aA, .ref aB, .int fault2_28])), (aA, .inl (cA, 8, .inl regs2_25)), (aM, .inr (1, [.ref aW, .ref aT, .int cnt])), (aW, .inl (cW, 2048, .inl words))]) [0, 1, 2, 3] rfl
    have hD9 := hD.sub (ws' := [(aR, .inr (2, [.ref aM, .ref aA, .ref aB, .int fault2_28])), (aA, .inl (cA, 8, .inl regs2_25)), (aM, .inr (1, [.ref aW, .ref aT, .int cnt])), (aW, .inl (cW, 2048, .inl words))]) [0, 1, 2, 3] (by decide) rfl
    have hK9 := hK.sub (tys' := [(cA, .int), (cW, .int)]) [0, 1] rfl
    exact W.iret (v := r_26) hx hb hr (fun t ht hW => ⟨⟨r_26, (fault2_28, regs2_25), rfl, trivial, by rw [ht]; exact hP9, va_K.moved hW.alike hK9, hD9⟩, hS.F ht⟩) hS.2.2 dX2_locate_111
  by_cases hs_29 : ((bits >>> (3 &&& 31)) &&& 7) = 6
  · refine q_toc (y := 6) hs_29 ?_
    refine lv_tableIn (off := 101) (tgt := 112) hx hb dX2_locate_11 (by decide) (by decide) (by decide) (by decide) ?_
    refine lv_aload_n hx hb dX2_locate_112 rfl (lv_at hl 1 rfl) ?_
    refine lv_iload_n hx hb dX2_locate_113 rfl (lv_at hl 0 rfl) ?_
    refine lv_aload_n hx hb dX2_locate_114 rfl (lv_at hl 1 rfl) ?_
    refine lv_aload_n hx hb dX2_locate_115 rfl (lv_at hl 1 rfl) ?_
    refine lv_bipush (v := 7) hx hb dX2_locate_116 (by decide) ?_
    refine lv_iconst (v := 2) hx hb dX2_locate_118 (by decide) ?_
    have hPc := hP.sub (ws' := [(aR, .inr (2, [.ref aM, .ref aA, .ref aB, .int fault])), (aA, .inl (cA, 8, .inl regs))]) [0, 1] rfl
    have hDc := hD.sub (ws' := [(aR, .inr (2, [.ref aM, .ref aA, .ref aB, .int fault])), (aA, .inl (cA, 8, .inl regs))]) [0, 1] (by decide) rfl
    have hKc := hK.sub (tys' := [(cA, .int)]) [0] rfl
    have hFc := va_free (wc := [(aR, .inr (2, [.ref aM, .ref aA, .ref aB, .int fault])), (aA, .inl (cA, 8, .inl regs))]) hD hS hA [0, 1] rfl
    refine va_calli (va_runV (C := RX2) (b := aR) (As := [.int 7, .int 2]) (rest := [.ref aR, .int (bits &&& 7), .ref aR]) ⟨hx, hb, hml, hown, hts⟩ (s_X2_grow l dC dI s.heap.size aR (7 : Int32) (2 : Int32) aM aA aB fault cA regs (by unfold vp_in; decide)) (cwV 2 hts gX2_locate_X2_grow rfl rfl rfl (by decide +kernel) ⟨Nat.le_of_ble_eq_true rfl, Nat.le_of_ble_eq_true rfl⟩) ⟨q_blind, va_recv hK hP (ci := 2) (q0 := 0) rfl rfl, fun U hU hW => ⟨rfl, q_pay hU hW hPc hKc hDc hN⟩⟩ rfl rfl hl.1 rfl (lv_room (Nat.le_of_ble_eq_true rfl)) dX2_locate_119 ⟨show 0 + 0 ≤ 0 from by omega, show 0 + 0 ≤ 0 from by omega⟩) hS (fun q _ h => hFc q h) hFc (fun r_30 u9 t H locs ht hvm hw_31 hB hz1 hk1 hS => ?_)
    obtain ⟨regs2_32, rfl⟩ : ∃ z, z = u9 := ⟨_, rfl⟩
    obtain ⟨hP1, hK1, hD1⟩ := hB
    rw [ht] at hP1
    obtain ⟨hP, hD⟩ := va_join (wr := [(aM, .inr (1, [.ref aW, .ref aT, .int cnt])), (aW, .inl (cW, 2048, .inl words))]) (w1 := [(aR, .inr (2, [.ref aM, .ref aA, .ref aB, .int fault])), (aA, .inl (cA, 8, .inl regs2_32))]) hP hD [0, 1] [2, 3] rfl rfl (by decide) (by decide) hk1 hFc hP1 hD1
    have hP : va_P (dC, dI) vwCl [(aM, .inr (1, [.ref aW, .ref aT, .int cnt])), (aW, .inl (cW, 2048, .inl words)), (aR, .inr (2, [.ref aM, .ref aA, .ref aB, .int fault])), (aA, .inl (cA, 8, .inl regs2_32))] H := hP
    have hD : va_D A [(aM, .inr (1, [.ref aW, .ref aT, .int cnt])), (aW, .inl (cW, 2048, .inl words)), (aR, .inr (2, [.ref aM, .ref aA, .ref aB, .int fault])), (aA, .inl (cA, 8, .inl regs2_32))] := hD
    refine W.widen (k := 0) (n := 0) (by omega) (by omega) ?_
    try dsimp only at hw_31
    refine lv_ldc (v := 65535) hx hb hown (hts (.constant RX2 46 (65535)) (by decide +kernel)) dX2_locate_122 ?_
    have hPc := hP.sub (ws' := [(aR, .inr (2, [.ref aM, .ref aA, .ref aB, .int fault])), (aA, .inl (cA, 8, .inl regs2_32)), (aM, .inr (1, [.ref aW, .ref aT, .int cnt])), (aW, .inl (cW, 2048, .inl words))]) [2, 3, 0, 1] rfl
    have hDc := hD.sub (ws' := [(aR, .inr (2, [.ref aM, .ref aA, .ref aB, .int fault])), (aA, .inl (cA, 8, .inl regs2_32)), (aM, .inr (1, [.ref aW, .ref aT, .int cnt])), (aW, .inl (cW, 2048, .inl words))]) [2, 3, 0, 1] (by decide) rfl
    have hKc := hK.sub (tys' := [(cA, .int), (cW, .int)]) [0, 1] rfl
    have hFc := va_free (wc := [(aR, .inr (2, [.ref aM, .ref aA, .ref aB, .int fault])), (aA, .inl (cA, 8, .inl regs2_32)), (aM, .inr (1, [.ref aW, .ref aT, .int cnt])), (aW, .inl (cW, 2048, .inl words))]) hD hS hA [2, 3, 0, 1] rfl
    refine va_calli (va_runV (C := RX2) (b := aR) (As := [.int r_30, .int 65535]) (rest := [.int (bits &&& 7), .ref aR]) ⟨hx, hb, hml, hown, hts⟩ (s_X2_fetch l dC dI H.size aR r_30 (65535 : Int32) aM aA aB fault cA regs2_32 aW aT cnt cW words) (cwV 2 hts gX2_locate_X2_fetch rfl rfl rfl (by decide +kernel) ⟨Nat.le_of_ble_eq_true rfl, Nat.le_of_ble_eq_true rfl⟩) ⟨q_blind, va_recv hK hP (ci := 2) (q0 := 2) rfl rfl, fun U hU hW => ⟨rfl, q_pay hU hW hPc hKc hDc hN⟩⟩ rfl rfl hl.1 rfl (lv_room (Nat.le_of_ble_eq_true rfl)) dX2_locate_124 ⟨show 0 + 0 ≤ 0 from by omega, show 0 + 0 ≤ 0 from by omega⟩) hS (fun q _ h => hFc q h) hFc (fun r_33 u9 t H locs ht hvm hw_34 hB hz1 hk1 hS => ?_)
    obtain ⟨fault2_35, rfl⟩ : ∃ z, z = u9 := ⟨_, rfl⟩
    obtain ⟨hP1, hK1, hD1⟩ := hB
    rw [ht] at hP1
    obtain ⟨hP, hD⟩ := va_join (wr := []) (w1 := [(aR, .inr (2, [.ref aM, .ref aA, .ref aB, .int fault2_35])), (aA, .inl (cA, 8, .inl regs2_32)), (aM, .inr (1, [.ref aW, .ref aT, .int cnt])), (aW, .inl (cW, 2048, .inl words))]) hP hD [2, 3, 0, 1] [] rfl rfl (by decide) (by decide) hk1 hFc hP1 hD1
    have hP : va_P (dC, dI) vwCl [(aR, .inr (2, [.ref aM, .ref aA, .ref aB, .int fault2_35])), (aA, .inl (cA, 8, .inl regs2_32)), (aM, .inr (1, [.ref aW, .ref aT, .int cnt])), (aW, .inl (cW, 2048, .inl words))] H := hP
    have hD : va_D A [(aR, .inr (2, [.ref aM, .ref aA, .ref aB, .int fault2_35])), (aA, .inl (cA, 8, .inl regs2_32)), (aM, .inr (1, [.ref aW, .ref aT, .int cnt])), (aW, .inl (cW, 2048, .inl words))] := hD
    refine W.widen (k := 0) (n := 0) (by omega) (by omega) ?_
    try dsimp only at hw_34
    have hPc := hP.sub (ws' := [(aR, .inr (2, [.ref aM, .ref aA, .ref aB, .int fault2_35])), (aA, .inl (cA, 8, .inl regs2_32))]) [0, 1] rfl
    have hDc := hD.sub (ws' := [(aR, .inr (2, [.ref aM, .ref aA, .ref aB, .int fault2_35])), (aA, .inl (cA, 8, .inl regs2_32))]) [0, 1] (by decide) rfl
    have hKc := hK.sub (tys' := [(cA, .int)]) [0] rfl
    have hFc := va_free (wc := [(aR, .inr (2, [.ref aM, .ref aA, .ref aB, .int fault2_35])), (aA, .inl (cA, 8, .inl regs2_32))]) hD hS hA [0, 1] rfl
    refine va_calli (va_runV (C := RX2) (b := aR) (As := [.int (bits &&& 7), .int r_33]) (rest := []) ⟨hx, hb, hml, hown, hts⟩ (s_X2_fromRegister l dC dI H.size aR (bits &&& 7) r_33 aM aA aB fault2_35 cA regs2_32 (pk_andIn _ 3 (by decide) (by decide))) (cwV 2 hts gX2_locate_X2_fromRegister rfl rfl rfl (by decide +kernel) ⟨Nat.le_of_ble_eq_true rfl, Nat.le_of_ble_eq_true rfl⟩) ⟨q_blind, va_recv hK hP (ci := 2) (q0 := 0) rfl rfl, fun U hU hW => ⟨rfl, q_pay hU hW hPc hKc hDc hN⟩⟩ rfl rfl hl.1 rfl (lv_room (Nat.le_of_ble_eq_true rfl)) dX2_locate_127 ⟨show 0 + 0 ≤ 0 from by omega, show 0 + 0 ≤ 0 from by omega⟩) hS (fun q _ h => hFc q h) hFc (fun r_36 u9 t H locs ht hvm hw_37 hB hz1 hk1 hS => ?_)
    obtain ⟨hP1, hK1, hD1⟩ := hB
    rw [ht] at hP1
    obtain ⟨hP, hD⟩ := va_join (wr := [(aM, .inr (1, [.ref aW, .ref aT, .int cnt])), (aW, .inl (cW, 2048, .inl words))]) (w1 := [(aR, .inr (2, [.ref aM, .ref aA, .ref aB, .int fault2_35])), (aA, .inl (cA, 8, .inl regs2_32))]) hP hD [0, 1] [2, 3] rfl rfl (by decide) (by decide) hk1 hFc hP1 hD1
    have hP : va_P (dC, dI) vwCl [(aM, .inr (1, [.ref aW, .ref aT, .int cnt])), (aW, .inl (cW, 2048, .inl words)), (aR, .inr (2, [.ref aM, .ref aA, .ref aB, .int fault2_35])), (aA, .inl (cA, 8, .inl regs2_32))] H := hP
    have hD : va_D A [(aM, .inr (1, [.ref aW, .ref aT, .int cnt])), (aW, .inl (cW, 2048, .inl words)), (aR, .inr (2, [.ref aM, .ref aA, .ref aB, .int fault2_35])), (aA, .inl (cA, 8, .inl regs2_32))] := hD
    refine W.widen (k := 0) (n := 0) (by omega) (by omega) ?_
    try dsimp only at hw_37
    have hP9 := hP.sub (ws' := [(aR, .inr (2, [.ref aM, .ref aA, .ref aB, .int fault2_35])), (aA, .inl (cA, 8, .inl regs2_32)), (aM, .inr (1, [.ref aW, .ref aT, .int cnt])), (aW, .inl (cW, 2048, .inl words))]) [2, 3, 0, 1] rfl
    have hD9 := hD.sub (ws' := [(aR, .inr (2, [.ref aM, .ref aA, .ref aB, .int fault2_35])), (aA, .inl (cA, 8, .inl regs2_32)), (aM, .inr (1, [.ref aW, .ref aT, .int cnt])), (aW, .inl (cW, 2048, .inl words))]) [2, 3, 0, 1] (by decide) rfl
    have hK9 := hK.sub (tys' := [(cA, .int), (cW, .int)]) [0, 1] rfl
    exact W.iret (v := r_36) hx hb hr (fun t ht hW => ⟨⟨r_36, (fault2_35, regs2_32), rfl, trivial, by rw [ht]; exact hP9, va_K.moved hW.alike hK9, hD9⟩, hS.F ht⟩) hS.2.2 dX2_locate_130
  refine lv_tableOut (tgt := 131) hx hb dX2_locate_11 (by have n0 := lv_neT hs_1 (show (0 : Int32).toInt = 0 from rfl); have n1 := lv_neT hs_2 (show (1 : Int32).toInt = 1 from rfl); have n2 := lv_neT hs_3 (show (2 : Int32).toInt = 2 from rfl); have n3 := lv_neT hs_9 (show (3 : Int32).toInt = 3 from rfl); have n4 := lv_neT hs_16 (show (4 : Int32).toInt = 4 from rfl); have n5 := lv_neT hs_22 (show (5 : Int32).toInt = 5 from rfl); have n6 := lv_neT hs_29 (show (6 : Int32).toInt = 6 from rfl); omega) (by decide) ?_
  refine lv_aload_n hx hb dX2_locate_131 rfl (lv_at hl 1 rfl) ?_
  refine lv_aload_n hx hb dX2_locate_132 rfl (lv_at hl 1 rfl) ?_
  refine lv_iload_n hx hb dX2_locate_133 rfl (lv_at hl 0 rfl) ?_
  refine lv_aload_n hx hb dX2_locate_134 rfl (lv_at hl 1 rfl) ?_
  refine lv_aload_n hx hb dX2_locate_135 rfl (lv_at hl 1 rfl) ?_
  refine lv_bipush (v := 7) hx hb dX2_locate_136 (by decide) ?_
  refine lv_iconst (v := 2) hx hb dX2_locate_138 (by decide) ?_
  have hPc := hP.sub (ws' := [(aR, .inr (2, [.ref aM, .ref aA, .ref aB, .int fault])), (aA, .inl (cA, 8, .inl regs))]) [0, 1] rfl
  have hDc := hD.sub (ws' := [(aR, .inr (2, [.ref aM, .ref aA, .ref aB, .int fault])), (aA, .inl (cA, 8, .inl regs))]) [0, 1] (by decide) rfl
  have hKc := hK.sub (tys' := [(cA, .int)]) [0] rfl
  have hFc := va_free (wc := [(aR, .inr (2, [.ref aM, .ref aA, .ref aB, .int fault])), (aA, .inl (cA, 8, .inl regs))]) hD hS hA [0, 1] rfl
  refine va_calli (va_runV (C := RX2) (b := aR) (As := [.int 7, .int 2]) (rest := [.ref aR, .int (bits &&& 7), .ref aR, .ref aR]) ⟨hx, hb, hml, hown, hts⟩ (s_X2_grow l dC dI s.heap.size aR (7 : Int32) (2 : Int32) aM aA aB fault cA regs (by unfold vp_in; decide)) (cwV 2 hts gX2_locate_X2_grow rfl rfl rfl (by decide +kernel) ⟨Nat.le_of_ble_eq_true rfl, Nat.le_of_ble_eq_true rfl⟩) ⟨q_blind, va_recv hK hP (ci := 2) (q0 := 0) rfl rfl, fun U hU hW => ⟨rfl, q_pay hU hW hPc hKc hDc hN⟩⟩ rfl rfl hl.1 rfl (lv_room (Nat.le_of_ble_eq_true rfl)) dX2_locate_139 ⟨show 0 + 0 ≤ 0 from by omega, show 0 + 0 ≤ 0 from by omega⟩) hS (fun q _ h => hFc q h) hFc (fun r_38 u9 t H locs ht hvm hw_39 hB hz1 hk1 hS => ?_)
  obtain ⟨regs2_40, rfl⟩ : ∃ z, z = u9 := ⟨_, rfl⟩
  obtain ⟨hP1, hK1, hD1⟩ := hB
  rw [ht] at hP1
  obtain ⟨hP, hD⟩ := va_join (wr := [(aM, .inr (1, [.ref aW, .ref aT, .int cnt])), (aW, .inl (cW, 2048, .inl words))]) (w1 := [(aR, .inr (2, [.ref aM, .ref aA, .ref aB, .int fault])), (aA, .inl (cA, 8, .inl regs2_40))]) hP hD [0, 1] [2, 3] rfl rfl (by decide) (by decide) hk1 hFc hP1 hD1
  have hP : va_P (dC, dI) vwCl [(aM, .inr (1, [.ref aW, .ref aT, .int cnt])), (aW, .inl (cW, 2048, .inl words)), (aR, .inr (2, [.ref aM, .ref aA, .ref aB, .int fault])), (aA, .inl (cA, 8, .inl regs2_40))] H := hP
  have hD : va_D A [(aM, .inr (1, [.ref aW, .ref aT, .int cnt])), (aW, .inl (cW, 2048, .inl words)), (aR, .inr (2, [.ref aM, .ref aA, .ref aB, .int fault])), (aA, .inl (cA, 8, .inl regs2_40))] := hD
  refine W.widen (k := 0) (n := 0) (by omega) (by omega) ?_
  try dsimp only at hw_39
  refine lv_ldc (v := 65535) hx hb hown (hts (.constant RX2 46 (65535)) (by decide +kernel)) dX2_locate_142 ?_
  have hPc := hP.sub (ws' := [(aR, .inr (2, [.ref aM, .ref aA, .ref aB, .int fault])), (aA, .inl (cA, 8, .inl regs2_40)), (aM, .inr (1, [.ref aW, .ref aT, .int cnt])), (aW, .inl (cW, 2048, .inl words))]) [2, 3, 0, 1] rfl
  have hDc := hD.sub (ws' := [(aR, .inr (2, [.ref aM, .ref aA, .ref aB, .int fault])), (aA, .inl (cA, 8, .inl regs2_40)), (aM, .inr (1, [.ref aW, .ref aT, .int cnt])), (aW, .inl (cW, 2048, .inl words))]) [2, 3, 0, 1] (by decide) rfl
  have hKc := hK.sub (tys' := [(cA, .int), (cW, .int)]) [0, 1] rfl
  have hFc := va_free (wc := [(aR, .inr (2, [.ref aM, .ref aA, .ref aB, .int fault])), (aA, .inl (cA, 8, .inl regs2_40)), (aM, .inr (1, [.ref aW, .ref aT, .int cnt])), (aW, .inl (cW, 2048, .inl words))]) hD hS hA [2, 3, 0, 1] rfl
  refine va_calli (va_runV (C := RX2) (b := aR) (As := [.int r_38, .int 65535]) (rest := [.int (bits &&& 7), .ref aR, .ref aR]) ⟨hx, hb, hml, hown, hts⟩ (s_X2_fetch l dC dI H.size aR r_38 (65535 : Int32) aM aA aB fault cA regs2_40 aW aT cnt cW words) (cwV 2 hts gX2_locate_X2_fetch rfl rfl rfl (by decide +kernel) ⟨Nat.le_of_ble_eq_true rfl, Nat.le_of_ble_eq_true rfl⟩) ⟨q_blind, va_recv hK hP (ci := 2) (q0 := 2) rfl rfl, fun U hU hW => ⟨rfl, q_pay hU hW hPc hKc hDc hN⟩⟩ rfl rfl hl.1 rfl (lv_room (Nat.le_of_ble_eq_true rfl)) dX2_locate_144 ⟨show 0 + 0 ≤ 0 from by omega, show 0 + 0 ≤ 0 from by omega⟩) hS (fun q _ h => hFc q h) hFc (fun r_41 u9 t H locs ht hvm hw_42 hB hz1 hk1 hS => ?_)
  obtain ⟨fault2_43, rfl⟩ : ∃ z, z = u9 := ⟨_, rfl⟩
  obtain ⟨hP1, hK1, hD1⟩ := hB
  rw [ht] at hP1
  obtain ⟨hP, hD⟩ := va_join (wr := []) (w1 := [(aR, .inr (2, [.ref aM, .ref aA, .ref aB, .int fault2_43])), (aA, .inl (cA, 8, .inl regs2_40)), (aM, .inr (1, [.ref aW, .ref aT, .int cnt])), (aW, .inl (cW, 2048, .inl words))]) hP hD [2, 3, 0, 1] [] rfl rfl (by decide) (by decide) hk1 hFc hP1 hD1
  have hP : va_P (dC, dI) vwCl [(aR, .inr (2, [.ref aM, .ref aA, .ref aB, .int fault2_43])), (aA, .inl (cA, 8, .inl regs2_40)), (aM, .inr (1, [.ref aW, .ref aT, .int cnt])), (aW, .inl (cW, 2048, .inl words))] H := hP
  have hD : va_D A [(aR, .inr (2, [.ref aM, .ref aA, .ref aB, .int fault2_43])), (aA, .inl (cA, 8, .inl regs2_40)), (aM, .inr (1, [.ref aW, .ref aT, .int cnt])), (aW, .inl (cW, 2048, .inl words))] := hD
  refine W.widen (k := 0) (n := 0) (by omega) (by omega) ?_
  try dsimp only at hw_42
  have hPc := hP.sub (ws' := [(aR, .inr (2, [.ref aM, .ref aA, .ref aB, .int fault2_43])), (aA, .inl (cA, 8, .inl regs2_40))]) [0, 1] rfl
  have hDc := hD.sub (ws' := [(aR, .inr (2, [.ref aM, .ref aA, .ref aB, .int fault2_43])), (aA, .inl (cA, 8, .inl regs2_40))]) [0, 1] (by decide) rfl
  have hKc := hK.sub (tys' := [(cA, .int)]) [0] rfl
  have hFc := va_free (wc := [(aR, .inr (2, [.ref aM, .ref aA, .ref aB, .int fault2_43])), (aA, .inl (cA, 8, .inl regs2_40))]) hD hS hA [0, 1] rfl
  refine va_calli (va_runV (C := RX2) (b := aR) (As := [.int (bits &&& 7), .int r_41]) (rest := [.ref aR]) ⟨hx, hb, hml, hown, hts⟩ (s_X2_fromRegister l dC dI H.size aR (bits &&& 7) r_41 aM aA aB fault2_43 cA regs2_40 (pk_andIn _ 3 (by decide) (by decide))) (cwV 2 hts gX2_locate_X2_fromRegister rfl rfl rfl (by decide +kernel) ⟨Nat.le_of_ble_eq_true rfl, Nat.le_of_ble_eq_true rfl⟩) ⟨q_blind, va_recv hK hP (ci := 2) (q0 := 0) rfl rfl, fun U hU hW => ⟨rfl, q_pay hU hW hPc hKc hDc hN⟩⟩ rfl rfl hl.1 rfl (lv_room (Nat.le_of_ble_eq_true rfl)) dX2_locate_147 ⟨show 0 + 0 ≤ 0 from by omega, show 0 + 0 ≤ 0 from by omega⟩) hS (fun q _ h => hFc q h) hFc (fun r_44 u9 t H locs ht hvm hw_45 hB hz1 hk1 hS => ?_)
  obtain ⟨hP1, hK1, hD1⟩ := hB
  rw [ht] at hP1
  obtain ⟨hP, hD⟩ := va_join (wr := [(aM, .inr (1, [.ref aW, .ref aT, .int cnt])), (aW, .inl (cW, 2048, .inl words))]) (w1 := [(aR, .inr (2, [.ref aM, .ref aA, .ref aB, .int fault2_43])), (aA, .inl (cA, 8, .inl regs2_40))]) hP hD [0, 1] [2, 3] rfl rfl (by decide) (by decide) hk1 hFc hP1 hD1
  have hP : va_P (dC, dI) vwCl [(aM, .inr (1, [.ref aW, .ref aT, .int cnt])), (aW, .inl (cW, 2048, .inl words)), (aR, .inr (2, [.ref aM, .ref aA, .ref aB, .int fault2_43])), (aA, .inl (cA, 8, .inl regs2_40))] H := hP
  have hD : va_D A [(aM, .inr (1, [.ref aW, .ref aT, .int cnt])), (aW, .inl (cW, 2048, .inl words)), (aR, .inr (2, [.ref aM, .ref aA, .ref aB, .int fault2_43])), (aA, .inl (cA, 8, .inl regs2_40))] := hD
  refine W.widen (k := 0) (n := 0) (by omega) (by omega) ?_
  try dsimp only at hw_45
  refine lv_ldc (v := 65535) hx hb hown (hts (.constant RX2 46 (65535)) (by decide +kernel)) dX2_locate_150 ?_
  have hPc := hP.sub (ws' := [(aR, .inr (2, [.ref aM, .ref aA, .ref aB, .int fault2_43])), (aA, .inl (cA, 8, .inl regs2_40)), (aM, .inr (1, [.ref aW, .ref aT, .int cnt])), (aW, .inl (cW, 2048, .inl words))]) [2, 3, 0, 1] rfl
  have hDc := hD.sub (ws' := [(aR, .inr (2, [.ref aM, .ref aA, .ref aB, .int fault2_43])), (aA, .inl (cA, 8, .inl regs2_40)), (aM, .inr (1, [.ref aW, .ref aT, .int cnt])), (aW, .inl (cW, 2048, .inl words))]) [2, 3, 0, 1] (by decide) rfl
  have hKc := hK.sub (tys' := [(cA, .int), (cW, .int)]) [0, 1] rfl
  have hFc := va_free (wc := [(aR, .inr (2, [.ref aM, .ref aA, .ref aB, .int fault2_43])), (aA, .inl (cA, 8, .inl regs2_40)), (aM, .inr (1, [.ref aW, .ref aT, .int cnt])), (aW, .inl (cW, 2048, .inl words))]) hD hS hA [2, 3, 0, 1] rfl
  refine va_calli (va_runV (C := RX2) (b := aR) (As := [.int r_44, .int 65535]) (rest := []) ⟨hx, hb, hml, hown, hts⟩ (s_X2_fetch l dC dI H.size aR r_44 (65535 : Int32) aM aA aB fault2_43 cA regs2_40 aW aT cnt cW words) (cwV 2 hts gX2_locate_X2_fetch rfl rfl rfl (by decide +kernel) ⟨Nat.le_of_ble_eq_true rfl, Nat.le_of_ble_eq_true rfl⟩) ⟨q_blind, va_recv hK hP (ci := 2) (q0 := 2) rfl rfl, fun U hU hW => ⟨rfl, q_pay hU hW hPc hKc hDc hN⟩⟩ rfl rfl hl.1 rfl (lv_room (Nat.le_of_ble_eq_true rfl)) dX2_locate_152 ⟨show 0 + 0 ≤ 0 from by omega, show 0 + 0 ≤ 0 from by omega⟩) hS (fun q _ h => hFc q h) hFc (fun r_46 u9 t H locs ht hvm hw_47 hB hz1 hk1 hS => ?_)
  obtain ⟨fault2_48, rfl⟩ : ∃ z, z = u9 := ⟨_, rfl⟩
  obtain ⟨hP1, hK1, hD1⟩ := hB
  rw [ht] at hP1
  obtain ⟨hP, hD⟩ := va_join (wr := []) (w1 := [(aR, .inr (2, [.ref aM, .ref aA, .ref aB, .int fault2_48])), (aA, .inl (cA, 8, .inl regs2_40)), (aM, .inr (1, [.ref aW, .ref aT, .int cnt])), (aW, .inl (cW, 2048, .inl words))]) hP hD [2, 3, 0, 1] [] rfl rfl (by decide) (by decide) hk1 hFc hP1 hD1
  have hP : va_P (dC, dI) vwCl [(aR, .inr (2, [.ref aM, .ref aA, .ref aB, .int fault2_48])), (aA, .inl (cA, 8, .inl regs2_40)), (aM, .inr (1, [.ref aW, .ref aT, .int cnt])), (aW, .inl (cW, 2048, .inl words))] H := hP
  have hD : va_D A [(aR, .inr (2, [.ref aM, .ref aA, .ref aB, .int fault2_48])), (aA, .inl (cA, 8, .inl regs2_40)), (aM, .inr (1, [.ref aW, .ref aT, .int cnt])), (aW, .inl (cW, 2048, .inl words))] := hD
  refine W.widen (k := 0) (n := 0) (by omega) (by omega) ?_
  try dsimp only at hw_47
  have hP9 := hP.sub (ws' := [(aR, .inr (2, [.ref aM, .ref aA, .ref aB, .int fault2_48])), (aA, .inl (cA, 8, .inl regs2_40)), (aM, .inr (1, [.ref aW, .ref aT, .int cnt])), (aW, .inl (cW, 2048, .inl words))]) [0, 1, 2, 3] rfl
  have hD9 := hD.sub (ws' := [(aR, .inr (2, [.ref aM, .ref aA, .ref aB, .int fault2_48])), (aA, .inl (cA, 8, .inl regs2_40)), (aM, .inr (1, [.ref aW, .ref aT, .int cnt])), (aW, .inl (cW, 2048, .inl words))]) [0, 1, 2, 3] (by decide) rfl
  have hK9 := hK.sub (tys' := [(cA, .int), (cW, .int)]) [0, 1] rfl
  exact W.iret (v := r_46) hx hb hr (fun t ht hW => ⟨⟨r_46, (fault2_48, regs2_40), rfl, trivial, by rw [ht]; exact hP9, va_K.moved hW.alike hK9, hD9⟩, hS.F ht⟩) hS.2.2 dX2_locate_155
set_option maxHeartbeats 4000000 in
set_option maxRecDepth 100000 in
theorem s_X2_takeNext (l : Launch) (dC : Nat → ClassId) (dI : Nat → Nat → Nat) (sz : Nat) (aR : Nat) (aM : Nat) (aA : Nat) (aB : Nat) (fault : Int32) (cA : ClassId) (regs : Nat → Int32) (aW : Nat) (aT : Nat) (cnt : Int32) (cW : ClassId) (words : Nat → Int32)  : Met l yX2_takeNext wsX2_takeNext ({ frames := 2, cells := 0, slots := 0, locals := 45 }) (va_Pc [.ref aR] (q_pre dC dI sz [(aR, .inr (2, [.ref aM, .ref aA, .ref aB, .int fault])), (aA, .inl (cA, 8, .inl regs)), (aM, .inr (1, [.ref aW, .ref aT, .int cnt])), (aW, .inl (cW, 2048, .inl words))] [(cA, .int), (cW, .int)])) (va_Qi (fun (r : Int32) (u9 : Int32 × (Nat → Int32)) => True) (q_at dC dI (va_A [(aR, .inr (2, [.ref aM, .ref aA, .ref aB, .int fault])), (aA, .inl (cA, 8, .inl regs)), (aM, .inr (1, [.ref aW, .ref aT, .int cnt])), (aW, .inl (cW, 2048, .inl words))] sz) (fun (u9 : Int32 × (Nat → Int32)) => [(cA, .int), (cW, .int)]) (fun (u9 : Int32 × (Nat → Int32)) => [(aR, .inr (2, [.ref aM, .ref aA, .ref aB, .int u9.1])), (aA, .inl (cA, 8, .inl u9.2)), (aM, .inr (1, [.ref aW, .ref aT, .int cnt])), (aW, .inl (cW, 2048, .inl words))])) (va_A [(aR, .inr (2, [.ref aM, .ref aA, .ref aB, .int fault])), (aA, .inl (cA, 8, .inl regs)), (aM, .inr (1, [.ref aW, .ref aT, .int cnt])), (aW, .inl (cW, 2048, .inl words))] sz)) 0 0 (va_A [(aR, .inr (2, [.ref aM, .ref aA, .ref aB, .int fault])), (aA, .inl (cA, 8, .inl regs)), (aM, .inr (1, [.ref aW, .ref aT, .int cnt])), (aW, .inl (cW, 2048, .inl words))] sz) := by
  refine Met.ofW (cc := cX2_takeNext) (maxL := 1) (ret := (some .int)) (by decide) rfl ?_
  intro p e s m args below meth c s₁ B hml hv
  obtain ⟨rfl, hsz, hP, hK, hD0, hN⟩ := hv
  have hx := B.exec
  have hb := B.bytes
  have hr := B.returns
  have hts := atoms_spec (ws := wsX2_takeNext) B.pre
  have hown : s.vm.findClass RX2 = some m.cls := findClass_of_methodNamed B.named
  have hlocks := B.notSynchronized
  subst hsz
  have hD := hD0.self (sz := s.heap.size)
  generalize hAe : va_A [(aR, .inr (2, [.ref aM, .ref aA, .ref aB, .int fault])), (aA, .inl (cA, 8, .inl regs)), (aM, .inr (1, [.ref aW, .ref aT, .int cnt])), (aW, .inl (cW, 2048, .inl words))] s.heap.size = A at hD ⊢
  have hA : ∀ q : Nat, s.heap.size ≤ q → A q := fun q h => by rw [← hAe]; exact Or.inr h
  have hS : va_S A s.heap s.heap [] := va_S.rf
  have hP : va_P (dC, dI) vwCl [(aR, .inr (2, [.ref aM, .ref aA, .ref aB, .int fault])), (aA, .inl (cA, 8, .inl regs)), (aM, .inr (1, [.ref aW, .ref aT, .int cnt])), (aW, .inl (cW, 2048, .inl words))] s.heap := hP
  have hl := lv_entry ([.ref aR]) (n := 1) (Nat.le_of_ble_eq_true rfl)
  rw [lg_entry_eq]
  generalize (lg_sl ([.ref aR]) ++ List.replicate (1 - (lg_sl ([.ref aR])).length) Slot.unset).toArray = ls at hl ⊢
  have hl : lv_has ls 1 [(0, .ref aR)] := hl
  refine lv_aload_n hx hb dX2_takeNext_0 rfl (lv_at hl 0 rfl) ?_
  refine lv_aload_n hx hb dX2_takeNext_1 rfl (lv_at hl 0 rfl) ?_
  refine lv_bipush (v := 7) hx hb dX2_takeNext_2 (by decide) ?_
  refine lv_iconst (v := 2) hx hb dX2_takeNext_4 (by decide) ?_
  have hPc := hP.sub (ws' := [(aR, .inr (2, [.ref aM, .ref aA, .ref aB, .int fault])), (aA, .inl (cA, 8, .inl regs))]) [0, 1] rfl
  have hDc := hD.sub (ws' := [(aR, .inr (2, [.ref aM, .ref aA, .ref aB, .int fault])), (aA, .inl (cA, 8, .inl regs))]) [0, 1] (by decide) rfl
  have hKc := hK.sub (tys' := [(cA, .int)]) [0] rfl
  have hFc := va_free (wc := [(aR, .inr (2, [.ref aM, .ref aA, .ref aB, .int fault])), (aA, .inl (cA, 8, .inl regs))]) hD hS hA [0, 1] rfl
  refine va_calli (va_runV (C := RX2) (b := aR) (As := [.int 7, .int 2]) (rest := [.ref aR]) ⟨hx, hb, hml, hown, hts⟩ (s_X2_grow l dC dI s.heap.size aR (7 : Int32) (2 : Int32) aM aA aB fault cA regs (by unfold vp_in; decide)) (cwV 2 hts gX2_takeNext_X2_grow rfl rfl rfl (by decide +kernel) ⟨Nat.le_of_ble_eq_true rfl, Nat.le_of_ble_eq_true rfl⟩) ⟨q_blind, va_recv hK hP (ci := 2) (q0 := 0) rfl rfl, fun U hU hW => ⟨rfl, q_pay hU hW hPc hKc hDc hN⟩⟩ rfl rfl hl.1 rfl (lv_room (Nat.le_of_ble_eq_true rfl)) dX2_takeNext_5 ⟨show 0 + 0 ≤ 0 from by omega, show 0 + 0 ≤ 0 from by omega⟩) hS (fun q _ h => hFc q h) hFc (fun r_1 u9 t H locs ht hvm hw_2 hB hz1 hk1 hS => ?_)
  obtain ⟨regs2_3, rfl⟩ : ∃ z, z = u9 := ⟨_, rfl⟩
  obtain ⟨hP1, hK1, hD1⟩ := hB
  rw [ht] at hP1
  obtain ⟨hP, hD⟩ := va_join (wr := [(aM, .inr (1, [.ref aW, .ref aT, .int cnt])), (aW, .inl (cW, 2048, .inl words))]) (w1 := [(aR, .inr (2, [.ref aM, .ref aA, .ref aB, .int fault])), (aA, .inl (cA, 8, .inl regs2_3))]) hP hD [0, 1] [2, 3] rfl rfl (by decide) (by decide) hk1 hFc hP1 hD1
  have hP : va_P (dC, dI) vwCl [(aM, .inr (1, [.ref aW, .ref aT, .int cnt])), (aW, .inl (cW, 2048, .inl words)), (aR, .inr (2, [.ref aM, .ref aA, .ref aB, .int fault])), (aA, .inl (cA, 8, .inl regs2_3))] H := hP
  have hD : va_D A [(aM, .inr (1, [.ref aW, .ref aT, .int cnt])), (aW, .inl (cW, 2048, .inl words)), (aR, .inr (2, [.ref aM, .ref aA, .ref aB, .int fault])), (aA, .inl (cA, 8, .inl regs2_3))] := hD
  refine W.widen (k := 0) (n := 0) (by omega) (by omega) ?_
  try dsimp only at hw_2
  refine lv_ldc (v := 65535) hx hb hown (hts (.constant RX2 46 (65535)) (by decide +kernel)) dX2_takeNext_8 ?_
  have hPc := hP.sub (ws' := [(aR, .inr (2, [.ref aM, .ref aA, .ref aB, .int fault])), (aA, .inl (cA, 8, .inl regs2_3)), (aM, .inr (1, [.ref aW, .ref aT, .int cnt])), (aW, .inl (cW, 2048, .inl words))]) [2, 3, 0, 1] rfl
  have hDc := hD.sub (ws' := [(aR, .inr (2, [.ref aM, .ref aA, .ref aB, .int fault])), (aA, .inl (cA, 8, .inl regs2_3)), (aM, .inr (1, [.ref aW, .ref aT, .int cnt])), (aW, .inl (cW, 2048, .inl words))]) [2, 3, 0, 1] (by decide) rfl
  have hKc := hK.sub (tys' := [(cA, .int), (cW, .int)]) [0, 1] rfl
  have hFc := va_free (wc := [(aR, .inr (2, [.ref aM, .ref aA, .ref aB, .int fault])), (aA, .inl (cA, 8, .inl regs2_3)), (aM, .inr (1, [.ref aW, .ref aT, .int cnt])), (aW, .inl (cW, 2048, .inl words))]) hD hS hA [2, 3, 0, 1] rfl
  refine va_calli (va_runV (C := RX2) (b := aR) (As := [.int r_1, .int 65535]) (rest := []) ⟨hx, hb, hml, hown, hts⟩ (s_X2_fetch l dC dI H.size aR r_1 (65535 : Int32) aM aA aB fault cA regs2_3 aW aT cnt cW words) (cwV 2 hts gX2_takeNext_X2_fetch rfl rfl rfl (by decide +kernel) ⟨Nat.le_of_ble_eq_true rfl, Nat.le_of_ble_eq_true rfl⟩) ⟨q_blind, va_recv hK hP (ci := 2) (q0 := 2) rfl rfl, fun U hU hW => ⟨rfl, q_pay hU hW hPc hKc hDc hN⟩⟩ rfl rfl hl.1 rfl (lv_room (Nat.le_of_ble_eq_true rfl)) dX2_takeNext_10 ⟨show 0 + 0 ≤ 0 from by omega, show 0 + 0 ≤ 0 from by omega⟩) hS (fun q _ h => hFc q h) hFc (fun r_4 u9 t H locs ht hvm hw_5 hB hz1 hk1 hS => ?_)
  obtain ⟨fault2_6, rfl⟩ : ∃ z, z = u9 := ⟨_, rfl⟩
  obtain ⟨hP1, hK1, hD1⟩ := hB
  rw [ht] at hP1
  obtain ⟨hP, hD⟩ := va_join (wr := []) (w1 := [(aR, .inr (2, [.ref aM, .ref aA, .ref aB, .int fault2_6])), (aA, .inl (cA, 8, .inl regs2_3)), (aM, .inr (1, [.ref aW, .ref aT, .int cnt])), (aW, .inl (cW, 2048, .inl words))]) hP hD [2, 3, 0, 1] [] rfl rfl (by decide) (by decide) hk1 hFc hP1 hD1
  have hP : va_P (dC, dI) vwCl [(aR, .inr (2, [.ref aM, .ref aA, .ref aB, .int fault2_6])), (aA, .inl (cA, 8, .inl regs2_3)), (aM, .inr (1, [.ref aW, .ref aT, .int cnt])), (aW, .inl (cW, 2048, .inl words))] H := hP
  have hD : va_D A [(aR, .inr (2, [.ref aM, .ref aA, .ref aB, .int fault2_6])), (aA, .inl (cA, 8, .inl regs2_3)), (aM, .inr (1, [.ref aW, .ref aT, .int cnt])), (aW, .inl (cW, 2048, .inl words))] := hD
  refine W.widen (k := 0) (n := 0) (by omega) (by omega) ?_
  try dsimp only at hw_5
  have hP9 := hP.sub (ws' := [(aR, .inr (2, [.ref aM, .ref aA, .ref aB, .int fault2_6])), (aA, .inl (cA, 8, .inl regs2_3)), (aM, .inr (1, [.ref aW, .ref aT, .int cnt])), (aW, .inl (cW, 2048, .inl words))]) [0, 1, 2, 3] rfl
  have hD9 := hD.sub (ws' := [(aR, .inr (2, [.ref aM, .ref aA, .ref aB, .int fault2_6])), (aA, .inl (cA, 8, .inl regs2_3)), (aM, .inr (1, [.ref aW, .ref aT, .int cnt])), (aW, .inl (cW, 2048, .inl words))]) [0, 1, 2, 3] (by decide) rfl
  have hK9 := hK.sub (tys' := [(cA, .int), (cW, .int)]) [0, 1] rfl
  exact W.iret (v := r_4) hx hb hr (fun t ht hW => ⟨⟨r_4, (fault2_6, regs2_3), rfl, trivial, by rw [ht]; exact hP9, va_K.moved hW.alike hK9, hD9⟩, hS.F ht⟩) hS.2.2 dX2_takeNext_13
set_option maxHeartbeats 4000000 in
set_option maxRecDepth 100000 in
theorem s_X2_pop (l : Launch) (dC : Nat → ClassId) (dI : Nat → Nat → Nat) (sz : Nat) (aR : Nat) (aM : Nat) (aA : Nat) (aB : Nat) (fault : Int32) (cA : ClassId) (regs : Nat → Int32) (aW : Nat) (aT : Nat) (cnt : Int32) (cW : ClassId) (words : Nat → Int32)  : Met l yX2_pop wsX2_pop ({ frames := 2, cells := 0, slots := 0, locals := 45 }) (va_Pc [.ref aR] (q_pre dC dI sz [(aR, .inr (2, [.ref aM, .ref aA, .ref aB, .int fault])), (aA, .inl (cA, 8, .inl regs)), (aM, .inr (1, [.ref aW, .ref aT, .int cnt])), (aW, .inl (cW, 2048, .inl words))] [(cA, .int), (cW, .int)])) (va_Qi (fun (r : Int32) (u9 : Int32 × (Nat → Int32)) => True) (q_at dC dI (va_A [(aR, .inr (2, [.ref aM, .ref aA, .ref aB, .int fault])), (aA, .inl (cA, 8, .inl regs)), (aM, .inr (1, [.ref aW, .ref aT, .int cnt])), (aW, .inl (cW, 2048, .inl words))] sz) (fun (u9 : Int32 × (Nat → Int32)) => [(cA, .int), (cW, .int)]) (fun (u9 : Int32 × (Nat → Int32)) => [(aR, .inr (2, [.ref aM, .ref aA, .ref aB, .int u9.1])), (aA, .inl (cA, 8, .inl u9.2)), (aM, .inr (1, [.ref aW, .ref aT, .int cnt])), (aW, .inl (cW, 2048, .inl words))])) (va_A [(aR, .inr (2, [.ref aM, .ref aA, .ref aB, .int fault])), (aA, .inl (cA, 8, .inl regs)), (aM, .inr (1, [.ref aW, .ref aT, .int cnt])), (aW, .inl (cW, 2048, .inl words))] sz)) 0 0 (va_A [(aR, .inr (2, [.ref aM, .ref aA, .ref aB, .int fault])), (aA, .inl (cA, 8, .inl regs)), (aM, .inr (1, [.ref aW, .ref aT, .int cnt])), (aW, .inl (cW, 2048, .inl words))] sz) := by
  refine Met.ofW (cc := cX2_pop) (maxL := 1) (ret := (some .int)) (by decide) rfl ?_
  intro p e s m args below meth c s₁ B hml hv
  obtain ⟨rfl, hsz, hP, hK, hD0, hN⟩ := hv
  have hx := B.exec
  have hb := B.bytes
  have hr := B.returns
  have hts := atoms_spec (ws := wsX2_pop) B.pre
  have hown : s.vm.findClass RX2 = some m.cls := findClass_of_methodNamed B.named
  have hlocks := B.notSynchronized
  subst hsz
  have hD := hD0.self (sz := s.heap.size)
  generalize hAe : va_A [(aR, .inr (2, [.ref aM, .ref aA, .ref aB, .int fault])), (aA, .inl (cA, 8, .inl regs)), (aM, .inr (1, [.ref aW, .ref aT, .int cnt])), (aW, .inl (cW, 2048, .inl words))] s.heap.size = A at hD ⊢
  have hA : ∀ q : Nat, s.heap.size ≤ q → A q := fun q h => by rw [← hAe]; exact Or.inr h
  have hS : va_S A s.heap s.heap [] := va_S.rf
  have hP : va_P (dC, dI) vwCl [(aR, .inr (2, [.ref aM, .ref aA, .ref aB, .int fault])), (aA, .inl (cA, 8, .inl regs)), (aM, .inr (1, [.ref aW, .ref aT, .int cnt])), (aW, .inl (cW, 2048, .inl words))] s.heap := hP
  have hl := lv_entry ([.ref aR]) (n := 1) (Nat.le_of_ble_eq_true rfl)
  rw [lg_entry_eq]
  generalize (lg_sl ([.ref aR]) ++ List.replicate (1 - (lg_sl ([.ref aR])).length) Slot.unset).toArray = ls at hl ⊢
  have hl : lv_has ls 1 [(0, .ref aR)] := hl
  refine lv_aload_n hx hb dX2_pop_0 rfl (lv_at hl 0 rfl) ?_
  refine lv_aload_n hx hb dX2_pop_1 rfl (lv_at hl 0 rfl) ?_
  refine lv_bipush (v := 6) hx hb dX2_pop_2 (by decide) ?_
  refine lv_iconst (v := 2) hx hb dX2_pop_4 (by decide) ?_
  have hPc := hP.sub (ws' := [(aR, .inr (2, [.ref aM, .ref aA, .ref aB, .int fault])), (aA, .inl (cA, 8, .inl regs))]) [0, 1] rfl
  have hDc := hD.sub (ws' := [(aR, .inr (2, [.ref aM, .ref aA, .ref aB, .int fault])), (aA, .inl (cA, 8, .inl regs))]) [0, 1] (by decide) rfl
  have hKc := hK.sub (tys' := [(cA, .int)]) [0] rfl
  have hFc := va_free (wc := [(aR, .inr (2, [.ref aM, .ref aA, .ref aB, .int fault])), (aA, .inl (cA, 8, .inl regs))]) hD hS hA [0, 1] rfl
  refine va_calli (va_runV (C := RX2) (b := aR) (As := [.int 6, .int 2]) (rest := [.ref aR]) ⟨hx, hb, hml, hown, hts⟩ (s_X2_grow l dC dI s.heap.size aR (6 : Int32) (2 : Int32) aM aA aB fault cA regs (by unfold vp_in; decide)) (cwV 2 hts gX2_pop_X2_grow rfl rfl rfl (by decide +kernel) ⟨Nat.le_of_ble_eq_true rfl, Nat.le_of_ble_eq_true rfl⟩) ⟨q_blind, va_recv hK hP (ci := 2) (q0 := 0) rfl rfl, fun U hU hW => ⟨rfl, q_pay hU hW hPc hKc hDc hN⟩⟩ rfl rfl hl.1 rfl (lv_room (Nat.le_of_ble_eq_true rfl)) dX2_pop_5 ⟨show 0 + 0 ≤ 0 from by omega, show 0 + 0 ≤ 0 from by omega⟩) hS (fun q _ h => hFc q h) hFc (fun r_1 u9 t H locs ht hvm hw_2 hB hz1 hk1 hS => ?_)
  obtain ⟨regs2_3, rfl⟩ : ∃ z, z = u9 := ⟨_, rfl⟩
  obtain ⟨hP1, hK1, hD1⟩ := hB
  rw [ht] at hP1
  obtain ⟨hP, hD⟩ := va_join (wr := [(aM, .inr (1, [.ref aW, .ref aT, .int cnt])), (aW, .inl (cW, 2048, .inl words))]) (w1 := [(aR, .inr (2, [.ref aM, .ref aA, .ref aB, .int fault])), (aA, .inl (cA, 8, .inl regs2_3))]) hP hD [0, 1] [2, 3] rfl rfl (by decide) (by decide) hk1 hFc hP1 hD1
  have hP : va_P (dC, dI) vwCl [(aM, .inr (1, [.ref aW, .ref aT, .int cnt])), (aW, .inl (cW, 2048, .inl words)), (aR, .inr (2, [.ref aM, .ref aA, .ref aB, .int fault])), (aA, .inl (cA, 8, .inl regs2_3))] H := hP
  have hD : va_D A [(aM, .inr (1, [.ref aW, .ref aT, .int cnt])), (aW, .inl (cW, 2048, .inl words)), (aR, .inr (2, [.ref aM, .ref aA, .ref aB, .int fault])), (aA, .inl (cA, 8, .inl regs2_3))] := hD
  refine W.widen (k := 0) (n := 0) (by omega) (by omega) ?_
  try dsimp only at hw_2
  refine lv_ldc (v := 65535) hx hb hown (hts (.constant RX2 46 (65535)) (by decide +kernel)) dX2_pop_8 ?_
  have hPc := hP.sub (ws' := [(aR, .inr (2, [.ref aM, .ref aA, .ref aB, .int fault])), (aA, .inl (cA, 8, .inl regs2_3)), (aM, .inr (1, [.ref aW, .ref aT, .int cnt])), (aW, .inl (cW, 2048, .inl words))]) [2, 3, 0, 1] rfl
  have hDc := hD.sub (ws' := [(aR, .inr (2, [.ref aM, .ref aA, .ref aB, .int fault])), (aA, .inl (cA, 8, .inl regs2_3)), (aM, .inr (1, [.ref aW, .ref aT, .int cnt])), (aW, .inl (cW, 2048, .inl words))]) [2, 3, 0, 1] (by decide) rfl
  have hKc := hK.sub (tys' := [(cA, .int), (cW, .int)]) [0, 1] rfl
  have hFc := va_free (wc := [(aR, .inr (2, [.ref aM, .ref aA, .ref aB, .int fault])), (aA, .inl (cA, 8, .inl regs2_3)), (aM, .inr (1, [.ref aW, .ref aT, .int cnt])), (aW, .inl (cW, 2048, .inl words))]) hD hS hA [2, 3, 0, 1] rfl
  refine va_calli (va_runV (C := RX2) (b := aR) (As := [.int r_1, .int 65535]) (rest := []) ⟨hx, hb, hml, hown, hts⟩ (s_X2_fetch l dC dI H.size aR r_1 (65535 : Int32) aM aA aB fault cA regs2_3 aW aT cnt cW words) (cwV 2 hts gX2_pop_X2_fetch rfl rfl rfl (by decide +kernel) ⟨Nat.le_of_ble_eq_true rfl, Nat.le_of_ble_eq_true rfl⟩) ⟨q_blind, va_recv hK hP (ci := 2) (q0 := 2) rfl rfl, fun U hU hW => ⟨rfl, q_pay hU hW hPc hKc hDc hN⟩⟩ rfl rfl hl.1 rfl (lv_room (Nat.le_of_ble_eq_true rfl)) dX2_pop_10 ⟨show 0 + 0 ≤ 0 from by omega, show 0 + 0 ≤ 0 from by omega⟩) hS (fun q _ h => hFc q h) hFc (fun r_4 u9 t H locs ht hvm hw_5 hB hz1 hk1 hS => ?_)
  obtain ⟨fault2_6, rfl⟩ : ∃ z, z = u9 := ⟨_, rfl⟩
  obtain ⟨hP1, hK1, hD1⟩ := hB
  rw [ht] at hP1
  obtain ⟨hP, hD⟩ := va_join (wr := []) (w1 := [(aR, .inr (2, [.ref aM, .ref aA, .ref aB, .int fault2_6])), (aA, .inl (cA, 8, .inl regs2_3)), (aM, .inr (1, [.ref aW, .ref aT, .int cnt])), (aW, .inl (cW, 2048, .inl words))]) hP hD [2, 3, 0, 1] [] rfl rfl (by decide) (by decide) hk1 hFc hP1 hD1
  have hP : va_P (dC, dI) vwCl [(aR, .inr (2, [.ref aM, .ref aA, .ref aB, .int fault2_6])), (aA, .inl (cA, 8, .inl regs2_3)), (aM, .inr (1, [.ref aW, .ref aT, .int cnt])), (aW, .inl (cW, 2048, .inl words))] H := hP
  have hD : va_D A [(aR, .inr (2, [.ref aM, .ref aA, .ref aB, .int fault2_6])), (aA, .inl (cA, 8, .inl regs2_3)), (aM, .inr (1, [.ref aW, .ref aT, .int cnt])), (aW, .inl (cW, 2048, .inl words))] := hD
  refine W.widen (k := 0) (n := 0) (by omega) (by omega) ?_
  try dsimp only at hw_5
  have hP9 := hP.sub (ws' := [(aR, .inr (2, [.ref aM, .ref aA, .ref aB, .int fault2_6])), (aA, .inl (cA, 8, .inl regs2_3)), (aM, .inr (1, [.ref aW, .ref aT, .int cnt])), (aW, .inl (cW, 2048, .inl words))]) [0, 1, 2, 3] rfl
  have hD9 := hD.sub (ws' := [(aR, .inr (2, [.ref aM, .ref aA, .ref aB, .int fault2_6])), (aA, .inl (cA, 8, .inl regs2_3)), (aM, .inr (1, [.ref aW, .ref aT, .int cnt])), (aW, .inl (cW, 2048, .inl words))]) [0, 1, 2, 3] (by decide) rfl
  have hK9 := hK.sub (tys' := [(cA, .int), (cW, .int)]) [0, 1] rfl
  exact W.iret (v := r_4) hx hb hr (fun t ht hW => ⟨⟨r_4, (fault2_6, regs2_3), rfl, trivial, by rw [ht]; exact hP9, va_K.moved hW.alike hK9, hD9⟩, hS.F ht⟩) hS.2.2 dX2_pop_13
