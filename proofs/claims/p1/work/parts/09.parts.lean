set_option maxHeartbeats 4000000 in
set_option maxRecDepth 100000 in
theorem c_X2_init (l : Launch) (dC : Nat → ClassId) (dI : Nat → Nat → Nat) (sz : Nat) (aR : Nat) (aM : Nat)  : Met l yX2_init wsX2_init ({ frames := 1, cells := 2, slots := 16, locals := 12 }) (va_Pc [.ref aR, .ref aM] (q_pre dC dI sz [(aR, .inr (2, [.null, .null, .null, .int 0]))] [])) (va_Qv (fun (u9 : Nat × Nat × ClassId × ClassId) => True) (q_at dC dI (va_A [(aR, .inr (2, [.null, .null, .null, .int 0]))] sz) (fun (u9 : Nat × Nat × ClassId × ClassId) => [(u9.2.2.1, .int), (u9.2.2.2, .int)]) (fun (u9 : Nat × Nat × ClassId × ClassId) => [(aR, .inr (2, [.ref aM, .ref u9.1, .ref u9.2.1, .int 0])), (u9.1, .inl (u9.2.2.1, 8, .inl (fun _ => 0))), (u9.2.1, .inl (u9.2.2.2, 8, .inl (fun _ => 0)))])) (va_A [(aR, .inr (2, [.null, .null, .null, .int 0]))] sz)) 2 16 (va_A [(aR, .inr (2, [.null, .null, .null, .int 0]))] sz) := by
  refine Met.ofW (cc := cX2_init) (maxL := 2) (ret := none) (by decide) rfl ?_
  intro p e s m args below meth c s₁ B hml hv
  obtain ⟨rfl, hsz, hP, hK, hD0, hN⟩ := hv
  have hx := B.exec
  have hb := B.bytes
  have hr := B.returns
  have hts := atoms_spec (ws := wsX2_init) B.pre
  have hown : s.vm.findClass RX2 = some m.cls := findClass_of_methodNamed B.named
  have hlocks := B.notSynchronized
  have hin : meth.name = "<init>" := (name_of_methodNamed B.named B.method).1
  subst hsz
  have hD := hD0.self (sz := s.heap.size)
  generalize hAe : va_A [(aR, .inr (2, [.null, .null, .null, .int 0]))] s.heap.size = A at hD ⊢
  have hA : ∀ q : Nat, s.heap.size ≤ q → A q := fun q h => by rw [← hAe]; exact Or.inr h
  have hS : va_S A s.heap s.heap [] := va_S.rf
  have hP : va_P (dC, dI) vwCl [(aR, .inr (2, [.null, .null, .null, .int 0]))] s.heap := hP
  have hl := lv_entry ([.ref aR, .ref aM]) (n := 2) (Nat.le_of_ble_eq_true rfl)
  rw [lg_entry_eq]
  generalize (lg_sl ([.ref aR, .ref aM]) ++ List.replicate (2 - (lg_sl ([.ref aR, .ref aM])).length) Slot.unset).toArray = ls at hl ⊢
  have hl : lv_has ls 2 [(0, .ref aR), (1, .ref aM)] := hl
  refine lv_aload_n hx hb dX2_init_0 rfl (lv_at hl 0 rfl) ?_
  refine W.objInit hx hb hown (hts (.methodLink RX2 3 objectInit) (by decide +kernel)) (hts (.instanceMethod objectInit) (by decide +kernel)) (hts (.code objectInit ⟨#[0xb1]⟩ 1 none) (by decide +kernel)) rfl (by rw [hml]; exact hl.1) rfl dX2_init_1 (Nat.le_of_ble_eq_true rfl) (Nat.le_of_ble_eq_true rfl) ?_
  refine W.eq (g2 := F0 m 4 ls []) rfl ?_
  refine lv_aload_n hx hb dX2_init_4 rfl (lv_at hl 0 rfl) ?_
  refine lv_bipush (v := 8) hx hb dX2_init_5 (by decide) ?_
  refine va_newa (atype := .int) (a0 := (8, .inl (fun _ => 0))) (N' := 8) (ty := .int) hx hb (hts (.arrayClass .int) (by decide +kernel)) rfl hK hP hD hS hA (fun _ => q_zi _ _) (by decide) (by decide) (by decide) (show 0 + 1 ≤ 2 from by omega) (show 0 + 8 ≤ 16 from by omega) dX2_init_7 (fun q_1 cA_2 H hK hP hD hS => ?_)
  have hP : va_P (dC, dI) vwCl [(aR, .inr (2, [.null, .null, .null, .int 0])), (q_1, .inl (cA_2, 8, .inl (fun _ => 0)))] H := hP
  have hD : va_D A [(aR, .inr (2, [.null, .null, .null, .int 0])), (q_1, .inl (cA_2, 8, .inl (fun _ => 0)))] := hD
  have hK : va_K (dC, dI) vwCl [(cA_2, .int)] s := hK
  refine W.widen (k := 1) (n := 8) (by omega) (by omega) ?_
  refine va_putF (D := (dC, dI)) (ci := 2) (v := .ref q_1) (ty := .array .int) (C := RX2) (T := TX2) (N := 4) hx hb hts (by decide +kernel) tyX2 tyX2_ok nmX2 hown hK hP hD hS 0 rfl rfl 1 (by decide) (hts (.fieldLink RX2 9 "WordGuest$Parts" "registers" "[I") (by decide +kernel)) (fun _ h9 => h9) rfl hin rfl (by decide +kernel) rfl rfl (Nat.le_of_ble_eq_true rfl) dX2_init_9 (fun H locs hP hD hS => ?_)
  have hP : va_P (dC, dI) vwCl [(aR, .inr (2, [.null, .ref q_1, .null, .int 0])), (q_1, .inl (cA_2, 8, .inl (fun _ => 0)))] H := hP
  have hD : va_D A [(aR, .inr (2, [.null, .ref q_1, .null, .int 0])), (q_1, .inl (cA_2, 8, .inl (fun _ => 0)))] := hD
  refine lv_aload_n hx hb dX2_init_12 rfl (lv_at hl 0 rfl) ?_
  refine lv_bipush (v := 8) hx hb dX2_init_13 (by decide) ?_
  refine va_newa (atype := .int) (a0 := (8, .inl (fun _ => 0))) (N' := 8) (ty := .int) hx hb (hts (.arrayClass .int) (by decide +kernel)) rfl hK hP hD hS hA (fun _ => q_zi _ _) (by decide) (by decide) (by decide) (show 1 + 1 ≤ 2 from by omega) (show 8 + 8 ≤ 16 from by omega) dX2_init_15 (fun q_3 cA_4 H hK hP hD hS => ?_)
  have hP : va_P (dC, dI) vwCl [(aR, .inr (2, [.null, .ref q_1, .null, .int 0])), (q_1, .inl (cA_2, 8, .inl (fun _ => 0))), (q_3, .inl (cA_4, 8, .inl (fun _ => 0)))] H := hP
  have hD : va_D A [(aR, .inr (2, [.null, .ref q_1, .null, .int 0])), (q_1, .inl (cA_2, 8, .inl (fun _ => 0))), (q_3, .inl (cA_4, 8, .inl (fun _ => 0)))] := hD
  have hK : va_K (dC, dI) vwCl [(cA_2, .int), (cA_4, .int)] s := hK
  refine W.widen (k := 2) (n := 16) (by omega) (by omega) ?_
  refine va_putF (D := (dC, dI)) (ci := 2) (v := .ref q_3) (ty := .array .int) (C := RX2) (T := TX2) (N := 4) hx hb hts (by decide +kernel) tyX2 tyX2_ok nmX2 hown hK hP hD hS 0 rfl rfl 2 (by decide) (hts (.fieldLink RX2 15 "WordGuest$Parts" "registersBefore" "[I") (by decide +kernel)) (fun _ h9 => h9) rfl hin rfl (by decide +kernel) rfl rfl (Nat.le_of_ble_eq_true rfl) dX2_init_17 (fun H locs hP hD hS => ?_)
  have hP : va_P (dC, dI) vwCl [(aR, .inr (2, [.null, .ref q_1, .ref q_3, .int 0])), (q_1, .inl (cA_2, 8, .inl (fun _ => 0))), (q_3, .inl (cA_4, 8, .inl (fun _ => 0)))] H := hP
  have hD : va_D A [(aR, .inr (2, [.null, .ref q_1, .ref q_3, .int 0])), (q_1, .inl (cA_2, 8, .inl (fun _ => 0))), (q_3, .inl (cA_4, 8, .inl (fun _ => 0)))] := hD
  refine lv_aload_n hx hb dX2_init_20 rfl (lv_at hl 0 rfl) ?_
  refine lv_aload_n hx hb dX2_init_21 rfl (lv_at hl 1 rfl) ?_
  refine va_putF (D := (dC, dI)) (ci := 2) (v := .ref aM) (ty := .object "WordGuest$Memory") (C := RX2) (T := TX2) (N := 4) hx hb hts (by decide +kernel) tyX2 tyX2_ok nmX2 hown hK hP hD hS 0 rfl rfl 0 (by decide) (hts (.fieldLink RX2 18 "WordGuest$Parts" "memory" "LWordGuest$Memory;") (by decide +kernel)) (fun _ h9 => h9) rfl hin rfl (by decide +kernel) rfl rfl (Nat.le_of_ble_eq_true rfl) dX2_init_22 (fun H locs hP hD hS => ?_)
  have hP : va_P (dC, dI) vwCl [(aR, .inr (2, [.ref aM, .ref q_1, .ref q_3, .int 0])), (q_1, .inl (cA_2, 8, .inl (fun _ => 0))), (q_3, .inl (cA_4, 8, .inl (fun _ => 0)))] H := hP
  have hD : va_D A [(aR, .inr (2, [.ref aM, .ref q_1, .ref q_3, .int 0])), (q_1, .inl (cA_2, 8, .inl (fun _ => 0))), (q_3, .inl (cA_4, 8, .inl (fun _ => 0)))] := hD
  have hP9 := hP.sub (ws' := [(aR, .inr (2, [.ref aM, .ref q_1, .ref q_3, .int 0])), (q_1, .inl (cA_2, 8, .inl (fun _ => 0))), (q_3, .inl (cA_4, 8, .inl (fun _ => 0)))]) [0, 1, 2] rfl
  have hD9 := hD.sub (ws' := [(aR, .inr (2, [.ref aM, .ref q_1, .ref q_3, .int 0])), (q_1, .inl (cA_2, 8, .inl (fun _ => 0))), (q_3, .inl (cA_4, 8, .inl (fun _ => 0)))]) [0, 1, 2] (by decide) rfl
  have hK9 := hK.sub (tys' := [(cA_2, .int), (cA_4, .int)]) [0, 1] rfl
  exact W.vret hx hb hr (fun t ht hW => ⟨⟨(q_1, q_3, cA_2, cA_4), rfl, trivial, by rw [ht]; exact hP9, va_K.moved hW.alike hK9, hD9⟩, hS.F ht⟩) hS.2.2 dX2_init_25
set_option maxHeartbeats 4000000 in
set_option maxRecDepth 100000 in
theorem c_X2_begin (l : Launch) (dC : Nat → ClassId) (dI : Nat → Nat → Nat) (sz : Nat) (aR : Nat) (aM : Nat) (aA : Nat) (aB : Nat) (fault : Int32) (cA : ClassId) (regs : Nat → Int32) (cB : ClassId) (regsB : Nat → Int32)  : Met l yX2_begin wsX2_begin ({ frames := 1, cells := 0, slots := 0, locals := 200 }) (va_Pc [.ref aR] (q_pre dC dI sz [(aR, .inr (2, [.ref aM, .ref aA, .ref aB, .int fault])), (aA, .inl (cA, 8, .inl regs)), (aB, .inl (cB, 8, .inl regsB))] [(cA, .int), (cB, .int)])) (va_Qv (fun (u9 : (Nat → Int32)) => True) (q_at dC dI (va_A [(aR, .inr (2, [.ref aM, .ref aA, .ref aB, .int fault])), (aA, .inl (cA, 8, .inl regs)), (aB, .inl (cB, 8, .inl regsB))] sz) (fun (u9 : (Nat → Int32)) => [(cA, .int), (cB, .int)]) (fun (u9 : (Nat → Int32)) => [(aR, .inr (2, [.ref aM, .ref aA, .ref aB, .int 0])), (aA, .inl (cA, 8, .inl regs)), (aB, .inl (cB, 8, .inl u9))])) (va_A [(aR, .inr (2, [.ref aM, .ref aA, .ref aB, .int fault])), (aA, .inl (cA, 8, .inl regs)), (aB, .inl (cB, 8, .inl regsB))] sz)) 0 0 (va_A [(aR, .inr (2, [.ref aM, .ref aA, .ref aB, .int fault])), (aA, .inl (cA, 8, .inl regs)), (aB, .inl (cB, 8, .inl regsB))] sz) := by
  refine Met.ofW (cc := cX2_begin) (maxL := 1) (ret := none) (by decide) rfl ?_
  intro p e s m args below meth c s₁ B hml hv
  obtain ⟨rfl, hsz, hP, hK, hD0, hN⟩ := hv
  have hx := B.exec
  have hb := B.bytes
  have hr := B.returns
  have hts := atoms_spec (ws := wsX2_begin) B.pre
  have hown : s.vm.findClass RX2 = some m.cls := findClass_of_methodNamed B.named
  have hlocks := B.notSynchronized
  subst hsz
  have hD := hD0.self (sz := s.heap.size)
  generalize hAe : va_A [(aR, .inr (2, [.ref aM, .ref aA, .ref aB, .int fault])), (aA, .inl (cA, 8, .inl regs)), (aB, .inl (cB, 8, .inl regsB))] s.heap.size = A at hD ⊢
  have hA : ∀ q : Nat, s.heap.size ≤ q → A q := fun q h => by rw [← hAe]; exact Or.inr h
  have hS : va_S A s.heap s.heap [] := va_S.rf
  have hP : va_P (dC, dI) vwCl [(aR, .inr (2, [.ref aM, .ref aA, .ref aB, .int fault])), (aA, .inl (cA, 8, .inl regs)), (aB, .inl (cB, 8, .inl regsB))] s.heap := hP
  have hl := lv_entry ([.ref aR]) (n := 1) (Nat.le_of_ble_eq_true rfl)
  rw [lg_entry_eq]
  generalize (lg_sl ([.ref aR]) ++ List.replicate (1 - (lg_sl ([.ref aR])).length) Slot.unset).toArray = ls at hl ⊢
  have hl : lv_has ls 1 [(0, .ref aR)] := hl
  refine lv_aload_n hx hb dX2_begin_0 rfl (lv_at hl 0 rfl) ?_
  refine va_get (D := (dC, dI)) (ci := 2) (v := .ref aA) (C := RX2) (T := TX2) (N := 4) hx hb hts (by decide +kernel) hown hK hP 0 rfl rfl 1 (by decide) (hts (.fieldLink RX2 9 "WordGuest$Parts" "registers" "[I") (by decide +kernel)) (fun _ h9 => h9) rfl dX2_begin_1 ?_
  refine lv_iconst (v := 0) hx hb dX2_begin_4 (by decide) ?_
  refine lv_aload_n hx hb dX2_begin_5 rfl (lv_at hl 0 rfl) ?_
  refine va_get (D := (dC, dI)) (ci := 2) (v := .ref aB) (C := RX2) (T := TX2) (N := 4) hx hb hts (by decide +kernel) hown hK hP 0 rfl rfl 2 (by decide) (hts (.fieldLink RX2 15 "WordGuest$Parts" "registersBefore" "[I") (by decide +kernel)) (fun _ h9 => h9) rfl dX2_begin_6 ?_
  refine lv_iconst (v := 0) hx hb dX2_begin_9 (by decide) ?_
  refine lv_bipush (v := 8) hx hb dX2_begin_10 (by decide) ?_
  refine va_copyi hx hb (hml.trans hl.1.symm) hown (hts (.methodLink RX2 22 arraycopyName) (by decide +kernel)) (hts (.native arraycopyName) (by decide +kernel)) (hts (.static arraycopyName) (by decide +kernel)) (hts (.initialized "java/lang/System") (by decide +kernel)) hK hP hD hS 1 2 0 1 rfl rfl rfl rfl rfl (by decide) (by decide) (by decide) (by decide) (by decide) (fun _ _ => rfl) (by decide) (by decide) dX2_begin_12 (fun H locs hP hD hS => ?_)
  have hP : va_P (dC, dI) vwCl [(aR, .inr (2, [.ref aM, .ref aA, .ref aB, .int fault])), (aA, .inl (cA, 8, .inl regs)), (aB, .inl (cB, 8, .inl (va_cpy regs regsB (0 : Int32).toNatClampNeg (0 : Int32).toNatClampNeg (8 : Int32).toNatClampNeg)))] H := hP
  have hD : va_D A [(aR, .inr (2, [.ref aM, .ref aA, .ref aB, .int fault])), (aA, .inl (cA, 8, .inl regs)), (aB, .inl (cB, 8, .inl (va_cpy regs regsB (0 : Int32).toNatClampNeg (0 : Int32).toNatClampNeg (8 : Int32).toNatClampNeg)))] := hD
  refine lv_aload_n hx hb dX2_begin_15 rfl (lv_at hl 0 rfl) ?_
  refine lv_iconst (v := 0) hx hb dX2_begin_16 (by decide) ?_
  refine va_put (D := (dC, dI)) (ci := 2) (v := .int 0) (ty := .int) (C := RX2) (T := TX2) (N := 4) hx hb hts (by decide +kernel) tyX2 tyX2_ok nmX2 hown hK hP hD hS 0 rfl rfl 3 (by decide) (hts (.fieldLink RX2 28 "WordGuest$Parts" "fault" "I") (by decide +kernel)) (fun _ h9 => h9) rfl (by decide +kernel) rfl rfl (Nat.le_of_ble_eq_true rfl) dX2_begin_17 (fun H locs hP hD hS => ?_)
  have hP : va_P (dC, dI) vwCl [(aR, .inr (2, [.ref aM, .ref aA, .ref aB, .int 0])), (aA, .inl (cA, 8, .inl regs)), (aB, .inl (cB, 8, .inl (va_cpy regs regsB (0 : Int32).toNatClampNeg (0 : Int32).toNatClampNeg (8 : Int32).toNatClampNeg)))] H := hP
  have hD : va_D A [(aR, .inr (2, [.ref aM, .ref aA, .ref aB, .int 0])), (aA, .inl (cA, 8, .inl regs)), (aB, .inl (cB, 8, .inl (va_cpy regs regsB (0 : Int32).toNatClampNeg (0 : Int32).toNatClampNeg (8 : Int32).toNatClampNeg)))] := hD
  have hP9 := hP.sub (ws' := [(aR, .inr (2, [.ref aM, .ref aA, .ref aB, .int 0])), (aA, .inl (cA, 8, .inl regs)), (aB, .inl (cB, 8, .inl (va_cpy regs regsB (0 : Int32).toNatClampNeg (0 : Int32).toNatClampNeg (8 : Int32).toNatClampNeg)))]) [0, 1, 2] rfl
  have hD9 := hD.sub (ws' := [(aR, .inr (2, [.ref aM, .ref aA, .ref aB, .int 0])), (aA, .inl (cA, 8, .inl regs)), (aB, .inl (cB, 8, .inl (va_cpy regs regsB (0 : Int32).toNatClampNeg (0 : Int32).toNatClampNeg (8 : Int32).toNatClampNeg)))]) [0, 1, 2] (by decide) rfl
  have hK9 := hK.sub (tys' := [(cA, .int), (cB, .int)]) [0, 1] rfl
  exact W.vret hx hb hr (fun t ht hW => ⟨⟨(va_cpy regs regsB (0 : Int32).toNatClampNeg (0 : Int32).toNatClampNeg (8 : Int32).toNatClampNeg), rfl, trivial, by rw [ht]; exact hP9, va_K.moved hW.alike hK9, hD9⟩, hS.F ht⟩) hS.2.2 dX2_begin_20
set_option maxHeartbeats 4000000 in
set_option maxRecDepth 100000 in
theorem c_X2_grow (l : Launch) (dC : Nat → ClassId) (dI : Nat → Nat → Nat) (sz : Nat) (aR : Nat) (aM : Nat) (aA : Nat) (aB : Nat) (fault : Int32) (cA : ClassId) (regs : Nat → Int32) (rr : Int32) (by9 : Int32) (hr9 : vp_in rr 8) : Met l yX2_grow wsX2_grow ({ frames := 0, cells := 0, slots := 0, locals := 0 }) (va_Pc [.ref aR, .int rr, .int by9] (q_pre dC dI sz [(aR, .inr (2, [.ref aM, .ref aA, .ref aB, .int fault])), (aA, .inl (cA, 8, .inl regs))] [(cA, .int)])) (va_Qi (fun (r : Int32) (u9 : (Nat → Int32)) => r = regs rr.toNatClampNeg) (q_at dC dI (va_A [(aR, .inr (2, [.ref aM, .ref aA, .ref aB, .int fault])), (aA, .inl (cA, 8, .inl regs))] sz) (fun (u9 : (Nat → Int32)) => [(cA, .int)]) (fun (u9 : (Nat → Int32)) => [(aR, .inr (2, [.ref aM, .ref aA, .ref aB, .int fault])), (aA, .inl (cA, 8, .inl u9))])) (va_A [(aR, .inr (2, [.ref aM, .ref aA, .ref aB, .int fault])), (aA, .inl (cA, 8, .inl regs))] sz)) 0 0 (va_A [(aR, .inr (2, [.ref aM, .ref aA, .ref aB, .int fault])), (aA, .inl (cA, 8, .inl regs))] sz) := by
  refine Met.ofW (cc := cX2_grow) (maxL := 4) (ret := (some .int)) (by decide) rfl ?_
  intro p e s m args below meth c s₁ B hml hv
  obtain ⟨rfl, hsz, hP, hK, hD0, hN⟩ := hv
  have hx := B.exec
  have hb := B.bytes
  have hr := B.returns
  have hts := atoms_spec (ws := wsX2_grow) B.pre
  have hown : s.vm.findClass RX2 = some m.cls := findClass_of_methodNamed B.named
  have hlocks := B.notSynchronized
  subst hsz
  have hD := hD0.self (sz := s.heap.size)
  generalize hAe : va_A [(aR, .inr (2, [.ref aM, .ref aA, .ref aB, .int fault])), (aA, .inl (cA, 8, .inl regs))] s.heap.size = A at hD ⊢
  have hA : ∀ q : Nat, s.heap.size ≤ q → A q := fun q h => by rw [← hAe]; exact Or.inr h
  have hS : va_S A s.heap s.heap [] := va_S.rf
  have hP : va_P (dC, dI) vwCl [(aR, .inr (2, [.ref aM, .ref aA, .ref aB, .int fault])), (aA, .inl (cA, 8, .inl regs))] s.heap := hP
  have hl := lv_entry ([.ref aR, .int rr, .int by9]) (n := 4) (Nat.le_of_ble_eq_true rfl)
  rw [lg_entry_eq]
  generalize (lg_sl ([.ref aR, .int rr, .int by9]) ++ List.replicate (4 - (lg_sl ([.ref aR, .int rr, .int by9])).length) Slot.unset).toArray = ls at hl ⊢
  have hl : lv_has ls 4 [(0, .ref aR), (1, .int rr), (2, .int by9)] := hl
  refine lv_aload_n hx hb dX2_grow_0 rfl (lv_at hl 0 rfl) ?_
  refine va_get (D := (dC, dI)) (ci := 2) (v := .ref aA) (C := RX2) (T := TX2) (N := 4) hx hb hts (by decide +kernel) hown hK hP 0 rfl rfl 1 (by decide) (hts (.fieldLink RX2 9 "WordGuest$Parts" "registers" "[I") (by decide +kernel)) (fun _ h9 => h9) rfl dX2_grow_1 ?_
  refine lv_iload_n hx hb dX2_grow_4 rfl (lv_at hl 1 rfl) ?_
  refine va_iald hx hb hK hP 1 0 rfl rfl hr9 dX2_grow_5 ?_
  refine lv_istore_n (lv' := [(3, .int (regs rr.toNatClampNeg)), (0, .ref aR), (1, .int rr), (2, .int by9)]) hx hb dX2_grow_6 rfl hl (by decide) rfl (fun ls hl => ?_)
  refine lv_aload_n hx hb dX2_grow_7 rfl (lv_at hl 1 rfl) ?_
  refine va_get (D := (dC, dI)) (ci := 2) (v := .ref aA) (C := RX2) (T := TX2) (N := 4) hx hb hts (by decide +kernel) hown hK hP 0 rfl rfl 1 (by decide) (hts (.fieldLink RX2 9 "WordGuest$Parts" "registers" "[I") (by decide +kernel)) (fun _ h9 => h9) rfl dX2_grow_8 ?_
  refine lv_iload_n hx hb dX2_grow_11 rfl (lv_at hl 2 rfl) ?_
  refine lv_iload_n hx hb dX2_grow_12 rfl (lv_at hl 0 rfl) ?_
  refine lv_iload_n hx hb dX2_grow_13 rfl (lv_at hl 3 rfl) ?_
  refine lv_iadd hx hb dX2_grow_14 ?_
  refine lv_ldc (v := 65535) hx hb hown (hts (.constant RX2 46 (65535)) (by decide +kernel)) dX2_grow_15 ?_
  refine lv_iand hx hb dX2_grow_17 ?_
  refine va_iast hx hb hK hP hD hS 1 0 rfl rfl hr9 dX2_grow_18 (fun H locs hP hD hS => ?_)
  have hP : va_P (dC, dI) vwCl [(aR, .inr (2, [.ref aM, .ref aA, .ref aB, .int fault])), (aA, .inl (cA, 8, .inl (upd regs rr.toNatClampNeg (((regs rr.toNatClampNeg) + by9) &&& 65535))))] H := hP
  have hD : va_D A [(aR, .inr (2, [.ref aM, .ref aA, .ref aB, .int fault])), (aA, .inl (cA, 8, .inl (upd regs rr.toNatClampNeg (((regs rr.toNatClampNeg) + by9) &&& 65535))))] := hD
  refine lv_iload_n hx hb dX2_grow_19 rfl (lv_at hl 0 rfl) ?_
  have hP9 := hP.sub (ws' := [(aR, .inr (2, [.ref aM, .ref aA, .ref aB, .int fault])), (aA, .inl (cA, 8, .inl (upd regs rr.toNatClampNeg (((regs rr.toNatClampNeg) + by9) &&& 65535))))]) [0, 1] rfl
  have hD9 := hD.sub (ws' := [(aR, .inr (2, [.ref aM, .ref aA, .ref aB, .int fault])), (aA, .inl (cA, 8, .inl (upd regs rr.toNatClampNeg (((regs rr.toNatClampNeg) + by9) &&& 65535))))]) [0, 1] (by decide) rfl
  have hK9 := hK.sub (tys' := [(cA, .int)]) [0] rfl
  exact W.iret (v := regs rr.toNatClampNeg) hx hb hr (fun t ht hW => ⟨⟨regs rr.toNatClampNeg, (upd regs rr.toNatClampNeg (((regs rr.toNatClampNeg) + by9) &&& 65535)), rfl, rfl, by rw [ht]; exact hP9, va_K.moved hW.alike hK9, hD9⟩, hS.F ht⟩) hS.2.2 dX2_grow_20
set_option maxHeartbeats 4000000 in
set_option maxRecDepth 100000 in
theorem c_X2_fetch0 (l : Launch) (dC : Nat → ClassId) (dI : Nat → Nat → Nat) (sz : Nat) (aR : Nat) (aM : Nat) (aA : Nat) (aB : Nat) (aW : Nat) (aT : Nat) (cW : ClassId)  : Met l yX2_fetch wsX2_fetch ({ frames := 1, cells := 0, slots := 0, locals := 23 }) (va_Pc [.ref aR, .int 0, .int 65535] (q_pre dC dI sz [(aR, .inr (2, [.ref aM, .ref aA, .ref aB, .int 0])), (aM, .inr (1, [.ref aW, .ref aT, .int 0])), (aW, .inl (cW, 2048, .inl (fun _ => 0)))] [(cW, .int)])) (va_Qi (fun (r : Int32) (u9 : Unit) => r = 0) (q_at dC dI (va_A [(aR, .inr (2, [.ref aM, .ref aA, .ref aB, .int 0])), (aM, .inr (1, [.ref aW, .ref aT, .int 0])), (aW, .inl (cW, 2048, .inl (fun _ => 0)))] sz) (fun (u9 : Unit) => [(cW, .int)]) (fun (u9 : Unit) => [(aR, .inr (2, [.ref aM, .ref aA, .ref aB, .int 0])), (aM, .inr (1, [.ref aW, .ref aT, .int 0])), (aW, .inl (cW, 2048, .inl (fun _ => 0)))])) (va_A [(aR, .inr (2, [.ref aM, .ref aA, .ref aB, .int 0])), (aM, .inr (1, [.ref aW, .ref aT, .int 0])), (aW, .inl (cW, 2048, .inl (fun _ => 0)))] sz)) 0 0 (va_A [(aR, .inr (2, [.ref aM, .ref aA, .ref aB, .int 0])), (aM, .inr (1, [.ref aW, .ref aT, .int 0])), (aW, .inl (cW, 2048, .inl (fun _ => 0)))] sz) := by
  refine Met.ofW (cc := cX2_fetch) (maxL := 3) (ret := (some .int)) (by decide) rfl ?_
  intro p e s m args below meth c s₁ B hml hv
  obtain ⟨rfl, hsz, hP, hK, hD0, hN⟩ := hv
  have hx := B.exec
  have hb := B.bytes
  have hr := B.returns
  have hts := atoms_spec (ws := wsX2_fetch) B.pre
  have hown : s.vm.findClass RX2 = some m.cls := findClass_of_methodNamed B.named
  have hlocks := B.notSynchronized
  subst hsz
  have hD := hD0.self (sz := s.heap.size)
  generalize hAe : va_A [(aR, .inr (2, [.ref aM, .ref aA, .ref aB, .int 0])), (aM, .inr (1, [.ref aW, .ref aT, .int 0])), (aW, .inl (cW, 2048, .inl (fun _ => 0)))] s.heap.size = A at hD ⊢
  have hA : ∀ q : Nat, s.heap.size ≤ q → A q := fun q h => by rw [← hAe]; exact Or.inr h
  have hS : va_S A s.heap s.heap [] := va_S.rf
  have hP : va_P (dC, dI) vwCl [(aR, .inr (2, [.ref aM, .ref aA, .ref aB, .int 0])), (aM, .inr (1, [.ref aW, .ref aT, .int 0])), (aW, .inl (cW, 2048, .inl (fun _ => 0)))] s.heap := hP
  have hl := lv_entry ([.ref aR, .int 0, .int 65535]) (n := 3) (Nat.le_of_ble_eq_true rfl)
  rw [lg_entry_eq]
  generalize (lg_sl ([.ref aR, .int 0, .int 65535]) ++ List.replicate (3 - (lg_sl ([.ref aR, .int 0, .int 65535])).length) Slot.unset).toArray = ls at hl ⊢
  have hl : lv_has ls 3 [(0, .ref aR), (1, .int 0), (2, .int 65535)] := hl
  refine lv_iload_n hx hb dX2_fetch_0 rfl (lv_at hl 1 rfl) ?_
  refine lv_ldc (v := 65536) hx hb hown (hts (.constant RX2 38 (65536)) (by decide +kernel)) dX2_fetch_1 ?_
  refine lv_icmp_lt (tgt := 18) hx hb dX2_fetch_3 (by decide) (fun c_1 => ?_) (fun c9 => absurd (by decide) c9)
  refine lv_aload_n hx hb dX2_fetch_18 rfl (lv_at hl 0 rfl) ?_
  refine va_get (D := (dC, dI)) (ci := 2) (v := .int 0) (C := RX2) (T := TX2) (N := 4) hx hb hts (by decide +kernel) hown hK hP 0 rfl rfl 3 (by decide) (hts (.fieldLink RX2 28 "WordGuest$Parts" "fault" "I") (by decide +kernel)) (fun _ h9 => h9) rfl dX2_fetch_19 ?_
  refine lv_if_ne (tgt := 38) hx hb dX2_fetch_22 (by decide) (fun c9 => absurd (by decide) c9) (fun c_2 => ?_)
  refine lv_aload_n hx hb dX2_fetch_25 rfl (lv_at hl 0 rfl) ?_
  refine lv_aload_n hx hb dX2_fetch_26 rfl (lv_at hl 0 rfl) ?_
  refine va_get (D := (dC, dI)) (ci := 2) (v := .ref aM) (C := RX2) (T := TX2) (N := 4) hx hb hts (by decide +kernel) hown hK hP 0 rfl rfl 0 (by decide) (hts (.fieldLink RX2 18 "WordGuest$Parts" "memory" "LWordGuest$Memory;") (by decide +kernel)) (fun _ h9 => h9) rfl dX2_fetch_27 ?_
  refine lv_iload_n hx hb dX2_fetch_30 rfl (lv_at hl 1 rfl) ?_
  refine lv_iload_n hx hb dX2_fetch_31 rfl (lv_at hl 2 rfl) ?_
  have hPc := hP.sub (ws' := []) [] rfl
  have hDc := hD.sub (ws' := []) [] (by decide) rfl
  have hKc := hK.sub (tys' := []) [] rfl
  have hFc := va_free (wc := []) hD hS hA [] rfl
  refine va_calli (va_runV (C := RX1) (b := aM) (As := [.int 0, .int 65535]) (rest := [.ref aR]) ⟨hx, hb, hml, hown, hts⟩ (c_X1_faultAt l dC dI s.heap.size aM (0 : Int32) (65535 : Int32)) (cwV 2 hts gX2_fetch_X1_faultAt rfl rfl rfl (by decide +kernel) ⟨Nat.le_of_ble_eq_true rfl, Nat.le_of_ble_eq_true rfl⟩) ⟨q_blind, va_recv hK hP (ci := 1) (q0 := 1) rfl rfl, fun U hU hW => ⟨rfl, q_pay hU hW hPc hKc hDc hN⟩⟩ rfl rfl hl.1 rfl (lv_room (Nat.le_of_ble_eq_true rfl)) dX2_fetch_32 ⟨show 0 + 0 ≤ 0 from by omega, show 0 + 0 ≤ 0 from by omega⟩) hS (fun q _ h => hFc q h) hFc (fun r_3 u9 t H locs ht hvm hw_4 hB hz1 hk1 hS => ?_)
  obtain ⟨hP1, hK1, hD1⟩ := hB
  rw [ht] at hP1
  obtain ⟨hP, hD⟩ := va_join (wr := [(aR, .inr (2, [.ref aM, .ref aA, .ref aB, .int 0])), (aM, .inr (1, [.ref aW, .ref aT, .int 0])), (aW, .inl (cW, 2048, .inl (fun _ => 0)))]) (w1 := []) hP hD [] [0, 1, 2] rfl rfl (by decide) (by decide) hk1 hFc hP1 hD1
  have hP : va_P (dC, dI) vwCl [(aR, .inr (2, [.ref aM, .ref aA, .ref aB, .int 0])), (aM, .inr (1, [.ref aW, .ref aT, .int 0])), (aW, .inl (cW, 2048, .inl (fun _ => 0)))] H := hP
  have hD : va_D A [(aR, .inr (2, [.ref aM, .ref aA, .ref aB, .int 0])), (aM, .inr (1, [.ref aW, .ref aT, .int 0])), (aW, .inl (cW, 2048, .inl (fun _ => 0)))] := hD
  refine W.widen (k := 0) (n := 0) (by omega) (by omega) ?_
  try dsimp only at hw_4
  obtain rfl := hw_4
  refine q_toc (y := 0) (by first | rfl | decide) ?_
  refine va_put (D := (dC, dI)) (ci := 2) (v := .int 0) (ty := .int) (C := RX2) (T := TX2) (N := 4) hx hb hts (by decide +kernel) tyX2 tyX2_ok nmX2 hown hK hP hD hS 0 rfl rfl 3 (by decide) (hts (.fieldLink RX2 28 "WordGuest$Parts" "fault" "I") (by decide +kernel)) (fun _ h9 => h9) rfl (by decide +kernel) rfl rfl (Nat.le_of_ble_eq_true rfl) dX2_fetch_35 (fun H locs hP hD hS => ?_)
  have hP : va_P (dC, dI) vwCl [(aR, .inr (2, [.ref aM, .ref aA, .ref aB, .int 0])), (aM, .inr (1, [.ref aW, .ref aT, .int 0])), (aW, .inl (cW, 2048, .inl (fun _ => 0)))] H := hP
  have hD : va_D A [(aR, .inr (2, [.ref aM, .ref aA, .ref aB, .int 0])), (aM, .inr (1, [.ref aW, .ref aT, .int 0])), (aW, .inl (cW, 2048, .inl (fun _ => 0)))] := hD
  refine lv_aload_n hx hb dX2_fetch_38 rfl (lv_at hl 0 rfl) ?_
  refine va_get (D := (dC, dI)) (ci := 2) (v := .int 0) (C := RX2) (T := TX2) (N := 4) hx hb hts (by decide +kernel) hown hK hP 0 rfl rfl 3 (by decide) (hts (.fieldLink RX2 28 "WordGuest$Parts" "fault" "I") (by decide +kernel)) (fun _ h9 => h9) rfl dX2_fetch_39 ?_
  refine lv_if_ne (tgt := 57) hx hb dX2_fetch_42 (by decide) (fun c9 => absurd (by decide) c9) (fun c_5 => ?_)
  refine lv_aload_n hx hb dX2_fetch_45 rfl (lv_at hl 0 rfl) ?_
  refine va_get (D := (dC, dI)) (ci := 2) (v := .ref aM) (C := RX2) (T := TX2) (N := 4) hx hb hts (by decide +kernel) hown hK hP 0 rfl rfl 0 (by decide) (hts (.fieldLink RX2 18 "WordGuest$Parts" "memory" "LWordGuest$Memory;") (by decide +kernel)) (fun _ h9 => h9) rfl dX2_fetch_46 ?_
  refine lv_iload_n hx hb dX2_fetch_49 rfl (lv_at hl 1 rfl) ?_
  refine lv_iload_n hx hb dX2_fetch_50 rfl (lv_at hl 2 rfl) ?_
  have hPc := hP.sub (ws' := [(aM, .inr (1, [.ref aW, .ref aT, .int 0])), (aW, .inl (cW, 2048, .inl (fun _ => 0)))]) [1, 2] rfl
  have hDc := hD.sub (ws' := [(aM, .inr (1, [.ref aW, .ref aT, .int 0])), (aW, .inl (cW, 2048, .inl (fun _ => 0)))]) [1, 2] (by decide) rfl
  have hKc := hK.sub (tys' := [(cW, .int)]) [0] rfl
  have hFc := va_free (wc := [(aM, .inr (1, [.ref aW, .ref aT, .int 0])), (aW, .inl (cW, 2048, .inl (fun _ => 0)))]) hD hS hA [1, 2] rfl
  refine va_calli (va_runV (C := RX1) (b := aM) (As := [.int 0, .int 65535]) (rest := []) ⟨hx, hb, hml, hown, hts⟩ (c_X1_valueAt l dC dI H.size aM aW aT (0 : Int32) cW (fun _ => 0) (0 : Int32) (65535 : Int32)) (cwV 2 hts gX2_fetch_X1_valueAt rfl rfl rfl (by decide +kernel) ⟨Nat.le_of_ble_eq_true rfl, Nat.le_of_ble_eq_true rfl⟩) ⟨q_blind, va_recv hK hP (ci := 1) (q0 := 1) rfl rfl, fun U hU hW => ⟨rfl, q_pay hU hW hPc hKc hDc hN⟩⟩ rfl rfl hl.1 rfl (lv_room (Nat.le_of_ble_eq_true rfl)) dX2_fetch_51 ⟨show 0 + 0 ≤ 0 from by omega, show 0 + 0 ≤ 0 from by omega⟩) hS (fun q _ h => hFc q h) hFc (fun r_6 u9 t H locs ht hvm hw_7 hB hz1 hk1 hS => ?_)
  obtain ⟨hP1, hK1, hD1⟩ := hB
  rw [ht] at hP1
  obtain ⟨hP, hD⟩ := va_join (wr := [(aR, .inr (2, [.ref aM, .ref aA, .ref aB, .int 0]))]) (w1 := [(aM, .inr (1, [.ref aW, .ref aT, .int 0])), (aW, .inl (cW, 2048, .inl (fun _ => 0)))]) hP hD [1, 2] [0] rfl rfl (by decide) (by decide) hk1 hFc hP1 hD1
  have hP : va_P (dC, dI) vwCl [(aR, .inr (2, [.ref aM, .ref aA, .ref aB, .int 0])), (aM, .inr (1, [.ref aW, .ref aT, .int 0])), (aW, .inl (cW, 2048, .inl (fun _ => 0)))] H := hP
  have hD : va_D A [(aR, .inr (2, [.ref aM, .ref aA, .ref aB, .int 0])), (aM, .inr (1, [.ref aW, .ref aT, .int 0])), (aW, .inl (cW, 2048, .inl (fun _ => 0)))] := hD
  refine W.widen (k := 0) (n := 0) (by omega) (by omega) ?_
  try dsimp only at hw_7
  obtain rfl := hw_7
  refine q_toc (y := 0) (q_zw _ _) ?_
  refine lv_goto (tgt := 58) hx hb dX2_fetch_54 (by decide) ?_
  have hP9 := hP.sub (ws' := [(aR, .inr (2, [.ref aM, .ref aA, .ref aB, .int 0])), (aM, .inr (1, [.ref aW, .ref aT, .int 0])), (aW, .inl (cW, 2048, .inl (fun _ => 0)))]) [0, 1, 2] rfl
  have hD9 := hD.sub (ws' := [(aR, .inr (2, [.ref aM, .ref aA, .ref aB, .int 0])), (aM, .inr (1, [.ref aW, .ref aT, .int 0])), (aW, .inl (cW, 2048, .inl (fun _ => 0)))]) [0, 1, 2] (by decide) rfl
  have hK9 := hK.sub (tys' := [(cW, .int)]) [0] rfl
  exact W.iret (v := 0) hx hb hr (fun t ht hW => ⟨⟨0, (), rfl, rfl, by rw [ht]; exact hP9, va_K.moved hW.alike hK9, hD9⟩, hS.F ht⟩) hS.2.2 dX2_fetch_58
set_option maxHeartbeats 4000000 in
set_option maxRecDepth 100000 in
theorem c_X2_takeNext (l : Launch) (dC : Nat → ClassId) (dI : Nat → Nat → Nat) (sz : Nat) (aR : Nat) (aM : Nat) (aA : Nat) (aB : Nat) (cA : ClassId) (aW : Nat) (aT : Nat) (cW : ClassId)  : Met l yX2_takeNext wsX2_takeNext ({ frames := 2, cells := 0, slots := 0, locals := 45 }) (va_Pc [.ref aR] (q_pre dC dI sz [(aR, .inr (2, [.ref aM, .ref aA, .ref aB, .int 0])), (aA, .inl (cA, 8, .inl (fun _ => 0))), (aM, .inr (1, [.ref aW, .ref aT, .int 0])), (aW, .inl (cW, 2048, .inl (fun _ => 0)))] [(cA, .int), (cW, .int)])) (va_Qi (fun (r : Int32) (u9 : (Nat → Int32)) => r = 0) (q_at dC dI (va_A [(aR, .inr (2, [.ref aM, .ref aA, .ref aB, .int 0])), (aA, .inl (cA, 8, .inl (fun _ => 0))), (aM, .inr (1, [.ref aW, .ref aT, .int 0])), (aW, .inl (cW, 2048, .inl (fun _ => 0)))] sz) (fun (u9 : (Nat → Int32)) => [(cA, .int), (cW, .int)]) (fun (u9 : (Nat → Int32)) => [(aR, .inr (2, [.ref aM, .ref aA, .ref aB, .int 0])), (aA, .inl (cA, 8, .inl u9)), (aM, .inr (1, [.ref aW, .ref aT, .int 0])), (aW, .inl (cW, 2048, .inl (fun _ => 0)))])) (va_A [(aR, .inr (2, [.ref aM, .ref aA, .ref aB, .int 0])), (aA, .inl (cA, 8, .inl (fun _ => 0))), (aM, .inr (1, [.ref aW, .ref aT, .int 0])), (aW, .inl (cW, 2048, .inl (fun _ => 0)))] sz)) 0 0 (va_A [(aR, .inr (2, [.ref aM, .ref aA, .ref aB, .int 0])), (aA, .inl (cA, 8, .inl (fun _ => 0))), (aM, .inr (1, [.ref aW, .ref aT, .int 0])), (aW, .inl (cW, 2048, .inl (fun _ => 0)))] sz) := by
  refine Met.ofW (cc := cX2_takeNext) (maxL := 1) (ret := (some .int)) (by decide) rfl ?_
  intro p e s m args below meth c s₁ B hml hv
  obtain ⟨rfl, hsz, hP, hK, hD0, hN⟩ := hv
  have hx := B.exec
  have hb := B.bytes
  have hr := B.returns
  have hts := atoms_spec (ws := wsX2_takeNext) B.pre
  have hown : s.vm.findClass RX2 = some m.cls := findClass_of_methodNamed B.named
  have hlocks := B.notSynchronized
  subst hsz
  have hD := hD0.self (sz := s.heap.size)
  generalize hAe : va_A [(aR, .inr (2, [.ref aM, .ref aA, .ref aB, .int 0])), (aA, .inl (cA, 8, .inl (fun _ => 0))), (aM, .inr (1, [.ref aW, .ref aT, .int 0])), (aW, .inl (cW, 2048, .inl (fun _ => 0)))] s.heap.size = A at hD ⊢
  have hA : ∀ q : Nat, s.heap.size ≤ q → A q := fun q h => by rw [← hAe]; exact Or.inr h
  have hS : va_S A s.heap s.heap [] := va_S.rf
  have hP : va_P (dC, dI) vwCl [(aR, .inr (2, [.ref aM, .ref aA, .ref aB, .int 0])), (aA, .inl (cA, 8, .inl (fun _ => 0))), (aM, .inr (1, [.ref aW, .ref aT, .int 0])), (aW, .inl (cW, 2048, .inl (fun _ => 0)))] s.heap := hP
  have hl := lv_entry ([.ref aR]) (n := 1) (Nat.le_of_ble_eq_true rfl)
  rw [lg_entry_eq]
  generalize (lg_sl ([.ref aR]) ++ List.replicate (1 - (lg_sl ([.ref aR])).length) Slot.unset).toArray = ls at hl ⊢
  have hl : lv_has ls 1 [(0, .ref aR)] := hl
  refine lv_aload_n hx hb dX2_takeNext_0 rfl (lv_at hl 0 rfl) ?_
  refine lv_aload_n hx hb dX2_takeNext_1 rfl (lv_at hl 0 rfl) ?_
  refine lv_bipush (v := 7) hx hb dX2_takeNext_2 (by decide) ?_
  refine lv_iconst (v := 2) hx hb dX2_takeNext_4 (by decide) ?_
  have hPc := hP.sub (ws' := [(aR, .inr (2, [.ref aM, .ref aA, .ref aB, .int 0])), (aA, .inl (cA, 8, .inl (fun _ => 0)))]) [0, 1] rfl
  have hDc := hD.sub (ws' := [(aR, .inr (2, [.ref aM, .ref aA, .ref aB, .int 0])), (aA, .inl (cA, 8, .inl (fun _ => 0)))]) [0, 1] (by decide) rfl
  have hKc := hK.sub (tys' := [(cA, .int)]) [0] rfl
  have hFc := va_free (wc := [(aR, .inr (2, [.ref aM, .ref aA, .ref aB, .int 0])), (aA, .inl (cA, 8, .inl (fun _ => 0)))]) hD hS hA [0, 1] rfl
  refine va_calli (va_runV (C := RX2) (b := aR) (As := [.int 7, .int 2]) (rest := [.ref aR]) ⟨hx, hb, hml, hown, hts⟩ (c_X2_grow l dC dI s.heap.size aR aM aA aB (0 : Int32) cA (fun _ => 0) (7 : Int32) (2 : Int32) (by unfold vp_in; decide)) (cwV 2 hts gX2_takeNext_X2_grow rfl rfl rfl (by decide +kernel) ⟨Nat.le_of_ble_eq_true rfl, Nat.le_of_ble_eq_true rfl⟩) ⟨q_blind, va_recv hK hP (ci := 2) (q0 := 0) rfl rfl, fun U hU hW => ⟨rfl, q_pay hU hW hPc hKc hDc hN⟩⟩ rfl rfl hl.1 rfl (lv_room (Nat.le_of_ble_eq_true rfl)) dX2_takeNext_5 ⟨show 0 + 0 ≤ 0 from by omega, show 0 + 0 ≤ 0 from by omega⟩) hS (fun q _ h => hFc q h) hFc (fun r_1 u9 t H locs ht hvm hw_2 hB hz1 hk1 hS => ?_)
  obtain ⟨regs2_3, rfl⟩ : ∃ z, z = u9 := ⟨_, rfl⟩
  obtain ⟨hP1, hK1, hD1⟩ := hB
  rw [ht] at hP1
  obtain ⟨hP, hD⟩ := va_join (wr := [(aM, .inr (1, [.ref aW, .ref aT, .int 0])), (aW, .inl (cW, 2048, .inl (fun _ => 0)))]) (w1 := [(aR, .inr (2, [.ref aM, .ref aA, .ref aB, .int 0])), (aA, .inl (cA, 8, .inl regs2_3))]) hP hD [0, 1] [2, 3] rfl rfl (by decide) (by decide) hk1 hFc hP1 hD1
  have hP : va_P (dC, dI) vwCl [(aM, .inr (1, [.ref aW, .ref aT, .int 0])), (aW, .inl (cW, 2048, .inl (fun _ => 0))), (aR, .inr (2, [.ref aM, .ref aA, .ref aB, .int 0])), (aA, .inl (cA, 8, .inl regs2_3))] H := hP
  have hD : va_D A [(aM, .inr (1, [.ref aW, .ref aT, .int 0])), (aW, .inl (cW, 2048, .inl (fun _ => 0))), (aR, .inr (2, [.ref aM, .ref aA, .ref aB, .int 0])), (aA, .inl (cA, 8, .inl regs2_3))] := hD
  refine W.widen (k := 0) (n := 0) (by omega) (by omega) ?_
  try dsimp only at hw_2
  obtain rfl := hw_2
  refine q_toc (y := 0) rfl ?_
  refine lv_ldc (v := 65535) hx hb hown (hts (.constant RX2 46 (65535)) (by decide +kernel)) dX2_takeNext_8 ?_
  have hPc := hP.sub (ws' := [(aR, .inr (2, [.ref aM, .ref aA, .ref aB, .int 0])), (aM, .inr (1, [.ref aW, .ref aT, .int 0])), (aW, .inl (cW, 2048, .inl (fun _ => 0)))]) [2, 0, 1] rfl
  have hDc := hD.sub (ws' := [(aR, .inr (2, [.ref aM, .ref aA, .ref aB, .int 0])), (aM, .inr (1, [.ref aW, .ref aT, .int 0])), (aW, .inl (cW, 2048, .inl (fun _ => 0)))]) [2, 0, 1] (by decide) rfl
  have hKc := hK.sub (tys' := [(cW, .int)]) [1] rfl
  have hFc := va_free (wc := [(aR, .inr (2, [.ref aM, .ref aA, .ref aB, .int 0])), (aM, .inr (1, [.ref aW, .ref aT, .int 0])), (aW, .inl (cW, 2048, .inl (fun _ => 0)))]) hD hS hA [2, 0, 1] rfl
  refine va_calli (va_runV (C := RX2) (b := aR) (As := [.int 0, .int 65535]) (rest := []) ⟨hx, hb, hml, hown, hts⟩ (c_X2_fetch0 l dC dI H.size aR aM aA aB aW aT cW) (cwV 2 hts gX2_takeNext_X2_fetch rfl rfl rfl (by decide +kernel) ⟨Nat.le_of_ble_eq_true rfl, Nat.le_of_ble_eq_true rfl⟩) ⟨q_blind, va_recv hK hP (ci := 2) (q0 := 2) rfl rfl, fun U hU hW => ⟨rfl, q_pay hU hW hPc hKc hDc hN⟩⟩ rfl rfl hl.1 rfl (lv_room (Nat.le_of_ble_eq_true rfl)) dX2_takeNext_10 ⟨show 0 + 0 ≤ 0 from by omega, show 0 + 0 ≤ 0 from by omega⟩) hS (fun q _ h => hFc q h) hFc (fun r_4 u9 t H locs ht hvm hw_5 hB hz1 hk1 hS => ?_)
  obtain ⟨hP1, hK1, hD1⟩ := hB
  rw [ht] at hP1
  obtain ⟨hP, hD⟩ := va_join (wr := [(aA, .inl (cA, 8, .inl regs2_3))]) (w1 := [(aR, .inr (2, [.ref aM, .ref aA, .ref aB, .int 0])), (aM, .inr (1, [.ref aW, .ref aT, .int 0])), (aW, .inl (cW, 2048, .inl (fun _ => 0)))]) hP hD [2, 0, 1] [3] rfl rfl (by decide) (by decide) hk1 hFc hP1 hD1
  have hP : va_P (dC, dI) vwCl [(aA, .inl (cA, 8, .inl regs2_3)), (aR, .inr (2, [.ref aM, .ref aA, .ref aB, .int 0])), (aM, .inr (1, [.ref aW, .ref aT, .int 0])), (aW, .inl (cW, 2048, .inl (fun _ => 0)))] H := hP
  have hD : va_D A [(aA, .inl (cA, 8, .inl regs2_3)), (aR, .inr (2, [.ref aM, .ref aA, .ref aB, .int 0])), (aM, .inr (1, [.ref aW, .ref aT, .int 0])), (aW, .inl (cW, 2048, .inl (fun _ => 0)))] := hD
  refine W.widen (k := 0) (n := 0) (by omega) (by omega) ?_
  try dsimp only at hw_5
  obtain rfl := hw_5
  refine q_toc (y := 0) (by first | rfl | decide) ?_
  have hP9 := hP.sub (ws' := [(aR, .inr (2, [.ref aM, .ref aA, .ref aB, .int 0])), (aA, .inl (cA, 8, .inl regs2_3)), (aM, .inr (1, [.ref aW, .ref aT, .int 0])), (aW, .inl (cW, 2048, .inl (fun _ => 0)))]) [1, 0, 2, 3] rfl
  have hD9 := hD.sub (ws' := [(aR, .inr (2, [.ref aM, .ref aA, .ref aB, .int 0])), (aA, .inl (cA, 8, .inl regs2_3)), (aM, .inr (1, [.ref aW, .ref aT, .int 0])), (aW, .inl (cW, 2048, .inl (fun _ => 0)))]) [1, 0, 2, 3] (by decide) rfl
  have hK9 := hK.sub (tys' := [(cA, .int), (cW, .int)]) [0, 1] rfl
  exact W.iret (v := 0) hx hb hr (fun t ht hW => ⟨⟨0, regs2_3, rfl, rfl, by rw [ht]; exact hP9, va_K.moved hW.alike hK9, hD9⟩, hS.F ht⟩) hS.2.2 dX2_takeNext_13
