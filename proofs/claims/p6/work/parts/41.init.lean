set_option maxHeartbeats 4000000 in
set_option maxRecDepth 100000 in
theorem c_X0_init (l : Launch) (dC : Nat → ClassId) (dI : Nat → Nat → Nat) (sz : Nat) (aF : Nat)  : Met l yX0_init wsX0_init ({ frames := 1, cells := 0, slots := 0, locals := 12 }) (va_Pc [.ref aF] (q_pre dC dI sz [(aF, .inr (0, [.int 0, .int 0, .int 0, .int 0]))] [])) (va_Qv (fun (u9 : Unit) => True) (q_at dC dI (va_A [(aF, .inr (0, [.int 0, .int 0, .int 0, .int 0]))] sz) (fun (u9 : Unit) => []) (fun (u9 : Unit) => [(aF, .inr (0, [.int 0, .int 0, .int 0, .int 0]))])) (va_A [(aF, .inr (0, [.int 0, .int 0, .int 0, .int 0]))] sz)) 0 0 (va_A [(aF, .inr (0, [.int 0, .int 0, .int 0, .int 0]))] sz) := by
  refine Met.ofW (cc := cX0_init) (maxL := 1) (ret := none) (by decide) rfl ?_
  intro p e s m args below meth c s₁ B hml hv
  obtain ⟨rfl, hsz, hP, hK, hD0, hN⟩ := hv
  have hx := B.exec
  have hb := B.bytes
  have hr := B.returns
  have hts := atoms_spec (ws := wsX0_init) B.pre
  have hown : s.vm.findClass RX0 = some m.cls := findClass_of_methodNamed B.named
  have hlocks := B.notSynchronized
  have hin : meth.name = "<init>" := (name_of_methodNamed B.named B.method).1
  subst hsz
  have hD := hD0.self (sz := s.heap.size)
  generalize hAe : va_A [(aF, .inr (0, [.int 0, .int 0, .int 0, .int 0]))] s.heap.size = A at hD ⊢
  have hA : ∀ q : Nat, s.heap.size ≤ q → A q := fun q h => by rw [← hAe]; exact Or.inr h
  have hS : va_S A s.heap s.heap [] := va_S.rf
  have hP : va_P (dC, dI) vwCl [(aF, .inr (0, [.int 0, .int 0, .int 0, .int 0]))] s.heap := hP
  have hl := lv_entry ([.ref aF]) (n := 1) (Nat.le_of_ble_eq_true rfl)
  rw [lg_entry_eq]
  generalize (lg_sl ([.ref aF]) ++ List.replicate (1 - (lg_sl ([.ref aF])).length) Slot.unset).toArray = ls at hl ⊢
  have hl : lv_has ls 1 [(0, .ref aF)] := hl
  refine lv_aload_n hx hb dX0_init_0 rfl (lv_at hl 0 rfl) ?_
  refine W.objInit hx hb hown (hts (.methodLink RX0 1 objectInit) (by decide +kernel)) (hts (.instanceMethod objectInit) (by decide +kernel)) (hts (.code objectInit ⟨#[0xb1]⟩ 1 none) (by decide +kernel)) rfl (by rw [hml]; exact hl.1) rfl dX0_init_1 (Nat.le_of_ble_eq_true rfl) (Nat.le_of_ble_eq_true rfl) ?_
  refine W.eq (g2 := F0 m 4 ls []) rfl ?_
  have hP9 := hP.sub (ws' := [(aF, .inr (0, [.int 0, .int 0, .int 0, .int 0]))]) [0] rfl
  have hD9 := hD.sub (ws' := [(aF, .inr (0, [.int 0, .int 0, .int 0, .int 0]))]) [0] (by decide) rfl
  have hK9 := hK.sub (tys' := []) [] rfl
  exact W.vret hx hb hr (fun t ht hW => ⟨⟨(), rfl, trivial, by rw [ht]; exact hP9, va_K.moved hW.alike hK9, hD9⟩, hS.F ht⟩) hS.2.2 dX0_init_4
set_option maxHeartbeats 4000000 in
set_option maxRecDepth 100000 in
theorem c_X1_init (l : Launch) (dC : Nat → ClassId) (dI : Nat → Nat → Nat) (sz : Nat) (aM : Nat)  : Met l yX1_init wsX1_init ({ frames := 1, cells := 2, slots := 2448, locals := 12 }) (va_Pc [.ref aM] (q_pre dC dI sz [(aM, .inr (1, [.null, .null, .int 0]))] [])) (va_Qv (fun (u9 : Nat × Nat × ClassId × ClassId) => True) (q_at dC dI (va_A [(aM, .inr (1, [.null, .null, .int 0]))] sz) (fun (u9 : Nat × Nat × ClassId × ClassId) => [(u9.2.2.1, .int), (u9.2.2.2, .int)]) (fun (u9 : Nat × Nat × ClassId × ClassId) => [(aM, .inr (1, [.ref u9.1, .ref u9.2.1, .int 0])), (u9.1, .inl (u9.2.2.1, 2048, .inl (fun _ => 0))), (u9.2.1, .inl (u9.2.2.2, 400, .inl (fun _ => 0)))])) (va_A [(aM, .inr (1, [.null, .null, .int 0]))] sz)) 2 2448 (va_A [(aM, .inr (1, [.null, .null, .int 0]))] sz) := by
  refine Met.ofW (cc := cX1_init) (maxL := 1) (ret := none) (by decide) rfl ?_
  intro p e s m args below meth c s₁ B hml hv
  obtain ⟨rfl, hsz, hP, hK, hD0, hN⟩ := hv
  have hx := B.exec
  have hb := B.bytes
  have hr := B.returns
  have hts := atoms_spec (ws := wsX1_init) B.pre
  have hown : s.vm.findClass RX1 = some m.cls := findClass_of_methodNamed B.named
  have hlocks := B.notSynchronized
  have hin : meth.name = "<init>" := (name_of_methodNamed B.named B.method).1
  subst hsz
  have hD := hD0.self (sz := s.heap.size)
  generalize hAe : va_A [(aM, .inr (1, [.null, .null, .int 0]))] s.heap.size = A at hD ⊢
  have hA : ∀ q : Nat, s.heap.size ≤ q → A q := fun q h => by rw [← hAe]; exact Or.inr h
  have hS : va_S A s.heap s.heap [] := va_S.rf
  have hP : va_P (dC, dI) vwCl [(aM, .inr (1, [.null, .null, .int 0]))] s.heap := hP
  have hl := lv_entry ([.ref aM]) (n := 1) (Nat.le_of_ble_eq_true rfl)
  rw [lg_entry_eq]
  generalize (lg_sl ([.ref aM]) ++ List.replicate (1 - (lg_sl ([.ref aM])).length) Slot.unset).toArray = ls at hl ⊢
  have hl : lv_has ls 1 [(0, .ref aM)] := hl
  refine lv_aload_n hx hb dX1_init_0 rfl (lv_at hl 0 rfl) ?_
  refine W.objInit hx hb hown (hts (.methodLink RX1 3 objectInit) (by decide +kernel)) (hts (.instanceMethod objectInit) (by decide +kernel)) (hts (.code objectInit ⟨#[0xb1]⟩ 1 none) (by decide +kernel)) rfl (by rw [hml]; exact hl.1) rfl dX1_init_1 (Nat.le_of_ble_eq_true rfl) (Nat.le_of_ble_eq_true rfl) ?_
  refine W.eq (g2 := F0 m 4 ls []) rfl ?_
  refine lv_aload_n hx hb dX1_init_4 rfl (lv_at hl 0 rfl) ?_
  refine lv_sipush (v := 2048) hx hb dX1_init_5 (by decide) ?_
  refine va_newa (atype := .int) (a0 := (2048, .inl (fun _ => 0))) (N' := 2048) (ty := .int) hx hb (hts (.arrayClass .int) (by decide +kernel)) rfl hK hP hD hS hA (fun _ => q_zi _ _) (by decide) (by decide) (by decide) (show 0 + 1 ≤ 2 from by omega) (show 0 + 2048 ≤ 2448 from by omega) dX1_init_8 (fun q_1 cA_2 H hK hP hD hS => ?_)
  have hP : va_P (dC, dI) vwCl [(aM, .inr (1, [.null, .null, .int 0])), (q_1, .inl (cA_2, 2048, .inl (fun _ => 0)))] H := hP
  have hD : va_D A [(aM, .inr (1, [.null, .null, .int 0])), (q_1, .inl (cA_2, 2048, .inl (fun _ => 0)))] := hD
  have hK : va_K (dC, dI) vwCl [(cA_2, .int)] s := hK
  refine W.widen (k := 1) (n := 2048) (by omega) (by omega) ?_
  refine va_putF (D := (dC, dI)) (ci := 1) (v := .ref q_1) (ty := .array .int) (C := RX1) (T := TX1) (N := 3) hx hb hts (by decide +kernel) tyX1 tyX1_ok nmX1 hown hK hP hD hS 0 rfl rfl 0 (by decide) (hts (.fieldLink RX1 9 "WordGuest$Memory" "words" "[I") (by decide +kernel)) (fun _ h9 => h9) rfl hin rfl (by decide +kernel) rfl rfl (Nat.le_of_ble_eq_true rfl) dX1_init_10 (fun H locs hP hD hS => ?_)
  have hP : va_P (dC, dI) vwCl [(aM, .inr (1, [.ref q_1, .null, .int 0])), (q_1, .inl (cA_2, 2048, .inl (fun _ => 0)))] H := hP
  have hD : va_D A [(aM, .inr (1, [.ref q_1, .null, .int 0])), (q_1, .inl (cA_2, 2048, .inl (fun _ => 0)))] := hD
  refine lv_aload_n hx hb dX1_init_13 rfl (lv_at hl 0 rfl) ?_
  refine lv_sipush (v := 400) hx hb dX1_init_14 (by decide) ?_
  refine va_newa (atype := .int) (a0 := (400, .inl (fun _ => 0))) (N' := 400) (ty := .int) hx hb (hts (.arrayClass .int) (by decide +kernel)) rfl hK hP hD hS hA (fun _ => q_zi _ _) (by decide) (by decide) (by decide) (show 1 + 1 ≤ 2 from by omega) (show 2048 + 400 ≤ 2448 from by omega) dX1_init_17 (fun q_3 cA_4 H hK hP hD hS => ?_)
  have hP : va_P (dC, dI) vwCl [(aM, .inr (1, [.ref q_1, .null, .int 0])), (q_1, .inl (cA_2, 2048, .inl (fun _ => 0))), (q_3, .inl (cA_4, 400, .inl (fun _ => 0)))] H := hP
  have hD : va_D A [(aM, .inr (1, [.ref q_1, .null, .int 0])), (q_1, .inl (cA_2, 2048, .inl (fun _ => 0))), (q_3, .inl (cA_4, 400, .inl (fun _ => 0)))] := hD
  have hK : va_K (dC, dI) vwCl [(cA_2, .int), (cA_4, .int)] s := hK
  refine W.widen (k := 2) (n := 2448) (by omega) (by omega) ?_
  refine va_putF (D := (dC, dI)) (ci := 1) (v := .ref q_3) (ty := .array .int) (C := RX1) (T := TX1) (N := 3) hx hb hts (by decide +kernel) tyX1 tyX1_ok nmX1 hown hK hP hD hS 0 rfl rfl 1 (by decide) (hts (.fieldLink RX1 15 "WordGuest$Memory" "told" "[I") (by decide +kernel)) (fun _ h9 => h9) rfl hin rfl (by decide +kernel) rfl rfl (Nat.le_of_ble_eq_true rfl) dX1_init_19 (fun H locs hP hD hS => ?_)
  have hP : va_P (dC, dI) vwCl [(aM, .inr (1, [.ref q_1, .ref q_3, .int 0])), (q_1, .inl (cA_2, 2048, .inl (fun _ => 0))), (q_3, .inl (cA_4, 400, .inl (fun _ => 0)))] H := hP
  have hD : va_D A [(aM, .inr (1, [.ref q_1, .ref q_3, .int 0])), (q_1, .inl (cA_2, 2048, .inl (fun _ => 0))), (q_3, .inl (cA_4, 400, .inl (fun _ => 0)))] := hD
  have hP9 := hP.sub (ws' := [(aM, .inr (1, [.ref q_1, .ref q_3, .int 0])), (q_1, .inl (cA_2, 2048, .inl (fun _ => 0))), (q_3, .inl (cA_4, 400, .inl (fun _ => 0)))]) [0, 1, 2] rfl
  have hD9 := hD.sub (ws' := [(aM, .inr (1, [.ref q_1, .ref q_3, .int 0])), (q_1, .inl (cA_2, 2048, .inl (fun _ => 0))), (q_3, .inl (cA_4, 400, .inl (fun _ => 0)))]) [0, 1, 2] (by decide) rfl
  have hK9 := hK.sub (tys' := [(cA_2, .int), (cA_4, .int)]) [0, 1] rfl
  exact W.vret hx hb hr (fun t ht hW => ⟨⟨(q_1, q_3, cA_2, cA_4), rfl, trivial, by rw [ht]; exact hP9, va_K.moved hW.alike hK9, hD9⟩, hS.F ht⟩) hS.2.2 dX1_init_22
set_option maxHeartbeats 4000000 in
set_option maxRecDepth 100000 in
theorem c_X2_init (l : Launch) (dC : Nat → ClassId) (dI : Nat → Nat → Nat) (sz : Nat) (aR : Nat) (aM : Nat)  : Met l yX2_init wsX2_init ({ frames := 1, cells := 2, slots := 16, locals := 12 }) (va_Pc [.ref aR, .ref aM] (q_pre dC dI sz [(aR, .inr (2, [.null, .null, .null, .int 0]))] [])) (va_Qv (fun (u9 : Nat × Nat × ClassId × ClassId) => True) (q_at dC dI (va_A [(aR, .inr (2, [.null, .null, .null, .int 0]))] sz) (fun (u9 : Nat × Nat × ClassId × ClassId) => [(u9.2.2.1, .int), (u9.2.2.2, .int)]) (fun (u9 : Nat × Nat × ClassId × ClassId) => [(aR, .inr (2, [.ref aM, .ref u9.1, .ref u9.2.1, .int 0])), (u9.1, .inl (u9.2.2.1, 8, .inl (fun _ => 0))), (u9.2.1, .inl (u9.2.2.2, 8, .inl (fun _ => 0)))])) (va_A [(aR, .inr (2, [.null, .null, .null, .int 0]))] sz)) 2 16 (va_A [(aR, .inr (2, [.null, .null, .null, .int 0]))] sz) := by
  refine Met.ofW (cc := cX2_init) (maxL := 2) (ret := none) (by decide) rfl ?_
  intro p e s m args below meth c s₁ B hml hv
  obtain ⟨rfl, hsz, hP, hK, hD0, hN⟩ := hv
  have hx := B.exec
  have hb := B.bytes
  have hr := B.returns
  have hts := atoms_spec (ws := wsX2_init) B.pre
  have hown : s.vm.findClass RX2 = some m.cls := findClass_of_methodNamed B.named
  have hlocks := B.notSynchronized
  have hin : meth.name = "<init>" := (name_of_methodNamed B.named B.method).1
  subst hsz
  have hD := hD0.self (sz := s.heap.size)
  generalize hAe : va_A [(aR, .inr (2, [.null, .null, .null, .int 0]))] s.heap.size = A at hD ⊢
  have hA : ∀ q : Nat, s.heap.size ≤ q → A q := fun q h => by rw [← hAe]; exact Or.inr h
  have hS : va_S A s.heap s.heap [] := va_S.rf
  have hP : va_P (dC, dI) vwCl [(aR, .inr (2, [.null, .null, .null, .int 0]))] s.heap := hP
  have hl := lv_entry ([.ref aR, .ref aM]) (n := 2) (Nat.le_of_ble_eq_true rfl)
  rw [lg_entry_eq]
  generalize (lg_sl ([.ref aR, .ref aM]) ++ List.replicate (2 - (lg_sl ([.ref aR, .ref aM])).length) Slot.unset).toArray = ls at hl ⊢
  have hl : lv_has ls 2 [(0, .ref aR), (1, .ref aM)] := hl
  refine lv_aload_n hx hb dX2_init_0 rfl (lv_at hl 0 rfl) ?_
  refine W.objInit hx hb hown (hts (.methodLink RX2 3 objectInit) (by decide +kernel)) (hts (.instanceMethod objectInit) (by decide +kernel)) (hts (.code objectInit ⟨#[0xb1]⟩ 1 none) (by decide +kernel)) rfl (by rw [hml]; exact hl.1) rfl dX2_init_1 (Nat.le_of_ble_eq_true rfl) (Nat.le_of_ble_eq_true rfl) ?_
  refine W.eq (g2 := F0 m 4 ls []) rfl ?_
  refine lv_aload_n hx hb dX2_init_4 rfl (lv_at hl 0 rfl) ?_
  refine lv_bipush (v := 8) hx hb dX2_init_5 (by decide) ?_
  refine va_newa (atype := .int) (a0 := (8, .inl (fun _ => 0))) (N' := 8) (ty := .int) hx hb (hts (.arrayClass .int) (by decide +kernel)) rfl hK hP hD hS hA (fun _ => q_zi _ _) (by decide) (by decide) (by decide) (show 0 + 1 ≤ 2 from by omega) (show 0 + 8 ≤ 16 from by omega) dX2_init_7 (fun q_1 cA_2 H hK hP hD hS => ?_)
  have hP : va_P (dC, dI) vwCl [(aR, .inr (2, [.null, .null, .null, .int 0])), (q_1, .inl (cA_2, 8, .inl (fun _ => 0)))] H := hP
  have hD : va_D A [(aR, .inr (2, [.null, .null, .null, .int 0])), (q_1, .inl (cA_2, 8, .inl (fun _ => 0)))] := hD
  have hK : va_K (dC, dI) vwCl [(cA_2, .int)] s := hK
  refine W.widen (k := 1) (n := 8) (by omega) (by omega) ?_
  refine va_putF (D := (dC, dI)) (ci := 2) (v := .ref q_1) (ty := .array .int) (C := RX2) (T := TX2) (N := 4) hx hb hts (by decide +kernel) tyX2 tyX2_ok nmX2 hown hK hP hD hS 0 rfl rfl 1 (by decide) (hts (.fieldLink RX2 9 "WordGuest$Parts" "registers" "[I") (by decide +kernel)) (fun _ h9 => h9) rfl hin rfl (by decide +kernel) rfl rfl (Nat.le_of_ble_eq_true rfl) dX2_init_9 (fun H locs hP hD hS => ?_)
  have hP : va_P (dC, dI) vwCl [(aR, .inr (2, [.null, .ref q_1, .null, .int 0])), (q_1, .inl (cA_2, 8, .inl (fun _ => 0)))] H := hP
  have hD : va_D A [(aR, .inr (2, [.null, .ref q_1, .null, .int 0])), (q_1, .inl (cA_2, 8, .inl (fun _ => 0)))] := hD
  refine lv_aload_n hx hb dX2_init_12 rfl (lv_at hl 0 rfl) ?_
  refine lv_bipush (v := 8) hx hb dX2_init_13 (by decide) ?_
  refine va_newa (atype := .int) (a0 := (8, .inl (fun _ => 0))) (N' := 8) (ty := .int) hx hb (hts (.arrayClass .int) (by decide +kernel)) rfl hK hP hD hS hA (fun _ => q_zi _ _) (by decide) (by decide) (by decide) (show 1 + 1 ≤ 2 from by omega) (show 8 + 8 ≤ 16 from by omega) dX2_init_15 (fun q_3 cA_4 H hK hP hD hS => ?_)
  have hP : va_P (dC, dI) vwCl [(aR, .inr (2, [.null, .ref q_1, .null, .int 0])), (q_1, .inl (cA_2, 8, .inl (fun _ => 0))), (q_3, .inl (cA_4, 8, .inl (fun _ => 0)))] H := hP
  have hD : va_D A [(aR, .inr (2, [.null, .ref q_1, .null, .int 0])), (q_1, .inl (cA_2, 8, .inl (fun _ => 0))), (q_3, .inl (cA_4, 8, .inl (fun _ => 0)))] := hD
  have hK : va_K (dC, dI) vwCl [(cA_2, .int), (cA_4, .int)] s := hK
  refine W.widen (k := 2) (n := 16) (by omega) (by omega) ?_
  refine va_putF (D := (dC, dI)) (ci := 2) (v := .ref q_3) (ty := .array .int) (C := RX2) (T := TX2) (N := 4) hx hb hts (by decide +kernel) tyX2 tyX2_ok nmX2 hown hK hP hD hS 0 rfl rfl 2 (by decide) (hts (.fieldLink RX2 15 "WordGuest$Parts" "registersBefore" "[I") (by decide +kernel)) (fun _ h9 => h9) rfl hin rfl (by decide +kernel) rfl rfl (Nat.le_of_ble_eq_true rfl) dX2_init_17 (fun H locs hP hD hS => ?_)
  have hP : va_P (dC, dI) vwCl [(aR, .inr (2, [.null, .ref q_1, .ref q_3, .int 0])), (q_1, .inl (cA_2, 8, .inl (fun _ => 0))), (q_3, .inl (cA_4, 8, .inl (fun _ => 0)))] H := hP
  have hD : va_D A [(aR, .inr (2, [.null, .ref q_1, .ref q_3, .int 0])), (q_1, .inl (cA_2, 8, .inl (fun _ => 0))), (q_3, .inl (cA_4, 8, .inl (fun _ => 0)))] := hD
  refine lv_aload_n hx hb dX2_init_20 rfl (lv_at hl 0 rfl) ?_
  refine lv_aload_n hx hb dX2_init_21 rfl (lv_at hl 1 rfl) ?_
  refine va_putF (D := (dC, dI)) (ci := 2) (v := .ref aM) (ty := .object "WordGuest$Memory") (C := RX2) (T := TX2) (N := 4) hx hb hts (by decide +kernel) tyX2 tyX2_ok nmX2 hown hK hP hD hS 0 rfl rfl 0 (by decide) (hts (.fieldLink RX2 18 "WordGuest$Parts" "memory" "LWordGuest$Memory;") (by decide +kernel)) (fun _ h9 => h9) rfl hin rfl (by decide +kernel) rfl rfl (Nat.le_of_ble_eq_true rfl) dX2_init_22 (fun H locs hP hD hS => ?_)
  have hP : va_P (dC, dI) vwCl [(aR, .inr (2, [.ref aM, .ref q_1, .ref q_3, .int 0])), (q_1, .inl (cA_2, 8, .inl (fun _ => 0))), (q_3, .inl (cA_4, 8, .inl (fun _ => 0)))] H := hP
  have hD : va_D A [(aR, .inr (2, [.ref aM, .ref q_1, .ref q_3, .int 0])), (q_1, .inl (cA_2, 8, .inl (fun _ => 0))), (q_3, .inl (cA_4, 8, .inl (fun _ => 0)))] := hD
  have hP9 := hP.sub (ws' := [(aR, .inr (2, [.ref aM, .ref q_1, .ref q_3, .int 0])), (q_1, .inl (cA_2, 8, .inl (fun _ => 0))), (q_3, .inl (cA_4, 8, .inl (fun _ => 0)))]) [0, 1, 2] rfl
  have hD9 := hD.sub (ws' := [(aR, .inr (2, [.ref aM, .ref q_1, .ref q_3, .int 0])), (q_1, .inl (cA_2, 8, .inl (fun _ => 0))), (q_3, .inl (cA_4, 8, .inl (fun _ => 0)))]) [0, 1, 2] (by decide) rfl
  have hK9 := hK.sub (tys' := [(cA_2, .int), (cA_4, .int)]) [0, 1] rfl
  exact W.vret hx hb hr (fun t ht hW => ⟨⟨(q_1, q_3, cA_2, cA_4), rfl, trivial, by rw [ht]; exact hP9, va_K.moved hW.alike hK9, hD9⟩, hS.F ht⟩) hS.2.2 dX2_init_25
set_option maxHeartbeats 4000000 in
set_option maxRecDepth 100000 in
theorem c_X3_init (l : Launch) (dC : Nat → ClassId) (dI : Nat → Nat → Nat) (sz : Nat) (aP : Nat) (aM : Nat)  : Met l yX3_init wsX3_init ({ frames := 2, cells := 4, slots := 24, locals := 33 }) (va_Pc [.ref aP, .ref aM] (q_pre dC dI sz [(aP, .inr (3, [.null, .null]))] [])) (va_Qv (fun (u9 : Nat × Nat × Nat × Nat × ClassId × ClassId) => True) (q_at dC dI (va_A [(aP, .inr (3, [.null, .null]))] sz) (fun (u9 : Nat × Nat × Nat × Nat × ClassId × ClassId) => [(u9.2.2.2.2.1, .int), (u9.2.2.2.2.2, .int)]) (fun (u9 : Nat × Nat × Nat × Nat × ClassId × ClassId) => [(aP, .inr (3, [.ref u9.1, .ref u9.2.1])), (u9.1, .inr (2, [.ref aM, .ref u9.2.2.1, .ref u9.2.2.2.1, .int 0])), (u9.2.2.1, .inl (u9.2.2.2.2.1, 8, .inl (fun _ => 0))), (u9.2.2.2.1, .inl (u9.2.2.2.2.2, 8, .inl (fun _ => 0))), (u9.2.1, .inr (0, [.int 0, .int 0, .int 0, .int 0]))])) (va_A [(aP, .inr (3, [.null, .null]))] sz)) 4 24 (va_A [(aP, .inr (3, [.null, .null]))] sz) := by
  refine Met.ofW (cc := cX3_init) (maxL := 2) (ret := none) (by decide) rfl ?_
  intro p e s m args below meth c s₁ B hml hv
  obtain ⟨rfl, hsz, hP, hK, hD0, hN⟩ := hv
  have hx := B.exec
  have hb := B.bytes
  have hr := B.returns
  have hts := atoms_spec (ws := wsX3_init) B.pre
  have hown : s.vm.findClass RX3 = some m.cls := findClass_of_methodNamed B.named
  have hlocks := B.notSynchronized
  have hin : meth.name = "<init>" := (name_of_methodNamed B.named B.method).1
  subst hsz
  have hD := hD0.self (sz := s.heap.size)
  generalize hAe : va_A [(aP, .inr (3, [.null, .null]))] s.heap.size = A at hD ⊢
  have hA : ∀ q : Nat, s.heap.size ≤ q → A q := fun q h => by rw [← hAe]; exact Or.inr h
  have hS : va_S A s.heap s.heap [] := va_S.rf
  have hP : va_P (dC, dI) vwCl [(aP, .inr (3, [.null, .null]))] s.heap := hP
  have hl := lv_entry ([.ref aP, .ref aM]) (n := 2) (Nat.le_of_ble_eq_true rfl)
  rw [lg_entry_eq]
  generalize (lg_sl ([.ref aP, .ref aM]) ++ List.replicate (2 - (lg_sl ([.ref aP, .ref aM])).length) Slot.unset).toArray = ls at hl ⊢
  have hl : lv_has ls 2 [(0, .ref aP), (1, .ref aM)] := hl
  refine lv_aload_n hx hb dX3_init_0 rfl (lv_at hl 0 rfl) ?_
  refine W.objInit hx hb hown (hts (.methodLink RX3 3 objectInit) (by decide +kernel)) (hts (.instanceMethod objectInit) (by decide +kernel)) (hts (.code objectInit ⟨#[0xb1]⟩ 1 none) (by decide +kernel)) rfl (by rw [hml]; exact hl.1) rfl dX3_init_1 (Nat.le_of_ble_eq_true rfl) (Nat.le_of_ble_eq_true rfl) ?_
  refine W.eq (g2 := F0 m 4 ls []) rfl ?_
  refine lv_aload_n hx hb dX3_init_4 rfl (lv_at hl 0 rfl) ?_
  refine va_new (ci := 0) (fs := [.int 0, .int 0, .int 0, .int 0]) (C := RX0) (T := TX0) (N := 4) hx hb hts (by decide +kernel) tyX0 tyX0_ok hown (hts (.classLink RX3 9 RX0) (by decide +kernel)) (hts (.instantiable RX0 4) (by decide +kernel)) (hts (.initialized RX0) (by decide +kernel)) hK hP hD hS hA rfl (fun j hj => by rcases (show j = 0 ∨ j = 1 ∨ j = 2 ∨ j = 3 by omega) with rfl | rfl | rfl | rfl <;> rfl) (show 0 + 1 ≤ 4 from by omega) (show 0 + 4 ≤ 24 from by omega) dX3_init_5 (fun q_1 H hP hD hS => ?_)
  have hP : va_P (dC, dI) vwCl [(aP, .inr (3, [.null, .null])), (q_1, .inr (0, [.int 0, .int 0, .int 0, .int 0]))] H := hP
  have hD : va_D A [(aP, .inr (3, [.null, .null])), (q_1, .inr (0, [.int 0, .int 0, .int 0, .int 0]))] := hD
  refine W.widen (k := 1) (n := 4) (by omega) (by omega) ?_
  refine lv_dup hx hb dX3_init_8 rfl ?_
  have hPc := hP.sub (ws' := [(q_1, .inr (0, [.int 0, .int 0, .int 0, .int 0]))]) [1] rfl
  have hDc := hD.sub (ws' := [(q_1, .inr (0, [.int 0, .int 0, .int 0, .int 0]))]) [1] (by decide) rfl
  have hKc := hK.sub (tys' := []) [] rfl
  have hFc := va_free (wc := [(q_1, .inr (0, [.int 0, .int 0, .int 0, .int 0]))]) hD hS hA [1] rfl
  refine va_callv (va_runIN (b := q_1) (As := []) (rest := [.ref q_1, .ref aP]) ⟨hx, hb, hml, hown, hts⟩ (c_X0_init l dC dI H.size q_1) ⟨va_cnB 0 hts gX3_init_X0_init_n11 rfl rfl rfl (hN _ (List.mem_of_getElem? (i := 3) rfl)) (hts (.initialized RX0) (by decide +kernel)) (by decide +kernel) ⟨Nat.le_of_ble_eq_true rfl, Nat.le_of_ble_eq_true rfl⟩, rfl, hts (.instanceMethod yX0_init) (by decide +kernel)⟩ ⟨q_blind, fun U hU hW => ⟨rfl, q_pay hU hW hPc hKc hDc hN⟩⟩ rfl rfl hl.1 rfl (lv_room (Nat.le_of_ble_eq_true rfl)) dX3_init_9 ⟨show 1 + 0 ≤ 4 from by omega, show 4 + 0 ≤ 24 from by omega⟩) hS (fun q _ h => hFc q h) hFc (fun u9 t H locs ht hvm hw_3 hB hz1 hk1 hS => ?_)
  obtain ⟨hP1, hK1, hD1⟩ := hB
  rw [ht] at hP1
  obtain ⟨hP, hD⟩ := va_join (wr := [(aP, .inr (3, [.null, .null]))]) (w1 := [(q_1, .inr (0, [.int 0, .int 0, .int 0, .int 0]))]) hP hD [1] [0] rfl rfl (by decide) (by decide) hk1 hFc hP1 hD1
  have hP : va_P (dC, dI) vwCl [(aP, .inr (3, [.null, .null])), (q_1, .inr (0, [.int 0, .int 0, .int 0, .int 0]))] H := hP
  have hD : va_D A [(aP, .inr (3, [.null, .null])), (q_1, .inr (0, [.int 0, .int 0, .int 0, .int 0]))] := hD
  refine W.widen (k := 1) (n := 4) (by omega) (by omega) ?_
  try dsimp only at hw_3
  refine va_putF (D := (dC, dI)) (ci := 3) (v := .ref q_1) (ty := .object "WordGuest$Flags") (C := RX3) (T := TX3) (N := 2) hx hb hts (by decide +kernel) tyX3 tyX3_ok nmX3 hown hK hP hD hS 0 rfl rfl 1 (by decide) (hts (.fieldLink RX3 12 "WordGuest$Processor" "conditions" "LWordGuest$Flags;") (by decide +kernel)) (fun _ h9 => h9) rfl hin rfl (by decide +kernel) rfl rfl (Nat.le_of_ble_eq_true rfl) dX3_init_12 (fun H locs hP hD hS => ?_)
  have hP : va_P (dC, dI) vwCl [(aP, .inr (3, [.null, .ref q_1])), (q_1, .inr (0, [.int 0, .int 0, .int 0, .int 0]))] H := hP
  have hD : va_D A [(aP, .inr (3, [.null, .ref q_1])), (q_1, .inr (0, [.int 0, .int 0, .int 0, .int 0]))] := hD
  refine lv_aload_n hx hb dX3_init_15 rfl (lv_at hl 0 rfl) ?_
  refine va_new (ci := 2) (fs := [.null, .null, .null, .int 0]) (C := RX2) (T := TX2) (N := 4) hx hb hts (by decide +kernel) tyX2 tyX2_ok hown (hts (.classLink RX3 18 RX2) (by decide +kernel)) (hts (.instantiable RX2 4) (by decide +kernel)) (hts (.initialized RX2) (by decide +kernel)) hK hP hD hS hA rfl (fun j hj => by rcases (show j = 0 ∨ j = 1 ∨ j = 2 ∨ j = 3 by omega) with rfl | rfl | rfl | rfl <;> rfl) (show 1 + 1 ≤ 4 from by omega) (show 4 + 4 ≤ 24 from by omega) dX3_init_16 (fun q_4 H hP hD hS => ?_)
  have hP : va_P (dC, dI) vwCl [(aP, .inr (3, [.null, .ref q_1])), (q_1, .inr (0, [.int 0, .int 0, .int 0, .int 0])), (q_4, .inr (2, [.null, .null, .null, .int 0]))] H := hP
  have hD : va_D A [(aP, .inr (3, [.null, .ref q_1])), (q_1, .inr (0, [.int 0, .int 0, .int 0, .int 0])), (q_4, .inr (2, [.null, .null, .null, .int 0]))] := hD
  refine W.widen (k := 2) (n := 8) (by omega) (by omega) ?_
  refine lv_dup hx hb dX3_init_19 rfl ?_
  refine lv_aload_n hx hb dX3_init_20 rfl (lv_at hl 1 rfl) ?_
  have hPc := hP.sub (ws' := [(q_4, .inr (2, [.null, .null, .null, .int 0]))]) [2] rfl
  have hDc := hD.sub (ws' := [(q_4, .inr (2, [.null, .null, .null, .int 0]))]) [2] (by decide) rfl
  have hKc := hK.sub (tys' := []) [] rfl
  have hFc := va_free (wc := [(q_4, .inr (2, [.null, .null, .null, .int 0]))]) hD hS hA [2] rfl
  refine va_callv (va_runI (b := q_4) (As := [.ref aM]) (rest := [.ref q_4, .ref aP]) ⟨hx, hb, hml, hown, hts⟩ (c_X2_init l dC dI H.size q_4 aM) (cwI 1 hts gX3_init_X2_init rfl rfl rfl (hts (.initialized RX2) (by decide +kernel)) (hts (.methodLink RX3 20 yX2_init) (by decide +kernel)) (hts (.instanceMethod yX2_init) (by decide +kernel)) rfl (by decide +kernel) ⟨Nat.le_of_ble_eq_true rfl, Nat.le_of_ble_eq_true rfl⟩) ⟨q_blind, fun U hU hW => ⟨rfl, q_pay hU hW hPc hKc hDc hN⟩⟩ rfl rfl hl.1 rfl (lv_room (Nat.le_of_ble_eq_true rfl)) dX3_init_21 ⟨show 2 + 2 ≤ 4 from by omega, show 8 + 16 ≤ 24 from by omega⟩) hS (fun q _ h => hFc q h) hFc (fun u9 t H locs ht hvm hw_6 hB hz1 hk1 hS => ?_)
  obtain ⟨aA_7, aB_8, cA_9, cB_10⟩ := u9
  obtain ⟨hP1, hK1, hD1⟩ := hB
  rw [ht] at hP1
  obtain ⟨hP, hD⟩ := va_join (wr := [(aP, .inr (3, [.null, .ref q_1])), (q_1, .inr (0, [.int 0, .int 0, .int 0, .int 0]))]) (w1 := [(q_4, .inr (2, [.ref aM, .ref aA_7, .ref aB_8, .int 0])), (aA_7, .inl (cA_9, 8, .inl (fun _ => 0))), (aB_8, .inl (cB_10, 8, .inl (fun _ => 0)))]) hP hD [2] [0, 1] rfl rfl (by decide) (by decide) hk1 hFc hP1 hD1
  have hP : va_P (dC, dI) vwCl [(aP, .inr (3, [.null, .ref q_1])), (q_1, .inr (0, [.int 0, .int 0, .int 0, .int 0])), (q_4, .inr (2, [.ref aM, .ref aA_7, .ref aB_8, .int 0])), (aA_7, .inl (cA_9, 8, .inl (fun _ => 0))), (aB_8, .inl (cB_10, 8, .inl (fun _ => 0)))] H := hP
  have hD : va_D A [(aP, .inr (3, [.null, .ref q_1])), (q_1, .inr (0, [.int 0, .int 0, .int 0, .int 0])), (q_4, .inr (2, [.ref aM, .ref aA_7, .ref aB_8, .int 0])), (aA_7, .inl (cA_9, 8, .inl (fun _ => 0))), (aB_8, .inl (cB_10, 8, .inl (fun _ => 0)))] := hD
  have hK := hK.app (va_K.moved hvm.symm hK1)
  have hK : va_K (dC, dI) vwCl [(cA_9, .int), (cB_10, .int)] s := hK
  refine W.widen (k := 4) (n := 24) (by omega) (by omega) ?_
  try dsimp only at hw_6
  refine va_putF (D := (dC, dI)) (ci := 3) (v := .ref q_4) (ty := .object "WordGuest$Parts") (C := RX3) (T := TX3) (N := 2) hx hb hts (by decide +kernel) tyX3 tyX3_ok nmX3 hown hK hP hD hS 0 rfl rfl 0 (by decide) (hts (.fieldLink RX3 23 "WordGuest$Processor" "parts" "LWordGuest$Parts;") (by decide +kernel)) (fun _ h9 => h9) rfl hin rfl (by decide +kernel) rfl rfl (Nat.le_of_ble_eq_true rfl) dX3_init_24 (fun H locs hP hD hS => ?_)
  have hP : va_P (dC, dI) vwCl [(aP, .inr (3, [.ref q_4, .ref q_1])), (q_1, .inr (0, [.int 0, .int 0, .int 0, .int 0])), (q_4, .inr (2, [.ref aM, .ref aA_7, .ref aB_8, .int 0])), (aA_7, .inl (cA_9, 8, .inl (fun _ => 0))), (aB_8, .inl (cB_10, 8, .inl (fun _ => 0)))] H := hP
  have hD : va_D A [(aP, .inr (3, [.ref q_4, .ref q_1])), (q_1, .inr (0, [.int 0, .int 0, .int 0, .int 0])), (q_4, .inr (2, [.ref aM, .ref aA_7, .ref aB_8, .int 0])), (aA_7, .inl (cA_9, 8, .inl (fun _ => 0))), (aB_8, .inl (cB_10, 8, .inl (fun _ => 0)))] := hD
  have hP9 := hP.sub (ws' := [(aP, .inr (3, [.ref q_4, .ref q_1])), (q_4, .inr (2, [.ref aM, .ref aA_7, .ref aB_8, .int 0])), (aA_7, .inl (cA_9, 8, .inl (fun _ => 0))), (aB_8, .inl (cB_10, 8, .inl (fun _ => 0))), (q_1, .inr (0, [.int 0, .int 0, .int 0, .int 0]))]) [0, 2, 3, 4, 1] rfl
  have hD9 := hD.sub (ws' := [(aP, .inr (3, [.ref q_4, .ref q_1])), (q_4, .inr (2, [.ref aM, .ref aA_7, .ref aB_8, .int 0])), (aA_7, .inl (cA_9, 8, .inl (fun _ => 0))), (aB_8, .inl (cB_10, 8, .inl (fun _ => 0))), (q_1, .inr (0, [.int 0, .int 0, .int 0, .int 0]))]) [0, 2, 3, 4, 1] (by decide) rfl
  have hK9 := hK.sub (tys' := [(cA_9, .int), (cB_10, .int)]) [0, 1] rfl
  exact W.vret hx hb hr (fun t ht hW => ⟨⟨(q_4, q_1, aA_7, aB_8, cA_9, cB_10), rfl, trivial, by rw [ht]; exact hP9, va_K.moved hW.alike hK9, hD9⟩, hS.F ht⟩) hS.2.2 dX3_init_27
set_option maxHeartbeats 4000000 in
set_option maxRecDepth 100000 in
theorem c_X4_init (l : Launch) (dC : Nat → ClassId) (dI : Nat → Nat → Nat) (sz : Nat) (g0 : Nat)  : Met l yX4_init wsX4_init ({ frames := 3, cells := 8, slots := 2477, locals := 54 }) (va_Pc [.ref g0] (q_pre dC dI sz [(g0, .inr (4, [.null, .null, .int 0]))] [])) (va_Qv (fun (u9 : Nat × Nat × Nat × Nat × ClassId × ClassId × Nat × Nat × Nat × Nat × ClassId × ClassId) => True) (q_at dC dI (va_A [(g0, .inr (4, [.null, .null, .int 0]))] sz) (fun (u9 : Nat × Nat × Nat × Nat × ClassId × ClassId × Nat × Nat × Nat × Nat × ClassId × ClassId) => [(u9.2.2.2.2.1, .int), (u9.2.2.2.2.2.1, .int), (u9.2.2.2.2.2.2.2.2.2.2.1, .int), (u9.2.2.2.2.2.2.2.2.2.2.2, .int)]) (fun (u9 : Nat × Nat × Nat × Nat × ClassId × ClassId × Nat × Nat × Nat × Nat × ClassId × ClassId) => [(g0, .inr (4, [.ref u9.1, .ref u9.2.1, .int 0])), (u9.1, .inr (1, [.ref u9.2.2.1, .ref u9.2.2.2.1, .int 0])), (u9.2.2.1, .inl (u9.2.2.2.2.1, 2048, .inl (fun _ => 0))), (u9.2.2.2.1, .inl (u9.2.2.2.2.2.1, 400, .inl (fun _ => 0))), (u9.2.1, .inr (3, [.ref u9.2.2.2.2.2.2.1, .ref u9.2.2.2.2.2.2.2.1])), (u9.2.2.2.2.2.2.1, .inr (2, [.ref u9.1, .ref u9.2.2.2.2.2.2.2.2.1, .ref u9.2.2.2.2.2.2.2.2.2.1, .int 0])), (u9.2.2.2.2.2.2.2.2.1, .inl (u9.2.2.2.2.2.2.2.2.2.2.1, 8, .inl (fun _ => 0))), (u9.2.2.2.2.2.2.2.2.2.1, .inl (u9.2.2.2.2.2.2.2.2.2.2.2, 8, .inl (fun _ => 0))), (u9.2.2.2.2.2.2.2.1, .inr (0, [.int 0, .int 0, .int 0, .int 0]))])) (va_A [(g0, .inr (4, [.null, .null, .int 0]))] sz)) 8 2477 (va_A [(g0, .inr (4, [.null, .null, .int 0]))] sz) := by
  refine Met.ofW (cc := cX4_init) (maxL := 1) (ret := none) (by decide) rfl ?_
  intro p e s m args below meth c s₁ B hml hv
  obtain ⟨rfl, hsz, hP, hK, hD0, hN⟩ := hv
  have hx := B.exec
  have hb := B.bytes
  have hr := B.returns
  have hts := atoms_spec (ws := wsX4_init) B.pre
  have hown : s.vm.findClass RX4 = some m.cls := findClass_of_methodNamed B.named
  have hlocks := B.notSynchronized
  have hin : meth.name = "<init>" := (name_of_methodNamed B.named B.method).1
  subst hsz
  have hD := hD0.self (sz := s.heap.size)
  generalize hAe : va_A [(g0, .inr (4, [.null, .null, .int 0]))] s.heap.size = A at hD ⊢
  have hA : ∀ q : Nat, s.heap.size ≤ q → A q := fun q h => by rw [← hAe]; exact Or.inr h
  have hS : va_S A s.heap s.heap [] := va_S.rf
  have hP : va_P (dC, dI) vwCl [(g0, .inr (4, [.null, .null, .int 0]))] s.heap := hP
  have hl := lv_entry ([.ref g0]) (n := 1) (Nat.le_of_ble_eq_true rfl)
  rw [lg_entry_eq]
  generalize (lg_sl ([.ref g0]) ++ List.replicate (1 - (lg_sl ([.ref g0])).length) Slot.unset).toArray = ls at hl ⊢
  have hl : lv_has ls 1 [(0, .ref g0)] := hl
  refine lv_aload_n hx hb dX4_init_0 rfl (lv_at hl 0 rfl) ?_
  refine W.objInit hx hb hown (hts (.methodLink RX4 3 objectInit) (by decide +kernel)) (hts (.instanceMethod objectInit) (by decide +kernel)) (hts (.code objectInit ⟨#[0xb1]⟩ 1 none) (by decide +kernel)) rfl (by rw [hml]; exact hl.1) rfl dX4_init_1 (Nat.le_of_ble_eq_true rfl) (Nat.le_of_ble_eq_true rfl) ?_
  refine W.eq (g2 := F0 m 4 ls []) rfl ?_
  refine lv_aload_n hx hb dX4_init_4 rfl (lv_at hl 0 rfl) ?_
  refine va_new (ci := 1) (fs := [.null, .null, .int 0]) (C := RX1) (T := TX1) (N := 3) hx hb hts (by decide +kernel) tyX1 tyX1_ok hown (hts (.classLink RX4 9 RX1) (by decide +kernel)) (hts (.instantiable RX1 3) (by decide +kernel)) (hts (.initialized RX1) (by decide +kernel)) hK hP hD hS hA rfl (fun j hj => by rcases (show j = 0 ∨ j = 1 ∨ j = 2 by omega) with rfl | rfl | rfl <;> rfl) (show 0 + 1 ≤ 8 from by omega) (show 0 + 3 ≤ 2477 from by omega) dX4_init_5 (fun q_1 H hP hD hS => ?_)
  have hP : va_P (dC, dI) vwCl [(g0, .inr (4, [.null, .null, .int 0])), (q_1, .inr (1, [.null, .null, .int 0]))] H := hP
  have hD : va_D A [(g0, .inr (4, [.null, .null, .int 0])), (q_1, .inr (1, [.null, .null, .int 0]))] := hD
  refine W.widen (k := 1) (n := 3) (by omega) (by omega) ?_
  refine lv_dup hx hb dX4_init_8 rfl ?_
  have hPc := hP.sub (ws' := [(q_1, .inr (1, [.null, .null, .int 0]))]) [1] rfl
  have hDc := hD.sub (ws' := [(q_1, .inr (1, [.null, .null, .int 0]))]) [1] (by decide) rfl
  have hKc := hK.sub (tys' := []) [] rfl
  have hFc := va_free (wc := [(q_1, .inr (1, [.null, .null, .int 0]))]) hD hS hA [1] rfl
  refine va_callv (va_runIN (b := q_1) (As := []) (rest := [.ref q_1, .ref g0]) ⟨hx, hb, hml, hown, hts⟩ (c_X1_init l dC dI H.size q_1) ⟨va_cnB 0 hts gX4_init_X1_init_n11 rfl rfl rfl (hN _ (List.mem_of_getElem? (i := 0) rfl)) (hts (.initialized RX1) (by decide +kernel)) (by decide +kernel) ⟨Nat.le_of_ble_eq_true rfl, Nat.le_of_ble_eq_true rfl⟩, rfl, hts (.instanceMethod yX1_init) (by decide +kernel)⟩ ⟨q_blind, fun U hU hW => ⟨rfl, q_pay hU hW hPc hKc hDc hN⟩⟩ rfl rfl hl.1 rfl (lv_room (Nat.le_of_ble_eq_true rfl)) dX4_init_9 ⟨show 1 + 2 ≤ 8 from by omega, show 3 + 2448 ≤ 2477 from by omega⟩) hS (fun q _ h => hFc q h) hFc (fun u9 t H locs ht hvm hw_3 hB hz1 hk1 hS => ?_)
  obtain ⟨aW_4, aT_5, cW_6, cT_7⟩ := u9
  obtain ⟨hP1, hK1, hD1⟩ := hB
  rw [ht] at hP1
  obtain ⟨hP, hD⟩ := va_join (wr := [(g0, .inr (4, [.null, .null, .int 0]))]) (w1 := [(q_1, .inr (1, [.ref aW_4, .ref aT_5, .int 0])), (aW_4, .inl (cW_6, 2048, .inl (fun _ => 0))), (aT_5, .inl (cT_7, 400, .inl (fun _ => 0)))]) hP hD [1] [0] rfl rfl (by decide) (by decide) hk1 hFc hP1 hD1
  have hP : va_P (dC, dI) vwCl [(g0, .inr (4, [.null, .null, .int 0])), (q_1, .inr (1, [.ref aW_4, .ref aT_5, .int 0])), (aW_4, .inl (cW_6, 2048, .inl (fun _ => 0))), (aT_5, .inl (cT_7, 400, .inl (fun _ => 0)))] H := hP
  have hD : va_D A [(g0, .inr (4, [.null, .null, .int 0])), (q_1, .inr (1, [.ref aW_4, .ref aT_5, .int 0])), (aW_4, .inl (cW_6, 2048, .inl (fun _ => 0))), (aT_5, .inl (cT_7, 400, .inl (fun _ => 0)))] := hD
  have hK := hK.app (va_K.moved hvm.symm hK1)
  have hK : va_K (dC, dI) vwCl [(cW_6, .int), (cT_7, .int)] s := hK
  refine W.widen (k := 3) (n := 2451) (by omega) (by omega) ?_
  try dsimp only at hw_3
  refine va_putF (D := (dC, dI)) (ci := 4) (v := .ref q_1) (ty := .object "WordGuest$Memory") (C := RX4) (T := TX4) (N := 3) hx hb hts (by decide +kernel) tyX4 tyX4_ok nmX4 hown hK hP hD hS 0 rfl rfl 0 (by decide) (hts (.fieldLink RX4 12 "WordGuest" "memory" "LWordGuest$Memory;") (by decide +kernel)) (fun _ h9 => h9) rfl hin rfl (by decide +kernel) rfl rfl (Nat.le_of_ble_eq_true rfl) dX4_init_12 (fun H locs hP hD hS => ?_)
  have hP : va_P (dC, dI) vwCl [(g0, .inr (4, [.ref q_1, .null, .int 0])), (q_1, .inr (1, [.ref aW_4, .ref aT_5, .int 0])), (aW_4, .inl (cW_6, 2048, .inl (fun _ => 0))), (aT_5, .inl (cT_7, 400, .inl (fun _ => 0)))] H := hP
  have hD : va_D A [(g0, .inr (4, [.ref q_1, .null, .int 0])), (q_1, .inr (1, [.ref aW_4, .ref aT_5, .int 0])), (aW_4, .inl (cW_6, 2048, .inl (fun _ => 0))), (aT_5, .inl (cT_7, 400, .inl (fun _ => 0)))] := hD
  refine lv_aload_n hx hb dX4_init_15 rfl (lv_at hl 0 rfl) ?_
  refine va_new (ci := 3) (fs := [.null, .null]) (C := RX3) (T := TX3) (N := 2) hx hb hts (by decide +kernel) tyX3 tyX3_ok hown (hts (.classLink RX4 16 RX3) (by decide +kernel)) (hts (.instantiable RX3 2) (by decide +kernel)) (hts (.initialized RX3) (by decide +kernel)) hK hP hD hS hA rfl (fun j hj => by rcases (show j = 0 ∨ j = 1 by omega) with rfl | rfl <;> rfl) (show 3 + 1 ≤ 8 from by omega) (show 2451 + 2 ≤ 2477 from by omega) dX4_init_16 (fun q_8 H hP hD hS => ?_)
  have hP : va_P (dC, dI) vwCl [(g0, .inr (4, [.ref q_1, .null, .int 0])), (q_1, .inr (1, [.ref aW_4, .ref aT_5, .int 0])), (aW_4, .inl (cW_6, 2048, .inl (fun _ => 0))), (aT_5, .inl (cT_7, 400, .inl (fun _ => 0))), (q_8, .inr (3, [.null, .null]))] H := hP
  have hD : va_D A [(g0, .inr (4, [.ref q_1, .null, .int 0])), (q_1, .inr (1, [.ref aW_4, .ref aT_5, .int 0])), (aW_4, .inl (cW_6, 2048, .inl (fun _ => 0))), (aT_5, .inl (cT_7, 400, .inl (fun _ => 0))), (q_8, .inr (3, [.null, .null]))] := hD
  refine W.widen (k := 4) (n := 2453) (by omega) (by omega) ?_
  refine lv_dup hx hb dX4_init_19 rfl ?_
  refine lv_aload_n hx hb dX4_init_20 rfl (lv_at hl 0 rfl) ?_
  refine va_get (D := (dC, dI)) (ci := 4) (v := .ref q_1) (C := RX4) (T := TX4) (N := 3) hx hb hts (by decide +kernel) hown hK hP 0 rfl rfl 0 (by decide) (hts (.fieldLink RX4 12 "WordGuest" "memory" "LWordGuest$Memory;") (by decide +kernel)) (fun _ h9 => h9) rfl dX4_init_21 ?_
  have hPc := hP.sub (ws' := [(q_8, .inr (3, [.null, .null]))]) [4] rfl
  have hDc := hD.sub (ws' := [(q_8, .inr (3, [.null, .null]))]) [4] (by decide) rfl
  have hKc := hK.sub (tys' := []) [] rfl
  have hFc := va_free (wc := [(q_8, .inr (3, [.null, .null]))]) hD hS hA [4] rfl
  refine va_callv (va_runI (b := q_8) (As := [.ref q_1]) (rest := [.ref q_8, .ref g0]) ⟨hx, hb, hml, hown, hts⟩ (c_X3_init l dC dI H.size q_8 q_1) (cwI 1 hts gX4_init_X3_init rfl rfl rfl (hts (.initialized RX3) (by decide +kernel)) (hts (.methodLink RX4 18 yX3_init) (by decide +kernel)) (hts (.instanceMethod yX3_init) (by decide +kernel)) rfl (by decide +kernel) ⟨Nat.le_of_ble_eq_true rfl, Nat.le_of_ble_eq_true rfl⟩) ⟨q_blind, fun U hU hW => ⟨rfl, q_pay hU hW hPc hKc hDc hN⟩⟩ rfl rfl hl.1 rfl (lv_room (Nat.le_of_ble_eq_true rfl)) dX4_init_24 ⟨show 4 + 4 ≤ 8 from by omega, show 2453 + 24 ≤ 2477 from by omega⟩) hS (fun q _ h => hFc q h) hFc (fun u9 t H locs ht hvm hw_10 hB hz1 hk1 hS => ?_)
  obtain ⟨aR_11, aF_12, aA_13, aB_14, cA_15, cB_16⟩ := u9
  obtain ⟨hP1, hK1, hD1⟩ := hB
  rw [ht] at hP1
  obtain ⟨hP, hD⟩ := va_join (wr := [(g0, .inr (4, [.ref q_1, .null, .int 0])), (q_1, .inr (1, [.ref aW_4, .ref aT_5, .int 0])), (aW_4, .inl (cW_6, 2048, .inl (fun _ => 0))), (aT_5, .inl (cT_7, 400, .inl (fun _ => 0)))]) (w1 := [(q_8, .inr (3, [.ref aR_11, .ref aF_12])), (aR_11, .inr (2, [.ref q_1, .ref aA_13, .ref aB_14, .int 0])), (aA_13, .inl (cA_15, 8, .inl (fun _ => 0))), (aB_14, .inl (cB_16, 8, .inl (fun _ => 0))), (aF_12, .inr (0, [.int 0, .int 0, .int 0, .int 0]))]) hP hD [4] [0, 1, 2, 3] rfl rfl (by decide) (by decide) hk1 hFc hP1 hD1
  have hP : va_P (dC, dI) vwCl [(g0, .inr (4, [.ref q_1, .null, .int 0])), (q_1, .inr (1, [.ref aW_4, .ref aT_5, .int 0])), (aW_4, .inl (cW_6, 2048, .inl (fun _ => 0))), (aT_5, .inl (cT_7, 400, .inl (fun _ => 0))), (q_8, .inr (3, [.ref aR_11, .ref aF_12])), (aR_11, .inr (2, [.ref q_1, .ref aA_13, .ref aB_14, .int 0])), (aA_13, .inl (cA_15, 8, .inl (fun _ => 0))), (aB_14, .inl (cB_16, 8, .inl (fun _ => 0))), (aF_12, .inr (0, [.int 0, .int 0, .int 0, .int 0]))] H := hP
  have hD : va_D A [(g0, .inr (4, [.ref q_1, .null, .int 0])), (q_1, .inr (1, [.ref aW_4, .ref aT_5, .int 0])), (aW_4, .inl (cW_6, 2048, .inl (fun _ => 0))), (aT_5, .inl (cT_7, 400, .inl (fun _ => 0))), (q_8, .inr (3, [.ref aR_11, .ref aF_12])), (aR_11, .inr (2, [.ref q_1, .ref aA_13, .ref aB_14, .int 0])), (aA_13, .inl (cA_15, 8, .inl (fun _ => 0))), (aB_14, .inl (cB_16, 8, .inl (fun _ => 0))), (aF_12, .inr (0, [.int 0, .int 0, .int 0, .int 0]))] := hD
  have hK := hK.app (va_K.moved hvm.symm hK1)
  have hK : va_K (dC, dI) vwCl [(cW_6, .int), (cT_7, .int), (cA_15, .int), (cB_16, .int)] s := hK
  refine W.widen (k := 8) (n := 2477) (by omega) (by omega) ?_
  try dsimp only at hw_10
  refine va_putF (D := (dC, dI)) (ci := 4) (v := .ref q_8) (ty := .object "WordGuest$Processor") (C := RX4) (T := TX4) (N := 3) hx hb hts (by decide +kernel) tyX4 tyX4_ok nmX4 hown hK hP hD hS 0 rfl rfl 1 (by decide) (hts (.fieldLink RX4 21 "WordGuest" "processor" "LWordGuest$Processor;") (by decide +kernel)) (fun _ h9 => h9) rfl hin rfl (by decide +kernel) rfl rfl (Nat.le_of_ble_eq_true rfl) dX4_init_27 (fun H locs hP hD hS => ?_)
  have hP : va_P (dC, dI) vwCl [(g0, .inr (4, [.ref q_1, .ref q_8, .int 0])), (q_1, .inr (1, [.ref aW_4, .ref aT_5, .int 0])), (aW_4, .inl (cW_6, 2048, .inl (fun _ => 0))), (aT_5, .inl (cT_7, 400, .inl (fun _ => 0))), (q_8, .inr (3, [.ref aR_11, .ref aF_12])), (aR_11, .inr (2, [.ref q_1, .ref aA_13, .ref aB_14, .int 0])), (aA_13, .inl (cA_15, 8, .inl (fun _ => 0))), (aB_14, .inl (cB_16, 8, .inl (fun _ => 0))), (aF_12, .inr (0, [.int 0, .int 0, .int 0, .int 0]))] H := hP
  have hD : va_D A [(g0, .inr (4, [.ref q_1, .ref q_8, .int 0])), (q_1, .inr (1, [.ref aW_4, .ref aT_5, .int 0])), (aW_4, .inl (cW_6, 2048, .inl (fun _ => 0))), (aT_5, .inl (cT_7, 400, .inl (fun _ => 0))), (q_8, .inr (3, [.ref aR_11, .ref aF_12])), (aR_11, .inr (2, [.ref q_1, .ref aA_13, .ref aB_14, .int 0])), (aA_13, .inl (cA_15, 8, .inl (fun _ => 0))), (aB_14, .inl (cB_16, 8, .inl (fun _ => 0))), (aF_12, .inr (0, [.int 0, .int 0, .int 0, .int 0]))] := hD
  have hP9 := hP.sub (ws' := [(g0, .inr (4, [.ref q_1, .ref q_8, .int 0])), (q_1, .inr (1, [.ref aW_4, .ref aT_5, .int 0])), (aW_4, .inl (cW_6, 2048, .inl (fun _ => 0))), (aT_5, .inl (cT_7, 400, .inl (fun _ => 0))), (q_8, .inr (3, [.ref aR_11, .ref aF_12])), (aR_11, .inr (2, [.ref q_1, .ref aA_13, .ref aB_14, .int 0])), (aA_13, .inl (cA_15, 8, .inl (fun _ => 0))), (aB_14, .inl (cB_16, 8, .inl (fun _ => 0))), (aF_12, .inr (0, [.int 0, .int 0, .int 0, .int 0]))]) [0, 1, 2, 3, 4, 5, 6, 7, 8] rfl
  have hD9 := hD.sub (ws' := [(g0, .inr (4, [.ref q_1, .ref q_8, .int 0])), (q_1, .inr (1, [.ref aW_4, .ref aT_5, .int 0])), (aW_4, .inl (cW_6, 2048, .inl (fun _ => 0))), (aT_5, .inl (cT_7, 400, .inl (fun _ => 0))), (q_8, .inr (3, [.ref aR_11, .ref aF_12])), (aR_11, .inr (2, [.ref q_1, .ref aA_13, .ref aB_14, .int 0])), (aA_13, .inl (cA_15, 8, .inl (fun _ => 0))), (aB_14, .inl (cB_16, 8, .inl (fun _ => 0))), (aF_12, .inr (0, [.int 0, .int 0, .int 0, .int 0]))]) [0, 1, 2, 3, 4, 5, 6, 7, 8] (by decide) rfl
  have hK9 := hK.sub (tys' := [(cW_6, .int), (cT_7, .int), (cA_15, .int), (cB_16, .int)]) [0, 1, 2, 3] rfl
  exact W.vret hx hb hr (fun t ht hW => ⟨⟨(q_1, q_8, aW_4, aT_5, cW_6, cT_7, aR_11, aF_12, aA_13, aB_14, cA_15, cB_16), rfl, trivial, by rw [ht]; exact hP9, va_K.moved hW.alike hK9, hD9⟩, hS.F ht⟩) hS.2.2 dX4_init_30
