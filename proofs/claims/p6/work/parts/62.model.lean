set_option maxHeartbeats 4000000 in
set_option maxRecDepth 100000 in
theorem c_X5_init (l : Launch) (dC : Nat → ClassId) (dI : Nat → Nat → Nat) (sz : Nat) (m0 : Nat)  : Met l yX5_init wsX5_init ({ frames := 1, cells := 4, slots := 4512, locals := 12 }) (va_Pc [.ref m0] (q_pre dC dI sz [(m0, .inr (5, [.int 0, .null, .null, .int 0, .null, .int 0, .int 0, .null, .int 0, .int 0, .int 0, .int 0, .int 0, .int 0, .int 0, .int 0, .int 0]))] [])) (va_Qv (fun (u9 : Nat × Nat × Nat × Nat × ClassId × ClassId × ClassId × ClassId) => True) (q_at dC dI (va_A [(m0, .inr (5, [.int 0, .null, .null, .int 0, .null, .int 0, .int 0, .null, .int 0, .int 0, .int 0, .int 0, .int 0, .int 0, .int 0, .int 0, .int 0]))] sz) (fun (u9 : Nat × Nat × Nat × Nat × ClassId × ClassId × ClassId × ClassId) => [(u9.2.2.2.2.1, .int), (u9.2.2.2.2.2.1, .int), (u9.2.2.2.2.2.2.1, .int), (u9.2.2.2.2.2.2.2, .int)]) (fun (u9 : Nat × Nat × Nat × Nat × ClassId × ClassId × ClassId × ClassId) => [(m0, .inr (5, [.int 0, .ref u9.1, .ref u9.2.1, .int 0, .ref u9.2.2.1, .int 0, .int 0, .ref u9.2.2.2.1, .int 0, .int 0, .int 0, .int 0, .int 0, .int 0, .int 0, .int 0, .int 0])), (u9.1, .inl (u9.2.2.2.2.1, 4096, .inl (fun _ => 0))), (u9.2.1, .inl (u9.2.2.2.2.2.1, 8, .inl (fun _ => 0))), (u9.2.2.1, .inl (u9.2.2.2.2.2.2.1, 400, .inl (fun _ => 0))), (u9.2.2.2.1, .inl (u9.2.2.2.2.2.2.2, 8, .inl (fun _ => 0)))])) (va_A [(m0, .inr (5, [.int 0, .null, .null, .int 0, .null, .int 0, .int 0, .null, .int 0, .int 0, .int 0, .int 0, .int 0, .int 0, .int 0, .int 0, .int 0]))] sz)) 4 4512 (va_A [(m0, .inr (5, [.int 0, .null, .null, .int 0, .null, .int 0, .int 0, .null, .int 0, .int 0, .int 0, .int 0, .int 0, .int 0, .int 0, .int 0, .int 0]))] sz) := by
  refine Met.ofW (cc := cX5_init) (maxL := 1) (ret := none) (by decide) rfl ?_
  intro p e s m args below meth c s₁ B hml hv
  obtain ⟨rfl, hsz, hP, hK, hD0, hN⟩ := hv
  have hx := B.exec
  have hb := B.bytes
  have hr := B.returns
  have hts := atoms_spec (ws := wsX5_init) B.pre
  have hown : s.vm.findClass RX5 = some m.cls := findClass_of_methodNamed B.named
  have hlocks := B.notSynchronized
  have hin : meth.name = "<init>" := (name_of_methodNamed B.named B.method).1
  subst hsz
  have hD := hD0.self (sz := s.heap.size)
  generalize hAe : va_A [(m0, .inr (5, [.int 0, .null, .null, .int 0, .null, .int 0, .int 0, .null, .int 0, .int 0, .int 0, .int 0, .int 0, .int 0, .int 0, .int 0, .int 0]))] s.heap.size = A at hD ⊢
  have hA : ∀ q : Nat, s.heap.size ≤ q → A q := fun q h => by rw [← hAe]; exact Or.inr h
  have hS : va_S A s.heap s.heap [] := va_S.rf
  have hP : va_P (dC, dI) vwCl [(m0, .inr (5, [.int 0, .null, .null, .int 0, .null, .int 0, .int 0, .null, .int 0, .int 0, .int 0, .int 0, .int 0, .int 0, .int 0, .int 0, .int 0]))] s.heap := hP
  have hl := lv_entry ([.ref m0]) (n := 1) (Nat.le_of_ble_eq_true rfl)
  rw [lg_entry_eq]
  generalize (lg_sl ([.ref m0]) ++ List.replicate (1 - (lg_sl ([.ref m0])).length) Slot.unset).toArray = ls at hl ⊢
  have hl : lv_has ls 1 [(0, .ref m0)] := hl
  refine lv_aload_n hx hb dX5_init_0 rfl (lv_at hl 0 rfl) ?_
  refine W.objInit hx hb hown (hts (.methodLink RX5 1 objectInit) (by decide +kernel)) (hts (.instanceMethod objectInit) (by decide +kernel)) (hts (.code objectInit ⟨#[0xb1]⟩ 1 none) (by decide +kernel)) rfl (by rw [hml]; exact hl.1) rfl dX5_init_1 (Nat.le_of_ble_eq_true rfl) (Nat.le_of_ble_eq_true rfl) ?_
  refine W.eq (g2 := F0 m 4 ls []) rfl ?_
  refine lv_aload_n hx hb dX5_init_4 rfl (lv_at hl 0 rfl) ?_
  refine lv_sipush (v := 4096) hx hb dX5_init_5 (by decide) ?_
  refine va_newa (atype := .int) (a0 := (4096, .inl (fun _ => 0))) (N' := 4096) (ty := .int) hx hb (hts (.arrayClass .int) (by decide +kernel)) rfl hK hP hD hS hA (fun _ => q_zi _ _) (by decide) (by decide) (by decide) (show 0 + 1 ≤ 4 from by omega) (show 0 + 4096 ≤ 4512 from by omega) dX5_init_8 (fun q_1 cA_2 H hK hP hD hS => ?_)
  have hP : va_P (dC, dI) vwCl [(m0, .inr (5, [.int 0, .null, .null, .int 0, .null, .int 0, .int 0, .null, .int 0, .int 0, .int 0, .int 0, .int 0, .int 0, .int 0, .int 0, .int 0])), (q_1, .inl (cA_2, 4096, .inl (fun _ => 0)))] H := hP
  have hD : va_D A [(m0, .inr (5, [.int 0, .null, .null, .int 0, .null, .int 0, .int 0, .null, .int 0, .int 0, .int 0, .int 0, .int 0, .int 0, .int 0, .int 0, .int 0])), (q_1, .inl (cA_2, 4096, .inl (fun _ => 0)))] := hD
  have hK : va_K (dC, dI) vwCl [(cA_2, .int)] s := hK
  refine W.widen (k := 1) (n := 4096) (by omega) (by omega) ?_
  refine va_putF (D := (dC, dI)) (ci := 5) (v := .ref q_1) (ty := .array .int) (C := RX5) (T := TX5) (N := 17) hx hb hts (by decide +kernel) tyX5 tyX5_ok nmX5 hown hK hP hD hS 0 rfl rfl 1 (by decide) (hts (.fieldLink RX5 7 "WordGuestModel" "bytes" "[I") (by decide +kernel)) (fun _ h9 => h9) rfl hin rfl (by decide +kernel) rfl rfl (Nat.le_of_ble_eq_true rfl) dX5_init_10 (fun H locs hP hD hS => ?_)
  have hP : va_P (dC, dI) vwCl [(m0, .inr (5, [.int 0, .ref q_1, .null, .int 0, .null, .int 0, .int 0, .null, .int 0, .int 0, .int 0, .int 0, .int 0, .int 0, .int 0, .int 0, .int 0])), (q_1, .inl (cA_2, 4096, .inl (fun _ => 0)))] H := hP
  have hD : va_D A [(m0, .inr (5, [.int 0, .ref q_1, .null, .int 0, .null, .int 0, .int 0, .null, .int 0, .int 0, .int 0, .int 0, .int 0, .int 0, .int 0, .int 0, .int 0])), (q_1, .inl (cA_2, 4096, .inl (fun _ => 0)))] := hD
  refine lv_aload_n hx hb dX5_init_13 rfl (lv_at hl 0 rfl) ?_
  refine lv_bipush (v := 8) hx hb dX5_init_14 (by decide) ?_
  refine va_newa (atype := .int) (a0 := (8, .inl (fun _ => 0))) (N' := 8) (ty := .int) hx hb (hts (.arrayClass .int) (by decide +kernel)) rfl hK hP hD hS hA (fun _ => q_zi _ _) (by decide) (by decide) (by decide) (show 1 + 1 ≤ 4 from by omega) (show 4096 + 8 ≤ 4512 from by omega) dX5_init_16 (fun q_3 cA_4 H hK hP hD hS => ?_)
  have hP : va_P (dC, dI) vwCl [(m0, .inr (5, [.int 0, .ref q_1, .null, .int 0, .null, .int 0, .int 0, .null, .int 0, .int 0, .int 0, .int 0, .int 0, .int 0, .int 0, .int 0, .int 0])), (q_1, .inl (cA_2, 4096, .inl (fun _ => 0))), (q_3, .inl (cA_4, 8, .inl (fun _ => 0)))] H := hP
  have hD : va_D A [(m0, .inr (5, [.int 0, .ref q_1, .null, .int 0, .null, .int 0, .int 0, .null, .int 0, .int 0, .int 0, .int 0, .int 0, .int 0, .int 0, .int 0, .int 0])), (q_1, .inl (cA_2, 4096, .inl (fun _ => 0))), (q_3, .inl (cA_4, 8, .inl (fun _ => 0)))] := hD
  have hK : va_K (dC, dI) vwCl [(cA_2, .int), (cA_4, .int)] s := hK
  refine W.widen (k := 2) (n := 4104) (by omega) (by omega) ?_
  refine va_putF (D := (dC, dI)) (ci := 5) (v := .ref q_3) (ty := .array .int) (C := RX5) (T := TX5) (N := 17) hx hb hts (by decide +kernel) tyX5 tyX5_ok nmX5 hown hK hP hD hS 0 rfl rfl 2 (by decide) (hts (.fieldLink RX5 13 "WordGuestModel" "registers" "[I") (by decide +kernel)) (fun _ h9 => h9) rfl hin rfl (by decide +kernel) rfl rfl (Nat.le_of_ble_eq_true rfl) dX5_init_18 (fun H locs hP hD hS => ?_)
  have hP : va_P (dC, dI) vwCl [(m0, .inr (5, [.int 0, .ref q_1, .ref q_3, .int 0, .null, .int 0, .int 0, .null, .int 0, .int 0, .int 0, .int 0, .int 0, .int 0, .int 0, .int 0, .int 0])), (q_1, .inl (cA_2, 4096, .inl (fun _ => 0))), (q_3, .inl (cA_4, 8, .inl (fun _ => 0)))] H := hP
  have hD : va_D A [(m0, .inr (5, [.int 0, .ref q_1, .ref q_3, .int 0, .null, .int 0, .int 0, .null, .int 0, .int 0, .int 0, .int 0, .int 0, .int 0, .int 0, .int 0, .int 0])), (q_1, .inl (cA_2, 4096, .inl (fun _ => 0))), (q_3, .inl (cA_4, 8, .inl (fun _ => 0)))] := hD
  refine lv_aload_n hx hb dX5_init_21 rfl (lv_at hl 0 rfl) ?_
  refine lv_sipush (v := 400) hx hb dX5_init_22 (by decide) ?_
  refine va_newa (atype := .int) (a0 := (400, .inl (fun _ => 0))) (N' := 400) (ty := .int) hx hb (hts (.arrayClass .int) (by decide +kernel)) rfl hK hP hD hS hA (fun _ => q_zi _ _) (by decide) (by decide) (by decide) (show 2 + 1 ≤ 4 from by omega) (show 4104 + 400 ≤ 4512 from by omega) dX5_init_25 (fun q_5 cA_6 H hK hP hD hS => ?_)
  have hP : va_P (dC, dI) vwCl [(m0, .inr (5, [.int 0, .ref q_1, .ref q_3, .int 0, .null, .int 0, .int 0, .null, .int 0, .int 0, .int 0, .int 0, .int 0, .int 0, .int 0, .int 0, .int 0])), (q_1, .inl (cA_2, 4096, .inl (fun _ => 0))), (q_3, .inl (cA_4, 8, .inl (fun _ => 0))), (q_5, .inl (cA_6, 400, .inl (fun _ => 0)))] H := hP
  have hD : va_D A [(m0, .inr (5, [.int 0, .ref q_1, .ref q_3, .int 0, .null, .int 0, .int 0, .null, .int 0, .int 0, .int 0, .int 0, .int 0, .int 0, .int 0, .int 0, .int 0])), (q_1, .inl (cA_2, 4096, .inl (fun _ => 0))), (q_3, .inl (cA_4, 8, .inl (fun _ => 0))), (q_5, .inl (cA_6, 400, .inl (fun _ => 0)))] := hD
  have hK : va_K (dC, dI) vwCl [(cA_2, .int), (cA_4, .int), (cA_6, .int)] s := hK
  refine W.widen (k := 3) (n := 4504) (by omega) (by omega) ?_
  refine va_putF (D := (dC, dI)) (ci := 5) (v := .ref q_5) (ty := .array .int) (C := RX5) (T := TX5) (N := 17) hx hb hts (by decide +kernel) tyX5 tyX5_ok nmX5 hown hK hP hD hS 0 rfl rfl 4 (by decide) (hts (.fieldLink RX5 16 "WordGuestModel" "outs" "[I") (by decide +kernel)) (fun _ h9 => h9) rfl hin rfl (by decide +kernel) rfl rfl (Nat.le_of_ble_eq_true rfl) dX5_init_27 (fun H locs hP hD hS => ?_)
  have hP : va_P (dC, dI) vwCl [(m0, .inr (5, [.int 0, .ref q_1, .ref q_3, .int 0, .ref q_5, .int 0, .int 0, .null, .int 0, .int 0, .int 0, .int 0, .int 0, .int 0, .int 0, .int 0, .int 0])), (q_1, .inl (cA_2, 4096, .inl (fun _ => 0))), (q_3, .inl (cA_4, 8, .inl (fun _ => 0))), (q_5, .inl (cA_6, 400, .inl (fun _ => 0)))] H := hP
  have hD : va_D A [(m0, .inr (5, [.int 0, .ref q_1, .ref q_3, .int 0, .ref q_5, .int 0, .int 0, .null, .int 0, .int 0, .int 0, .int 0, .int 0, .int 0, .int 0, .int 0, .int 0])), (q_1, .inl (cA_2, 4096, .inl (fun _ => 0))), (q_3, .inl (cA_4, 8, .inl (fun _ => 0))), (q_5, .inl (cA_6, 400, .inl (fun _ => 0)))] := hD
  refine lv_aload_n hx hb dX5_init_30 rfl (lv_at hl 0 rfl) ?_
  refine lv_bipush (v := 8) hx hb dX5_init_31 (by decide) ?_
  refine va_newa (atype := .int) (a0 := (8, .inl (fun _ => 0))) (N' := 8) (ty := .int) hx hb (hts (.arrayClass .int) (by decide +kernel)) rfl hK hP hD hS hA (fun _ => q_zi _ _) (by decide) (by decide) (by decide) (show 3 + 1 ≤ 4 from by omega) (show 4504 + 8 ≤ 4512 from by omega) dX5_init_33 (fun q_7 cA_8 H hK hP hD hS => ?_)
  have hP : va_P (dC, dI) vwCl [(m0, .inr (5, [.int 0, .ref q_1, .ref q_3, .int 0, .ref q_5, .int 0, .int 0, .null, .int 0, .int 0, .int 0, .int 0, .int 0, .int 0, .int 0, .int 0, .int 0])), (q_1, .inl (cA_2, 4096, .inl (fun _ => 0))), (q_3, .inl (cA_4, 8, .inl (fun _ => 0))), (q_5, .inl (cA_6, 400, .inl (fun _ => 0))), (q_7, .inl (cA_8, 8, .inl (fun _ => 0)))] H := hP
  have hD : va_D A [(m0, .inr (5, [.int 0, .ref q_1, .ref q_3, .int 0, .ref q_5, .int 0, .int 0, .null, .int 0, .int 0, .int 0, .int 0, .int 0, .int 0, .int 0, .int 0, .int 0])), (q_1, .inl (cA_2, 4096, .inl (fun _ => 0))), (q_3, .inl (cA_4, 8, .inl (fun _ => 0))), (q_5, .inl (cA_6, 400, .inl (fun _ => 0))), (q_7, .inl (cA_8, 8, .inl (fun _ => 0)))] := hD
  have hK : va_K (dC, dI) vwCl [(cA_2, .int), (cA_4, .int), (cA_6, .int), (cA_8, .int)] s := hK
  refine W.widen (k := 4) (n := 4512) (by omega) (by omega) ?_
  refine va_putF (D := (dC, dI)) (ci := 5) (v := .ref q_7) (ty := .array .int) (C := RX5) (T := TX5) (N := 17) hx hb hts (by decide +kernel) tyX5 tyX5_ok nmX5 hown hK hP hD hS 0 rfl rfl 7 (by decide) (hts (.fieldLink RX5 19 "WordGuestModel" "now" "[I") (by decide +kernel)) (fun _ h9 => h9) rfl hin rfl (by decide +kernel) rfl rfl (Nat.le_of_ble_eq_true rfl) dX5_init_35 (fun H locs hP hD hS => ?_)
  have hP : va_P (dC, dI) vwCl [(m0, .inr (5, [.int 0, .ref q_1, .ref q_3, .int 0, .ref q_5, .int 0, .int 0, .ref q_7, .int 0, .int 0, .int 0, .int 0, .int 0, .int 0, .int 0, .int 0, .int 0])), (q_1, .inl (cA_2, 4096, .inl (fun _ => 0))), (q_3, .inl (cA_4, 8, .inl (fun _ => 0))), (q_5, .inl (cA_6, 400, .inl (fun _ => 0))), (q_7, .inl (cA_8, 8, .inl (fun _ => 0)))] H := hP
  have hD : va_D A [(m0, .inr (5, [.int 0, .ref q_1, .ref q_3, .int 0, .ref q_5, .int 0, .int 0, .ref q_7, .int 0, .int 0, .int 0, .int 0, .int 0, .int 0, .int 0, .int 0, .int 0])), (q_1, .inl (cA_2, 4096, .inl (fun _ => 0))), (q_3, .inl (cA_4, 8, .inl (fun _ => 0))), (q_5, .inl (cA_6, 400, .inl (fun _ => 0))), (q_7, .inl (cA_8, 8, .inl (fun _ => 0)))] := hD
  have hP9 := hP.sub (ws' := [(m0, .inr (5, [.int 0, .ref q_1, .ref q_3, .int 0, .ref q_5, .int 0, .int 0, .ref q_7, .int 0, .int 0, .int 0, .int 0, .int 0, .int 0, .int 0, .int 0, .int 0])), (q_1, .inl (cA_2, 4096, .inl (fun _ => 0))), (q_3, .inl (cA_4, 8, .inl (fun _ => 0))), (q_5, .inl (cA_6, 400, .inl (fun _ => 0))), (q_7, .inl (cA_8, 8, .inl (fun _ => 0)))]) [0, 1, 2, 3, 4] rfl
  have hD9 := hD.sub (ws' := [(m0, .inr (5, [.int 0, .ref q_1, .ref q_3, .int 0, .ref q_5, .int 0, .int 0, .ref q_7, .int 0, .int 0, .int 0, .int 0, .int 0, .int 0, .int 0, .int 0, .int 0])), (q_1, .inl (cA_2, 4096, .inl (fun _ => 0))), (q_3, .inl (cA_4, 8, .inl (fun _ => 0))), (q_5, .inl (cA_6, 400, .inl (fun _ => 0))), (q_7, .inl (cA_8, 8, .inl (fun _ => 0)))]) [0, 1, 2, 3, 4] (by decide) rfl
  have hK9 := hK.sub (tys' := [(cA_2, .int), (cA_4, .int), (cA_6, .int), (cA_8, .int)]) [0, 1, 2, 3] rfl
  exact W.vret hx hb hr (fun t ht hW => ⟨⟨(q_1, q_3, q_5, q_7, cA_2, cA_4, cA_6, cA_8), rfl, trivial, by rw [ht]; exact hP9, va_K.moved hW.alike hK9, hD9⟩, hS.F ht⟩) hS.2.2 dX5_init_38
set_option maxHeartbeats 4000000 in
set_option maxRecDepth 100000 in
theorem c_X5_thrown (l : Launch) (dC : Nat → ClassId) (dI : Nat → Nat → Nat) (sz : Nat) (m0 : Nat) (x_thrown : Int32) (mB : Nat) (mR : Nat) (x_flags : Int32) (mO : Nat) (x_outCount : Int32) (x_steps : Int32) (mN : Nat) (x_nowFlags : Int32) (x_writePlace : Int32) (x_writeSize : Int32) (x_writeValue : Int32) (x_fault : Int32) (x_halt : Int32) (x_isByte : Int32) (x_atRegister : Int32) (x_atPlace : Int32)  : Met l yX5_thrown wsX5_thrown ({ frames := 0, cells := 0, slots := 0, locals := 0 }) (va_Pc [.ref m0] (q_pre dC dI sz [(m0, .inr (5, [.int x_thrown, .ref mB, .ref mR, .int x_flags, .ref mO, .int x_outCount, .int x_steps, .ref mN, .int x_nowFlags, .int x_writePlace, .int x_writeSize, .int x_writeValue, .int x_fault, .int x_halt, .int x_isByte, .int x_atRegister, .int x_atPlace]))] [])) (va_Qi (fun (r : Int32) (u9 : Unit) => r = x_thrown) (q_at dC dI (va_A [(m0, .inr (5, [.int x_thrown, .ref mB, .ref mR, .int x_flags, .ref mO, .int x_outCount, .int x_steps, .ref mN, .int x_nowFlags, .int x_writePlace, .int x_writeSize, .int x_writeValue, .int x_fault, .int x_halt, .int x_isByte, .int x_atRegister, .int x_atPlace]))] sz) (fun (u9 : Unit) => []) (fun (u9 : Unit) => [(m0, .inr (5, [.int x_thrown, .ref mB, .ref mR, .int x_flags, .ref mO, .int x_outCount, .int x_steps, .ref mN, .int x_nowFlags, .int x_writePlace, .int x_writeSize, .int x_writeValue, .int x_fault, .int x_halt, .int x_isByte, .int x_atRegister, .int x_atPlace]))])) (va_A [(m0, .inr (5, [.int x_thrown, .ref mB, .ref mR, .int x_flags, .ref mO, .int x_outCount, .int x_steps, .ref mN, .int x_nowFlags, .int x_writePlace, .int x_writeSize, .int x_writeValue, .int x_fault, .int x_halt, .int x_isByte, .int x_atRegister, .int x_atPlace]))] sz)) 0 0 (va_A [(m0, .inr (5, [.int x_thrown, .ref mB, .ref mR, .int x_flags, .ref mO, .int x_outCount, .int x_steps, .ref mN, .int x_nowFlags, .int x_writePlace, .int x_writeSize, .int x_writeValue, .int x_fault, .int x_halt, .int x_isByte, .int x_atRegister, .int x_atPlace]))] sz) := by
  refine Met.ofW (cc := cX5_thrown) (maxL := 1) (ret := (some .int)) (by decide) rfl ?_
  intro p e s m args below meth c s₁ B hml hv
  obtain ⟨rfl, hsz, hP, hK, hD0, hN⟩ := hv
  have hx := B.exec
  have hb := B.bytes
  have hr := B.returns
  have hts := atoms_spec (ws := wsX5_thrown) B.pre
  have hown : s.vm.findClass RX5 = some m.cls := findClass_of_methodNamed B.named
  have hlocks := B.notSynchronized
  subst hsz
  have hD := hD0.self (sz := s.heap.size)
  generalize hAe : va_A [(m0, .inr (5, [.int x_thrown, .ref mB, .ref mR, .int x_flags, .ref mO, .int x_outCount, .int x_steps, .ref mN, .int x_nowFlags, .int x_writePlace, .int x_writeSize, .int x_writeValue, .int x_fault, .int x_halt, .int x_isByte, .int x_atRegister, .int x_atPlace]))] s.heap.size = A at hD ⊢
  have hA : ∀ q : Nat, s.heap.size ≤ q → A q := fun q h => by rw [← hAe]; exact Or.inr h
  have hS : va_S A s.heap s.heap [] := va_S.rf
  have hP : va_P (dC, dI) vwCl [(m0, .inr (5, [.int x_thrown, .ref mB, .ref mR, .int x_flags, .ref mO, .int x_outCount, .int x_steps, .ref mN, .int x_nowFlags, .int x_writePlace, .int x_writeSize, .int x_writeValue, .int x_fault, .int x_halt, .int x_isByte, .int x_atRegister, .int x_atPlace]))] s.heap := hP
  have hl := lv_entry ([.ref m0]) (n := 1) (Nat.le_of_ble_eq_true rfl)
  rw [lg_entry_eq]
  generalize (lg_sl ([.ref m0]) ++ List.replicate (1 - (lg_sl ([.ref m0])).length) Slot.unset).toArray = ls at hl ⊢
  have hl : lv_has ls 1 [(0, .ref m0)] := hl
  refine lv_aload_n hx hb dX5_thrown_0 rfl (lv_at hl 0 rfl) ?_
  refine va_get (D := (dC, dI)) (ci := 5) (v := .int x_thrown) (C := RX5) (T := TX5) (N := 17) hx hb hts (by decide +kernel) hown hK hP 0 rfl rfl 0 (by decide) (hts (.fieldLink RX5 22 "WordGuestModel" "thrown" "I") (by decide +kernel)) (fun _ h9 => h9) rfl dX5_thrown_1 ?_
  have hP9 := hP.sub (ws' := [(m0, .inr (5, [.int x_thrown, .ref mB, .ref mR, .int x_flags, .ref mO, .int x_outCount, .int x_steps, .ref mN, .int x_nowFlags, .int x_writePlace, .int x_writeSize, .int x_writeValue, .int x_fault, .int x_halt, .int x_isByte, .int x_atRegister, .int x_atPlace]))]) [0] rfl
  have hD9 := hD.sub (ws' := [(m0, .inr (5, [.int x_thrown, .ref mB, .ref mR, .int x_flags, .ref mO, .int x_outCount, .int x_steps, .ref mN, .int x_nowFlags, .int x_writePlace, .int x_writeSize, .int x_writeValue, .int x_fault, .int x_halt, .int x_isByte, .int x_atRegister, .int x_atPlace]))]) [0] (by decide) rfl
  have hK9 := hK.sub (tys' := []) [] rfl
  exact W.iret (v := x_thrown) hx hb hr (fun t ht hW => ⟨⟨x_thrown, (), rfl, rfl, by rw [ht]; exact hP9, va_K.moved hW.alike hK9, hD9⟩, hS.F ht⟩) hS.2.2 dX5_thrown_4
set_option maxHeartbeats 4000000 in
set_option maxRecDepth 100000 in
theorem c_X5_isWord (l : Launch) (dC : Nat → ClassId) (dI : Nat → Nat → Nat) (sz : Nat) (pl : Int32)  : Met l yX5_isWord wsX5_isWord ({ frames := 0, cells := 0, slots := 0, locals := 0 }) (va_Pc [.int pl] (q_pre dC dI sz [] [])) (va_Qi (fun (r : Int32) (u9 : Unit) => r = iw pl) (q_at dC dI (va_A [] sz) (fun (u9 : Unit) => []) (fun (u9 : Unit) => [])) (va_A [] sz)) 0 0 (va_A [] sz) := by
  refine Met.ofW (cc := cX5_isWord) (maxL := 1) (ret := (some .boolean)) (by decide) rfl ?_
  intro p e s m args below meth c s₁ B hml hv
  obtain ⟨rfl, hsz, hP, hK, hD0, hN⟩ := hv
  have hx := B.exec
  have hb := B.bytes
  have hr := B.returns
  have hts := atoms_spec (ws := wsX5_isWord) B.pre
  have hown : s.vm.findClass RX5 = some m.cls := findClass_of_methodNamed B.named
  have hlocks := B.notSynchronized
  subst hsz
  have hD := hD0.self (sz := s.heap.size)
  generalize hAe : va_A [] s.heap.size = A at hD ⊢
  have hA : ∀ q : Nat, s.heap.size ≤ q → A q := fun q h => by rw [← hAe]; exact Or.inr h
  have hS : va_S A s.heap s.heap [] := va_S.rf
  have hP : va_P (dC, dI) vwCl [] s.heap := hP
  have hl := lv_entry ([.int pl]) (n := 1) (Nat.le_of_ble_eq_true rfl)
  rw [lg_entry_eq]
  generalize (lg_sl ([.int pl]) ++ List.replicate (1 - (lg_sl ([.int pl])).length) Slot.unset).toArray = ls at hl ⊢
  have hl : lv_has ls 1 [(0, .int pl)] := hl
  refine lv_iload_n hx hb dX5_isWord_0 rfl (lv_at hl 0 rfl) ?_
  refine lv_if_lt (tgt := 21) hx hb dX5_isWord_1 (by decide) (fun c_1 => ?_) (fun c_1 => ?_)
  · refine lv_iconst (v := 0) hx hb dX5_isWord_21 (by decide) ?_
    have hP9 := hP.sub (ws' := []) [] rfl
    have hD9 := hD.sub (ws' := []) [] (by decide) rfl
    have hK9 := hK.sub (tys' := []) [] rfl
    exact W.zret (v := 0) (ty := .boolean) hx hb hr (by decide) (fun t ht hW => ⟨⟨0, (), rfl, (by simp [iw, c_1]), by rw [ht]; exact hP9, va_K.moved hW.alike hK9, hD9⟩, hS.F ht⟩) hS.2.2 dX5_isWord_22
  · refine lv_iload_n hx hb dX5_isWord_4 rfl (lv_at hl 0 rfl) ?_
    refine lv_sipush (v := 4096) hx hb dX5_isWord_5 (by decide) ?_
    refine lv_icmp_ge (tgt := 21) hx hb dX5_isWord_8 (by decide) (fun c_2 => ?_) (fun c_2 => ?_)
    · refine lv_iconst (v := 0) hx hb dX5_isWord_21 (by decide) ?_
      have hP9 := hP.sub (ws' := []) [] rfl
      have hD9 := hD.sub (ws' := []) [] (by decide) rfl
      have hK9 := hK.sub (tys' := []) [] rfl
      exact W.zret (v := 0) (ty := .boolean) hx hb hr (by decide) (fun t ht hW => ⟨⟨0, (), rfl, (by simp [iw, c_1, c_2]), by rw [ht]; exact hP9, va_K.moved hW.alike hK9, hD9⟩, hS.F ht⟩) hS.2.2 dX5_isWord_22
    · refine lv_iload_n hx hb dX5_isWord_11 rfl (lv_at hl 0 rfl) ?_
      refine lv_iconst (v := 2) hx hb dX5_isWord_12 (by decide) ?_
      refine lv_irem hx hb dX5_isWord_13 (by decide) ?_
      refine lv_if_ne (tgt := 21) hx hb dX5_isWord_14 (by decide) (fun c_3 => ?_) (fun c_3 => ?_)
      · refine lv_iconst (v := 0) hx hb dX5_isWord_21 (by decide) ?_
        have hP9 := hP.sub (ws' := []) [] rfl
        have hD9 := hD.sub (ws' := []) [] (by decide) rfl
        have hK9 := hK.sub (tys' := []) [] rfl
        exact W.zret (v := 0) (ty := .boolean) hx hb hr (by decide) (fun t ht hW => ⟨⟨0, (), rfl, (by simp [iw, c_1, c_2, c_3]), by rw [ht]; exact hP9, va_K.moved hW.alike hK9, hD9⟩, hS.F ht⟩) hS.2.2 dX5_isWord_22
      · refine lv_iconst (v := 1) hx hb dX5_isWord_17 (by decide) ?_
        refine lv_goto (tgt := 22) hx hb dX5_isWord_18 (by decide) ?_
        have hP9 := hP.sub (ws' := []) [] rfl
        have hD9 := hD.sub (ws' := []) [] (by decide) rfl
        have hK9 := hK.sub (tys' := []) [] rfl
        exact W.zret (v := 1) (ty := .boolean) hx hb hr (by decide) (fun t ht hW => ⟨⟨1, (), rfl, (by simp [iw, c_1, c_2, c_3]), by rw [ht]; exact hP9, va_K.moved hW.alike hK9, hD9⟩, hS.F ht⟩) hS.2.2 dX5_isWord_22
set_option maxHeartbeats 4000000 in
set_option maxRecDepth 100000 in
theorem s_X5_word (l : Launch) (dC : Nat → ClassId) (dI : Nat → Nat → Nat) (sz : Nat) (m0 : Nat) (pl : Int32) (x_thrown : Int32) (mB : Nat) (mR : Nat) (x_flags : Int32) (mO : Nat) (x_outCount : Int32) (x_steps : Int32) (mN : Nat) (x_nowFlags : Int32) (x_writePlace : Int32) (x_writeSize : Int32) (x_writeValue : Int32) (x_fault : Int32) (x_halt : Int32) (x_isByte : Int32) (x_atRegister : Int32) (x_atPlace : Int32) (cY : ClassId) (bf : Nat → Int32) (hB : okB bf) : Met l yX5_word wsX5_word ({ frames := 1, cells := 0, slots := 0, locals := 21 }) (va_Pc [.ref m0, .int pl] (q_pre dC dI sz [(m0, .inr (5, [.int x_thrown, .ref mB, .ref mR, .int x_flags, .ref mO, .int x_outCount, .int x_steps, .ref mN, .int x_nowFlags, .int x_writePlace, .int x_writeSize, .int x_writeValue, .int x_fault, .int x_halt, .int x_isByte, .int x_atRegister, .int x_atPlace])), (mB, .inl (cY, 4096, .inl bf))] [(cY, .int)])) (va_Qi (fun (r : Int32) (u9 : Int32) => True) (q_at dC dI (va_A [(m0, .inr (5, [.int x_thrown, .ref mB, .ref mR, .int x_flags, .ref mO, .int x_outCount, .int x_steps, .ref mN, .int x_nowFlags, .int x_writePlace, .int x_writeSize, .int x_writeValue, .int x_fault, .int x_halt, .int x_isByte, .int x_atRegister, .int x_atPlace])), (mB, .inl (cY, 4096, .inl bf))] sz) (fun (u9 : Int32) => [(cY, .int)]) (fun (u9 : Int32) => [(m0, .inr (5, [.int u9, .ref mB, .ref mR, .int x_flags, .ref mO, .int x_outCount, .int x_steps, .ref mN, .int x_nowFlags, .int x_writePlace, .int x_writeSize, .int x_writeValue, .int x_fault, .int x_halt, .int x_isByte, .int x_atRegister, .int x_atPlace])), (mB, .inl (cY, 4096, .inl bf))])) (va_A [(m0, .inr (5, [.int x_thrown, .ref mB, .ref mR, .int x_flags, .ref mO, .int x_outCount, .int x_steps, .ref mN, .int x_nowFlags, .int x_writePlace, .int x_writeSize, .int x_writeValue, .int x_fault, .int x_halt, .int x_isByte, .int x_atRegister, .int x_atPlace])), (mB, .inl (cY, 4096, .inl bf))] sz)) 0 0 (va_A [(m0, .inr (5, [.int x_thrown, .ref mB, .ref mR, .int x_flags, .ref mO, .int x_outCount, .int x_steps, .ref mN, .int x_nowFlags, .int x_writePlace, .int x_writeSize, .int x_writeValue, .int x_fault, .int x_halt, .int x_isByte, .int x_atRegister, .int x_atPlace])), (mB, .inl (cY, 4096, .inl bf))] sz) := by
  refine Met.ofW (cc := cX5_word) (maxL := 2) (ret := (some .int)) (by decide) rfl ?_
  intro p e s m args below meth c s₁ B hml hv
  obtain ⟨rfl, hsz, hP, hK, hD0, hN⟩ := hv
  have hx := B.exec
  have hb := B.bytes
  have hr := B.returns
  have hts := atoms_spec (ws := wsX5_word) B.pre
  have hown : s.vm.findClass RX5 = some m.cls := findClass_of_methodNamed B.named
  have hlocks := B.notSynchronized
  subst hsz
  have hD := hD0.self (sz := s.heap.size)
  generalize hAe : va_A [(m0, .inr (5, [.int x_thrown, .ref mB, .ref mR, .int x_flags, .ref mO, .int x_outCount, .int x_steps, .ref mN, .int x_nowFlags, .int x_writePlace, .int x_writeSize, .int x_writeValue, .int x_fault, .int x_halt, .int x_isByte, .int x_atRegister, .int x_atPlace])), (mB, .inl (cY, 4096, .inl bf))] s.heap.size = A at hD ⊢
  have hA : ∀ q : Nat, s.heap.size ≤ q → A q := fun q h => by rw [← hAe]; exact Or.inr h
  have hS : va_S A s.heap s.heap [] := va_S.rf
  have hP : va_P (dC, dI) vwCl [(m0, .inr (5, [.int x_thrown, .ref mB, .ref mR, .int x_flags, .ref mO, .int x_outCount, .int x_steps, .ref mN, .int x_nowFlags, .int x_writePlace, .int x_writeSize, .int x_writeValue, .int x_fault, .int x_halt, .int x_isByte, .int x_atRegister, .int x_atPlace])), (mB, .inl (cY, 4096, .inl bf))] s.heap := hP
  have hl := lv_entry ([.ref m0, .int pl]) (n := 2) (Nat.le_of_ble_eq_true rfl)
  rw [lg_entry_eq]
  generalize (lg_sl ([.ref m0, .int pl]) ++ List.replicate (2 - (lg_sl ([.ref m0, .int pl])).length) Slot.unset).toArray = ls at hl ⊢
  have hl : lv_has ls 2 [(0, .ref m0), (1, .int pl)] := hl
  refine lv_aload_n hx hb dX5_word_0 rfl (lv_at hl 0 rfl) ?_
  refine lv_iload_n hx hb dX5_word_1 rfl (lv_at hl 1 rfl) ?_
  have hPc := hP.sub (ws' := []) [] rfl
  have hDc := hD.sub (ws' := []) [] (by decide) rfl
  have hKc := hK.sub (tys' := []) [] rfl
  have hFc := va_free (wc := []) hD hS hA [] rfl
  refine va_calli (va_runS (As := [.int pl]) (rest := [.ref m0]) ⟨hx, hb, hml, hown, hts⟩ (c_X5_isWord l dC dI s.heap.size pl) (va_cwS 1 hts gX5_word_X5_isWord rfl rfl rfl (by decide +kernel) ⟨Nat.le_of_ble_eq_true rfl, Nat.le_of_ble_eq_true rfl⟩) ⟨q_blind, fun U hU hW => ⟨rfl, q_pay hU hW hPc hKc hDc hN⟩⟩ rfl rfl hl.1 rfl (lv_room (Nat.le_of_ble_eq_true rfl)) dX5_word_2 ⟨show 0 + 0 ≤ 0 from by omega, show 0 + 0 ≤ 0 from by omega⟩) hS (fun q _ h => hFc q h) hFc (fun r_1 u9 t H locs ht hvm hw_2 hB hz1 hk1 hS => ?_)
  obtain ⟨hP1, hK1, hD1⟩ := hB
  rw [ht] at hP1
  obtain ⟨hP, hD⟩ := va_join (wr := [(m0, .inr (5, [.int x_thrown, .ref mB, .ref mR, .int x_flags, .ref mO, .int x_outCount, .int x_steps, .ref mN, .int x_nowFlags, .int x_writePlace, .int x_writeSize, .int x_writeValue, .int x_fault, .int x_halt, .int x_isByte, .int x_atRegister, .int x_atPlace])), (mB, .inl (cY, 4096, .inl bf))]) (w1 := []) hP hD [] [0, 1] rfl rfl (by decide) (by decide) hk1 hFc hP1 hD1
  have hP : va_P (dC, dI) vwCl [(m0, .inr (5, [.int x_thrown, .ref mB, .ref mR, .int x_flags, .ref mO, .int x_outCount, .int x_steps, .ref mN, .int x_nowFlags, .int x_writePlace, .int x_writeSize, .int x_writeValue, .int x_fault, .int x_halt, .int x_isByte, .int x_atRegister, .int x_atPlace])), (mB, .inl (cY, 4096, .inl bf))] H := hP
  have hD : va_D A [(m0, .inr (5, [.int x_thrown, .ref mB, .ref mR, .int x_flags, .ref mO, .int x_outCount, .int x_steps, .ref mN, .int x_nowFlags, .int x_writePlace, .int x_writeSize, .int x_writeValue, .int x_fault, .int x_halt, .int x_isByte, .int x_atRegister, .int x_atPlace])), (mB, .inl (cY, 4096, .inl bf))] := hD
  refine W.widen (k := 0) (n := 0) (by omega) (by omega) ?_
  try dsimp only at hw_2
  obtain rfl := hw_2
  refine lv_if_eq (tgt := 12) hx hb dX5_word_5 (by decide) (fun c_3 => ?_) (fun c_3 => ?_)
  · refine lv_iconst (v := 1) hx hb dX5_word_12 (by decide) ?_
    refine va_put (D := (dC, dI)) (ci := 5) (v := .int 1) (ty := .int) (C := RX5) (T := TX5) (N := 17) hx hb hts (by decide +kernel) tyX5 tyX5_ok nmX5 hown hK hP hD hS 0 rfl rfl 0 (by decide) (hts (.fieldLink RX5 22 "WordGuestModel" "thrown" "I") (by decide +kernel)) (fun _ h9 => h9) rfl (by decide +kernel) rfl rfl (Nat.le_of_ble_eq_true rfl) dX5_word_13 (fun H locs hP hD hS => ?_)
    have hP : va_P (dC, dI) vwCl [(m0, .inr (5, [.int 1, .ref mB, .ref mR, .int x_flags, .ref mO, .int x_outCount, .int x_steps, .ref mN, .int x_nowFlags, .int x_writePlace, .int x_writeSize, .int x_writeValue, .int x_fault, .int x_halt, .int x_isByte, .int x_atRegister, .int x_atPlace])), (mB, .inl (cY, 4096, .inl bf))] H := hP
    have hD : va_D A [(m0, .inr (5, [.int 1, .ref mB, .ref mR, .int x_flags, .ref mO, .int x_outCount, .int x_steps, .ref mN, .int x_nowFlags, .int x_writePlace, .int x_writeSize, .int x_writeValue, .int x_fault, .int x_halt, .int x_isByte, .int x_atRegister, .int x_atPlace])), (mB, .inl (cY, 4096, .inl bf))] := hD
    refine lv_aload_n hx hb dX5_word_16 rfl (lv_at hl 0 rfl) ?_
    refine va_get (D := (dC, dI)) (ci := 5) (v := .int 1) (C := RX5) (T := TX5) (N := 17) hx hb hts (by decide +kernel) hown hK hP 0 rfl rfl 0 (by decide) (hts (.fieldLink RX5 22 "WordGuestModel" "thrown" "I") (by decide +kernel)) (fun _ h9 => h9) rfl dX5_word_17 ?_
    refine lv_if_le (tgt := 27) hx hb dX5_word_20 (by decide) (fun c9 => absurd c9 (by decide)) (fun c_4 => ?_)
    refine lv_iconst (v := 0) hx hb dX5_word_23 (by decide) ?_
    refine lv_goto (tgt := 32) hx hb dX5_word_24 (by decide) ?_
    have hP9 := hP.sub (ws' := [(m0, .inr (5, [.int 1, .ref mB, .ref mR, .int x_flags, .ref mO, .int x_outCount, .int x_steps, .ref mN, .int x_nowFlags, .int x_writePlace, .int x_writeSize, .int x_writeValue, .int x_fault, .int x_halt, .int x_isByte, .int x_atRegister, .int x_atPlace])), (mB, .inl (cY, 4096, .inl bf))]) [0, 1] rfl
    have hD9 := hD.sub (ws' := [(m0, .inr (5, [.int 1, .ref mB, .ref mR, .int x_flags, .ref mO, .int x_outCount, .int x_steps, .ref mN, .int x_nowFlags, .int x_writePlace, .int x_writeSize, .int x_writeValue, .int x_fault, .int x_halt, .int x_isByte, .int x_atRegister, .int x_atPlace])), (mB, .inl (cY, 4096, .inl bf))]) [0, 1] (by decide) rfl
    have hK9 := hK.sub (tys' := [(cY, .int)]) [0] rfl
    exact W.iret (v := 0) hx hb hr (fun t ht hW => ⟨⟨0, 1, rfl, trivial, by rw [ht]; exact hP9, va_K.moved hW.alike hK9, hD9⟩, hS.F ht⟩) hS.2.2 dX5_word_32
  · refine lv_iconst (v := 0) hx hb dX5_word_8 (by decide) ?_
    refine lv_goto (tgt := 13) hx hb dX5_word_9 (by decide) ?_
    refine va_put (D := (dC, dI)) (ci := 5) (v := .int 0) (ty := .int) (C := RX5) (T := TX5) (N := 17) hx hb hts (by decide +kernel) tyX5 tyX5_ok nmX5 hown hK hP hD hS 0 rfl rfl 0 (by decide) (hts (.fieldLink RX5 22 "WordGuestModel" "thrown" "I") (by decide +kernel)) (fun _ h9 => h9) rfl (by decide +kernel) rfl rfl (Nat.le_of_ble_eq_true rfl) dX5_word_13 (fun H locs hP hD hS => ?_)
    have hP : va_P (dC, dI) vwCl [(m0, .inr (5, [.int 0, .ref mB, .ref mR, .int x_flags, .ref mO, .int x_outCount, .int x_steps, .ref mN, .int x_nowFlags, .int x_writePlace, .int x_writeSize, .int x_writeValue, .int x_fault, .int x_halt, .int x_isByte, .int x_atRegister, .int x_atPlace])), (mB, .inl (cY, 4096, .inl bf))] H := hP
    have hD : va_D A [(m0, .inr (5, [.int 0, .ref mB, .ref mR, .int x_flags, .ref mO, .int x_outCount, .int x_steps, .ref mN, .int x_nowFlags, .int x_writePlace, .int x_writeSize, .int x_writeValue, .int x_fault, .int x_halt, .int x_isByte, .int x_atRegister, .int x_atPlace])), (mB, .inl (cY, 4096, .inl bf))] := hD
    refine lv_aload_n hx hb dX5_word_16 rfl (lv_at hl 0 rfl) ?_
    refine va_get (D := (dC, dI)) (ci := 5) (v := .int 0) (C := RX5) (T := TX5) (N := 17) hx hb hts (by decide +kernel) hown hK hP 0 rfl rfl 0 (by decide) (hts (.fieldLink RX5 22 "WordGuestModel" "thrown" "I") (by decide +kernel)) (fun _ h9 => h9) rfl dX5_word_17 ?_
    refine lv_if_le (tgt := 27) hx hb dX5_word_20 (by decide) (fun c_5 => ?_) (fun c9 => absurd (by decide) c9)
    refine lv_aload_n hx hb dX5_word_27 rfl (lv_at hl 0 rfl) ?_
    refine lv_iload_n hx hb dX5_word_28 rfl (lv_at hl 1 rfl) ?_
    have hPc := hP.sub (ws' := [(m0, .inr (5, [.int 0, .ref mB, .ref mR, .int x_flags, .ref mO, .int x_outCount, .int x_steps, .ref mN, .int x_nowFlags, .int x_writePlace, .int x_writeSize, .int x_writeValue, .int x_fault, .int x_halt, .int x_isByte, .int x_atRegister, .int x_atPlace])), (mB, .inl (cY, 4096, .inl bf))]) [0, 1] rfl
    have hDc := hD.sub (ws' := [(m0, .inr (5, [.int 0, .ref mB, .ref mR, .int x_flags, .ref mO, .int x_outCount, .int x_steps, .ref mN, .int x_nowFlags, .int x_writePlace, .int x_writeSize, .int x_writeValue, .int x_fault, .int x_halt, .int x_isByte, .int x_atRegister, .int x_atPlace])), (mB, .inl (cY, 4096, .inl bf))]) [0, 1] (by decide) rfl
    have hKc := hK.sub (tys' := [(cY, .int)]) [0] rfl
    have hFc := va_free (wc := [(m0, .inr (5, [.int 0, .ref mB, .ref mR, .int x_flags, .ref mO, .int x_outCount, .int x_steps, .ref mN, .int x_nowFlags, .int x_writePlace, .int x_writeSize, .int x_writeValue, .int x_fault, .int x_halt, .int x_isByte, .int x_atRegister, .int x_atPlace])), (mB, .inl (cY, 4096, .inl bf))]) hD hS hA [0, 1] rfl
    refine va_calli (va_runV (C := RX5) (b := m0) (As := [.int pl]) (rest := []) ⟨hx, hb, hml, hown, hts⟩ (s_X5_wordAt l dC dI H.size m0 pl (0 : Int32) mB mR x_flags mO x_outCount x_steps mN x_nowFlags x_writePlace x_writeSize x_writeValue x_fault x_halt x_isByte x_atRegister x_atPlace cY bf (iw_in c_3) (iw_in1 c_3) hB) (cwV 1 hts gX5_word_X5_wordAt rfl rfl rfl (by decide +kernel) ⟨Nat.le_of_ble_eq_true rfl, Nat.le_of_ble_eq_true rfl⟩) ⟨q_blind, va_recv hK hP (ci := 5) (q0 := 0) rfl rfl, fun U hU hW => ⟨rfl, q_pay hU hW hPc hKc hDc hN⟩⟩ rfl rfl hl.1 rfl (lv_room (Nat.le_of_ble_eq_true rfl)) dX5_word_29 ⟨show 0 + 0 ≤ 0 from by omega, show 0 + 0 ≤ 0 from by omega⟩) hS (fun q _ h => hFc q h) hFc (fun r_6 u9 t H locs ht hvm hw_7 hB hz1 hk1 hS => ?_)
    obtain ⟨hP1, hK1, hD1⟩ := hB
    rw [ht] at hP1
    obtain ⟨hP, hD⟩ := va_join (wr := []) (w1 := [(m0, .inr (5, [.int 0, .ref mB, .ref mR, .int x_flags, .ref mO, .int x_outCount, .int x_steps, .ref mN, .int x_nowFlags, .int x_writePlace, .int x_writeSize, .int x_writeValue, .int x_fault, .int x_halt, .int x_isByte, .int x_atRegister, .int x_atPlace])), (mB, .inl (cY, 4096, .inl bf))]) hP hD [0, 1] [] rfl rfl (by decide) (by decide) hk1 hFc hP1 hD1
    have hP : va_P (dC, dI) vwCl [(m0, .inr (5, [.int 0, .ref mB, .ref mR, .int x_flags, .ref mO, .int x_outCount, .int x_steps, .ref mN, .int x_nowFlags, .int x_writePlace, .int x_writeSize, .int x_writeValue, .int x_fault, .int x_halt, .int x_isByte, .int x_atRegister, .int x_atPlace])), (mB, .inl (cY, 4096, .inl bf))] H := hP
    have hD : va_D A [(m0, .inr (5, [.int 0, .ref mB, .ref mR, .int x_flags, .ref mO, .int x_outCount, .int x_steps, .ref mN, .int x_nowFlags, .int x_writePlace, .int x_writeSize, .int x_writeValue, .int x_fault, .int x_halt, .int x_isByte, .int x_atRegister, .int x_atPlace])), (mB, .inl (cY, 4096, .inl bf))] := hD
    refine W.widen (k := 0) (n := 0) (by omega) (by omega) ?_
    try dsimp only at hw_7
    have hP9 := hP.sub (ws' := [(m0, .inr (5, [.int 0, .ref mB, .ref mR, .int x_flags, .ref mO, .int x_outCount, .int x_steps, .ref mN, .int x_nowFlags, .int x_writePlace, .int x_writeSize, .int x_writeValue, .int x_fault, .int x_halt, .int x_isByte, .int x_atRegister, .int x_atPlace])), (mB, .inl (cY, 4096, .inl bf))]) [0, 1] rfl
    have hD9 := hD.sub (ws' := [(m0, .inr (5, [.int 0, .ref mB, .ref mR, .int x_flags, .ref mO, .int x_outCount, .int x_steps, .ref mN, .int x_nowFlags, .int x_writePlace, .int x_writeSize, .int x_writeValue, .int x_fault, .int x_halt, .int x_isByte, .int x_atRegister, .int x_atPlace])), (mB, .inl (cY, 4096, .inl bf))]) [0, 1] (by decide) rfl
    have hK9 := hK.sub (tys' := [(cY, .int)]) [0] rfl
    exact W.iret (v := r_6) hx hb hr (fun t ht hW => ⟨⟨r_6, 0, rfl, trivial, by rw [ht]; exact hP9, va_K.moved hW.alike hK9, hD9⟩, hS.F ht⟩) hS.2.2 dX5_word_32
set_option maxHeartbeats 4000000 in
set_option maxRecDepth 100000 in
theorem s_X5_poke (l : Launch) (dC : Nat → ClassId) (dI : Nat → Nat → Nat) (sz : Nat) (m0 : Nat) (pl : Int32) (v : Int32) (x_thrown : Int32) (mB : Nat) (mR : Nat) (x_flags : Int32) (mO : Nat) (x_outCount : Int32) (x_steps : Int32) (mN : Nat) (x_nowFlags : Int32) (x_writePlace : Int32) (x_writeSize : Int32) (x_writeValue : Int32) (x_fault : Int32) (x_halt : Int32) (x_isByte : Int32) (x_atRegister : Int32) (x_atPlace : Int32) (cY : ClassId) (bf : Nat → Int32) (hB : okB bf) : Met l yX5_poke wsX5_poke ({ frames := 1, cells := 0, slots := 0, locals := 22 }) (va_Pc [.ref m0, .int pl, .int v] (q_pre dC dI sz [(m0, .inr (5, [.int x_thrown, .ref mB, .ref mR, .int x_flags, .ref mO, .int x_outCount, .int x_steps, .ref mN, .int x_nowFlags, .int x_writePlace, .int x_writeSize, .int x_writeValue, .int x_fault, .int x_halt, .int x_isByte, .int x_atRegister, .int x_atPlace])), (mB, .inl (cY, 4096, .inl bf))] [(cY, .int)])) (va_Qi (fun (r : Int32) (u9 : Int32 × (Nat → Int32)) => okB u9.2) (q_at dC dI (va_A [(m0, .inr (5, [.int x_thrown, .ref mB, .ref mR, .int x_flags, .ref mO, .int x_outCount, .int x_steps, .ref mN, .int x_nowFlags, .int x_writePlace, .int x_writeSize, .int x_writeValue, .int x_fault, .int x_halt, .int x_isByte, .int x_atRegister, .int x_atPlace])), (mB, .inl (cY, 4096, .inl bf))] sz) (fun (u9 : Int32 × (Nat → Int32)) => [(cY, .int)]) (fun (u9 : Int32 × (Nat → Int32)) => [(m0, .inr (5, [.int u9.1, .ref mB, .ref mR, .int x_flags, .ref mO, .int x_outCount, .int x_steps, .ref mN, .int x_nowFlags, .int x_writePlace, .int x_writeSize, .int x_writeValue, .int x_fault, .int x_halt, .int x_isByte, .int x_atRegister, .int x_atPlace])), (mB, .inl (cY, 4096, .inl u9.2))])) (va_A [(m0, .inr (5, [.int x_thrown, .ref mB, .ref mR, .int x_flags, .ref mO, .int x_outCount, .int x_steps, .ref mN, .int x_nowFlags, .int x_writePlace, .int x_writeSize, .int x_writeValue, .int x_fault, .int x_halt, .int x_isByte, .int x_atRegister, .int x_atPlace])), (mB, .inl (cY, 4096, .inl bf))] sz)) 0 0 (va_A [(m0, .inr (5, [.int x_thrown, .ref mB, .ref mR, .int x_flags, .ref mO, .int x_outCount, .int x_steps, .ref mN, .int x_nowFlags, .int x_writePlace, .int x_writeSize, .int x_writeValue, .int x_fault, .int x_halt, .int x_isByte, .int x_atRegister, .int x_atPlace])), (mB, .inl (cY, 4096, .inl bf))] sz) := by
  refine Met.ofW (cc := cX5_poke) (maxL := 4) (ret := (some .boolean)) (by decide) rfl ?_
  intro p e s m args below meth c s₁ B hml hv
  obtain ⟨rfl, hsz, hP, hK, hD0, hN⟩ := hv
  have hx := B.exec
  have hb := B.bytes
  have hr := B.returns
  have hts := atoms_spec (ws := wsX5_poke) B.pre
  have hown : s.vm.findClass RX5 = some m.cls := findClass_of_methodNamed B.named
  have hlocks := B.notSynchronized
  subst hsz
  have hD := hD0.self (sz := s.heap.size)
  generalize hAe : va_A [(m0, .inr (5, [.int x_thrown, .ref mB, .ref mR, .int x_flags, .ref mO, .int x_outCount, .int x_steps, .ref mN, .int x_nowFlags, .int x_writePlace, .int x_writeSize, .int x_writeValue, .int x_fault, .int x_halt, .int x_isByte, .int x_atRegister, .int x_atPlace])), (mB, .inl (cY, 4096, .inl bf))] s.heap.size = A at hD ⊢
  have hA : ∀ q : Nat, s.heap.size ≤ q → A q := fun q h => by rw [← hAe]; exact Or.inr h
  have hS : va_S A s.heap s.heap [] := va_S.rf
  have hP : va_P (dC, dI) vwCl [(m0, .inr (5, [.int x_thrown, .ref mB, .ref mR, .int x_flags, .ref mO, .int x_outCount, .int x_steps, .ref mN, .int x_nowFlags, .int x_writePlace, .int x_writeSize, .int x_writeValue, .int x_fault, .int x_halt, .int x_isByte, .int x_atRegister, .int x_atPlace])), (mB, .inl (cY, 4096, .inl bf))] s.heap := hP
  have hl := lv_entry ([.ref m0, .int pl, .int v]) (n := 4) (Nat.le_of_ble_eq_true rfl)
  rw [lg_entry_eq]
  generalize (lg_sl ([.ref m0, .int pl, .int v]) ++ List.replicate (4 - (lg_sl ([.ref m0, .int pl, .int v])).length) Slot.unset).toArray = ls at hl ⊢
  have hl : lv_has ls 4 [(0, .ref m0), (1, .int pl), (2, .int v)] := hl
  refine lv_aload_n hx hb dX5_poke_0 rfl (lv_at hl 0 rfl) ?_
  refine lv_iload_n hx hb dX5_poke_1 rfl (lv_at hl 1 rfl) ?_
  have hPc := hP.sub (ws' := []) [] rfl
  have hDc := hD.sub (ws' := []) [] (by decide) rfl
  have hKc := hK.sub (tys' := []) [] rfl
  have hFc := va_free (wc := []) hD hS hA [] rfl
  refine va_calli (va_runS (As := [.int pl]) (rest := [.ref m0]) ⟨hx, hb, hml, hown, hts⟩ (c_X5_isWord l dC dI s.heap.size pl) (va_cwS 1 hts gX5_poke_X5_isWord rfl rfl rfl (by decide +kernel) ⟨Nat.le_of_ble_eq_true rfl, Nat.le_of_ble_eq_true rfl⟩) ⟨q_blind, fun U hU hW => ⟨rfl, q_pay hU hW hPc hKc hDc hN⟩⟩ rfl rfl hl.1 rfl (lv_room (Nat.le_of_ble_eq_true rfl)) dX5_poke_2 ⟨show 0 + 0 ≤ 0 from by omega, show 0 + 0 ≤ 0 from by omega⟩) hS (fun q _ h => hFc q h) hFc (fun r_1 u9 t H locs ht hvm hw_2 hB hz1 hk1 hS => ?_)
  obtain ⟨hP1, hK1, hD1⟩ := hB
  rw [ht] at hP1
  obtain ⟨hP, hD⟩ := va_join (wr := [(m0, .inr (5, [.int x_thrown, .ref mB, .ref mR, .int x_flags, .ref mO, .int x_outCount, .int x_steps, .ref mN, .int x_nowFlags, .int x_writePlace, .int x_writeSize, .int x_writeValue, .int x_fault, .int x_halt, .int x_isByte, .int x_atRegister, .int x_atPlace])), (mB, .inl (cY, 4096, .inl bf))]) (w1 := []) hP hD [] [0, 1] rfl rfl (by decide) (by decide) hk1 hFc hP1 hD1
  have hP : va_P (dC, dI) vwCl [(m0, .inr (5, [.int x_thrown, .ref mB, .ref mR, .int x_flags, .ref mO, .int x_outCount, .int x_steps, .ref mN, .int x_nowFlags, .int x_writePlace, .int x_writeSize, .int x_writeValue, .int x_fault, .int x_halt, .int x_isByte, .int x_atRegister, .int x_atPlace])), (mB, .inl (cY, 4096, .inl bf))] H := hP
  have hD : va_D A [(m0, .inr (5, [.int x_thrown, .ref mB, .ref mR, .int x_flags, .ref mO, .int x_outCount, .int x_steps, .ref mN, .int x_nowFlags, .int x_writePlace, .int x_writeSize, .int x_writeValue, .int x_fault, .int x_halt, .int x_isByte, .int x_atRegister, .int x_atPlace])), (mB, .inl (cY, 4096, .inl bf))] := hD
  refine W.widen (k := 0) (n := 0) (by omega) (by omega) ?_
  try dsimp only at hw_2
  obtain rfl := hw_2
  refine lv_if_eq (tgt := 12) hx hb dX5_poke_5 (by decide) (fun c_3 => ?_) (fun c_3 => ?_)
  · refine lv_iconst (v := 1) hx hb dX5_poke_12 (by decide) ?_
    refine va_put (D := (dC, dI)) (ci := 5) (v := .int 1) (ty := .int) (C := RX5) (T := TX5) (N := 17) hx hb hts (by decide +kernel) tyX5 tyX5_ok nmX5 hown hK hP hD hS 0 rfl rfl 0 (by decide) (hts (.fieldLink RX5 22 "WordGuestModel" "thrown" "I") (by decide +kernel)) (fun _ h9 => h9) rfl (by decide +kernel) rfl rfl (Nat.le_of_ble_eq_true rfl) dX5_poke_13 (fun H locs hP hD hS => ?_)
    have hP : va_P (dC, dI) vwCl [(m0, .inr (5, [.int 1, .ref mB, .ref mR, .int x_flags, .ref mO, .int x_outCount, .int x_steps, .ref mN, .int x_nowFlags, .int x_writePlace, .int x_writeSize, .int x_writeValue, .int x_fault, .int x_halt, .int x_isByte, .int x_atRegister, .int x_atPlace])), (mB, .inl (cY, 4096, .inl bf))] H := hP
    have hD : va_D A [(m0, .inr (5, [.int 1, .ref mB, .ref mR, .int x_flags, .ref mO, .int x_outCount, .int x_steps, .ref mN, .int x_nowFlags, .int x_writePlace, .int x_writeSize, .int x_writeValue, .int x_fault, .int x_halt, .int x_isByte, .int x_atRegister, .int x_atPlace])), (mB, .inl (cY, 4096, .inl bf))] := hD
    refine lv_aload_n hx hb dX5_poke_16 rfl (lv_at hl 0 rfl) ?_
    refine va_get (D := (dC, dI)) (ci := 5) (v := .int 1) (C := RX5) (T := TX5) (N := 17) hx hb hts (by decide +kernel) hown hK hP 0 rfl rfl 0 (by decide) (hts (.fieldLink RX5 22 "WordGuestModel" "thrown" "I") (by decide +kernel)) (fun _ h9 => h9) rfl dX5_poke_17 ?_
    refine lv_if_le (tgt := 25) hx hb dX5_poke_20 (by decide) (fun c9 => absurd c9 (by decide)) (fun c_4 => ?_)
    refine lv_iconst (v := 0) hx hb dX5_poke_23 (by decide) ?_
    have hP9 := hP.sub (ws' := [(m0, .inr (5, [.int 1, .ref mB, .ref mR, .int x_flags, .ref mO, .int x_outCount, .int x_steps, .ref mN, .int x_nowFlags, .int x_writePlace, .int x_writeSize, .int x_writeValue, .int x_fault, .int x_halt, .int x_isByte, .int x_atRegister, .int x_atPlace])), (mB, .inl (cY, 4096, .inl bf))]) [0, 1] rfl
    have hD9 := hD.sub (ws' := [(m0, .inr (5, [.int 1, .ref mB, .ref mR, .int x_flags, .ref mO, .int x_outCount, .int x_steps, .ref mN, .int x_nowFlags, .int x_writePlace, .int x_writeSize, .int x_writeValue, .int x_fault, .int x_halt, .int x_isByte, .int x_atRegister, .int x_atPlace])), (mB, .inl (cY, 4096, .inl bf))]) [0, 1] (by decide) rfl
    have hK9 := hK.sub (tys' := [(cY, .int)]) [0] rfl
    exact W.zret (v := 0) (ty := .boolean) hx hb hr (by decide) (fun t ht hW => ⟨⟨0, (1, bf), rfl, hB, by rw [ht]; exact hP9, va_K.moved hW.alike hK9, hD9⟩, hS.F ht⟩) hS.2.2 dX5_poke_24
  · refine lv_iconst (v := 0) hx hb dX5_poke_8 (by decide) ?_
    refine lv_goto (tgt := 13) hx hb dX5_poke_9 (by decide) ?_
    refine va_put (D := (dC, dI)) (ci := 5) (v := .int 0) (ty := .int) (C := RX5) (T := TX5) (N := 17) hx hb hts (by decide +kernel) tyX5 tyX5_ok nmX5 hown hK hP hD hS 0 rfl rfl 0 (by decide) (hts (.fieldLink RX5 22 "WordGuestModel" "thrown" "I") (by decide +kernel)) (fun _ h9 => h9) rfl (by decide +kernel) rfl rfl (Nat.le_of_ble_eq_true rfl) dX5_poke_13 (fun H locs hP hD hS => ?_)
    have hP : va_P (dC, dI) vwCl [(m0, .inr (5, [.int 0, .ref mB, .ref mR, .int x_flags, .ref mO, .int x_outCount, .int x_steps, .ref mN, .int x_nowFlags, .int x_writePlace, .int x_writeSize, .int x_writeValue, .int x_fault, .int x_halt, .int x_isByte, .int x_atRegister, .int x_atPlace])), (mB, .inl (cY, 4096, .inl bf))] H := hP
    have hD : va_D A [(m0, .inr (5, [.int 0, .ref mB, .ref mR, .int x_flags, .ref mO, .int x_outCount, .int x_steps, .ref mN, .int x_nowFlags, .int x_writePlace, .int x_writeSize, .int x_writeValue, .int x_fault, .int x_halt, .int x_isByte, .int x_atRegister, .int x_atPlace])), (mB, .inl (cY, 4096, .inl bf))] := hD
    refine lv_aload_n hx hb dX5_poke_16 rfl (lv_at hl 0 rfl) ?_
    refine va_get (D := (dC, dI)) (ci := 5) (v := .int 0) (C := RX5) (T := TX5) (N := 17) hx hb hts (by decide +kernel) hown hK hP 0 rfl rfl 0 (by decide) (hts (.fieldLink RX5 22 "WordGuestModel" "thrown" "I") (by decide +kernel)) (fun _ h9 => h9) rfl dX5_poke_17 ?_
    refine lv_if_le (tgt := 25) hx hb dX5_poke_20 (by decide) (fun c_5 => ?_) (fun c9 => absurd (by decide) c9)
    refine lv_aload_n hx hb dX5_poke_25 rfl (lv_at hl 0 rfl) ?_
    refine lv_iload_n hx hb dX5_poke_26 rfl (lv_at hl 1 rfl) ?_
    have hPc := hP.sub (ws' := [(m0, .inr (5, [.int 0, .ref mB, .ref mR, .int x_flags, .ref mO, .int x_outCount, .int x_steps, .ref mN, .int x_nowFlags, .int x_writePlace, .int x_writeSize, .int x_writeValue, .int x_fault, .int x_halt, .int x_isByte, .int x_atRegister, .int x_atPlace])), (mB, .inl (cY, 4096, .inl bf))]) [0, 1] rfl
    have hDc := hD.sub (ws' := [(m0, .inr (5, [.int 0, .ref mB, .ref mR, .int x_flags, .ref mO, .int x_outCount, .int x_steps, .ref mN, .int x_nowFlags, .int x_writePlace, .int x_writeSize, .int x_writeValue, .int x_fault, .int x_halt, .int x_isByte, .int x_atRegister, .int x_atPlace])), (mB, .inl (cY, 4096, .inl bf))]) [0, 1] (by decide) rfl
    have hKc := hK.sub (tys' := [(cY, .int)]) [0] rfl
    have hFc := va_free (wc := [(m0, .inr (5, [.int 0, .ref mB, .ref mR, .int x_flags, .ref mO, .int x_outCount, .int x_steps, .ref mN, .int x_nowFlags, .int x_writePlace, .int x_writeSize, .int x_writeValue, .int x_fault, .int x_halt, .int x_isByte, .int x_atRegister, .int x_atPlace])), (mB, .inl (cY, 4096, .inl bf))]) hD hS hA [0, 1] rfl
    refine va_calli (va_runV (C := RX5) (b := m0) (As := [.int pl]) (rest := []) ⟨hx, hb, hml, hown, hts⟩ (s_X5_wordAt l dC dI H.size m0 pl (0 : Int32) mB mR x_flags mO x_outCount x_steps mN x_nowFlags x_writePlace x_writeSize x_writeValue x_fault x_halt x_isByte x_atRegister x_atPlace cY bf (iw_in c_3) (iw_in1 c_3) hB) (cwV 1 hts gX5_poke_X5_wordAt rfl rfl rfl (by decide +kernel) ⟨Nat.le_of_ble_eq_true rfl, Nat.le_of_ble_eq_true rfl⟩) ⟨q_blind, va_recv hK hP (ci := 5) (q0 := 0) rfl rfl, fun U hU hW => ⟨rfl, q_pay hU hW hPc hKc hDc hN⟩⟩ rfl rfl hl.1 rfl (lv_room (Nat.le_of_ble_eq_true rfl)) dX5_poke_27 ⟨show 0 + 0 ≤ 0 from by omega, show 0 + 0 ≤ 0 from by omega⟩) hS (fun q _ h => hFc q h) hFc (fun r_6 u9 t H locs ht hvm hw_7 hB hz1 hk1 hS => ?_)
    obtain ⟨hP1, hK1, hD1⟩ := hB
    rw [ht] at hP1
    obtain ⟨hP, hD⟩ := va_join (wr := []) (w1 := [(m0, .inr (5, [.int 0, .ref mB, .ref mR, .int x_flags, .ref mO, .int x_outCount, .int x_steps, .ref mN, .int x_nowFlags, .int x_writePlace, .int x_writeSize, .int x_writeValue, .int x_fault, .int x_halt, .int x_isByte, .int x_atRegister, .int x_atPlace])), (mB, .inl (cY, 4096, .inl bf))]) hP hD [0, 1] [] rfl rfl (by decide) (by decide) hk1 hFc hP1 hD1
    have hP : va_P (dC, dI) vwCl [(m0, .inr (5, [.int 0, .ref mB, .ref mR, .int x_flags, .ref mO, .int x_outCount, .int x_steps, .ref mN, .int x_nowFlags, .int x_writePlace, .int x_writeSize, .int x_writeValue, .int x_fault, .int x_halt, .int x_isByte, .int x_atRegister, .int x_atPlace])), (mB, .inl (cY, 4096, .inl bf))] H := hP
    have hD : va_D A [(m0, .inr (5, [.int 0, .ref mB, .ref mR, .int x_flags, .ref mO, .int x_outCount, .int x_steps, .ref mN, .int x_nowFlags, .int x_writePlace, .int x_writeSize, .int x_writeValue, .int x_fault, .int x_halt, .int x_isByte, .int x_atRegister, .int x_atPlace])), (mB, .inl (cY, 4096, .inl bf))] := hD
    refine W.widen (k := 0) (n := 0) (by omega) (by omega) ?_
    try dsimp only at hw_7
    refine lv_iload_n hx hb dX5_poke_30 rfl (lv_at hl 2 rfl) ?_
    refine lv_ldc (v := 65535) hx hb hown (hts (.constant RX5 30 (65535)) (by decide +kernel)) dX5_poke_31 ?_
    refine lv_iand hx hb dX5_poke_33 ?_
    refine q_bool (ls := ls) 42 [] (fun b_9 hb_10 => ?_) (fun jn => ?_)
    · refine lv_istore_n (lv' := [(3, .int b_9), (0, .ref m0), (1, .int pl), (2, .int v)]) hx hb dX5_poke_42 rfl hl (by decide) rfl (fun ls hl => ?_)
      refine lv_aload_n hx hb dX5_poke_43 rfl (lv_at hl 1 rfl) ?_
      refine lv_iload_n hx hb dX5_poke_44 rfl (lv_at hl 2 rfl) ?_
      refine lv_iload_n hx hb dX5_poke_45 rfl (lv_at hl 3 rfl) ?_
      have hPc := hP.sub (ws' := [(m0, .inr (5, [.int 0, .ref mB, .ref mR, .int x_flags, .ref mO, .int x_outCount, .int x_steps, .ref mN, .int x_nowFlags, .int x_writePlace, .int x_writeSize, .int x_writeValue, .int x_fault, .int x_halt, .int x_isByte, .int x_atRegister, .int x_atPlace])), (mB, .inl (cY, 4096, .inl bf))]) [0, 1] rfl
      have hDc := hD.sub (ws' := [(m0, .inr (5, [.int 0, .ref mB, .ref mR, .int x_flags, .ref mO, .int x_outCount, .int x_steps, .ref mN, .int x_nowFlags, .int x_writePlace, .int x_writeSize, .int x_writeValue, .int x_fault, .int x_halt, .int x_isByte, .int x_atRegister, .int x_atPlace])), (mB, .inl (cY, 4096, .inl bf))]) [0, 1] (by decide) rfl
      have hKc := hK.sub (tys' := [(cY, .int)]) [0] rfl
      have hFc := va_free (wc := [(m0, .inr (5, [.int 0, .ref mB, .ref mR, .int x_flags, .ref mO, .int x_outCount, .int x_steps, .ref mN, .int x_nowFlags, .int x_writePlace, .int x_writeSize, .int x_writeValue, .int x_fault, .int x_halt, .int x_isByte, .int x_atRegister, .int x_atPlace])), (mB, .inl (cY, 4096, .inl bf))]) hD hS hA [0, 1] rfl
      refine va_callv (va_runV (C := RX5) (b := m0) (As := [.int pl, .int v]) (rest := []) ⟨hx, hb, hml, hown, hts⟩ (s_X5_setWord l dC dI H.size m0 pl v (0 : Int32) mB mR x_flags mO x_outCount x_steps mN x_nowFlags x_writePlace x_writeSize x_writeValue x_fault x_halt x_isByte x_atRegister x_atPlace cY bf (iw_in c_3) (iw_in1 c_3) hB) (cwV 2 hts gX5_poke_X5_setWord rfl rfl rfl (by decide +kernel) ⟨Nat.le_of_ble_eq_true rfl, Nat.le_of_ble_eq_true rfl⟩) ⟨q_blind, va_recv hK hP (ci := 5) (q0 := 0) rfl rfl, fun U hU hW => ⟨rfl, q_pay hU hW hPc hKc hDc hN⟩⟩ rfl rfl hl.1 rfl (lv_room (Nat.le_of_ble_eq_true rfl)) dX5_poke_46 ⟨show 0 + 0 ≤ 0 from by omega, show 0 + 0 ≤ 0 from by omega⟩) hS (fun q _ h => hFc q h) hFc (fun u9 t H locs ht hvm hw_12 hB hz1 hk1 hS => ?_)
      obtain ⟨bf2_13, rfl⟩ : ∃ z, z = u9 := ⟨_, rfl⟩
      obtain ⟨hP1, hK1, hD1⟩ := hB
      rw [ht] at hP1
      obtain ⟨hP, hD⟩ := va_join (wr := []) (w1 := [(m0, .inr (5, [.int 0, .ref mB, .ref mR, .int x_flags, .ref mO, .int x_outCount, .int x_steps, .ref mN, .int x_nowFlags, .int x_writePlace, .int x_writeSize, .int x_writeValue, .int x_fault, .int x_halt, .int x_isByte, .int x_atRegister, .int x_atPlace])), (mB, .inl (cY, 4096, .inl bf2_13))]) hP hD [0, 1] [] rfl rfl (by decide) (by decide) hk1 hFc hP1 hD1
      have hP : va_P (dC, dI) vwCl [(m0, .inr (5, [.int 0, .ref mB, .ref mR, .int x_flags, .ref mO, .int x_outCount, .int x_steps, .ref mN, .int x_nowFlags, .int x_writePlace, .int x_writeSize, .int x_writeValue, .int x_fault, .int x_halt, .int x_isByte, .int x_atRegister, .int x_atPlace])), (mB, .inl (cY, 4096, .inl bf2_13))] H := hP
      have hD : va_D A [(m0, .inr (5, [.int 0, .ref mB, .ref mR, .int x_flags, .ref mO, .int x_outCount, .int x_steps, .ref mN, .int x_nowFlags, .int x_writePlace, .int x_writeSize, .int x_writeValue, .int x_fault, .int x_halt, .int x_isByte, .int x_atRegister, .int x_atPlace])), (mB, .inl (cY, 4096, .inl bf2_13))] := hD
      refine W.widen (k := 0) (n := 0) (by omega) (by omega) ?_
      try dsimp only at hw_12
      refine lv_iload_n hx hb dX5_poke_49 rfl (lv_at hl 0 rfl) ?_
      have hP9 := hP.sub (ws' := [(m0, .inr (5, [.int 0, .ref mB, .ref mR, .int x_flags, .ref mO, .int x_outCount, .int x_steps, .ref mN, .int x_nowFlags, .int x_writePlace, .int x_writeSize, .int x_writeValue, .int x_fault, .int x_halt, .int x_isByte, .int x_atRegister, .int x_atPlace])), (mB, .inl (cY, 4096, .inl bf2_13))]) [0, 1] rfl
      have hD9 := hD.sub (ws' := [(m0, .inr (5, [.int 0, .ref mB, .ref mR, .int x_flags, .ref mO, .int x_outCount, .int x_steps, .ref mN, .int x_nowFlags, .int x_writePlace, .int x_writeSize, .int x_writeValue, .int x_fault, .int x_halt, .int x_isByte, .int x_atRegister, .int x_atPlace])), (mB, .inl (cY, 4096, .inl bf2_13))]) [0, 1] (by decide) rfl
      have hK9 := hK.sub (tys' := [(cY, .int)]) [0] rfl
      exact W.zret (v := b_9) (ty := .boolean) hx hb hr (q_nz hb_10) (fun t ht hW => ⟨⟨b_9, (0, bf2_13), rfl, hw_12, by rw [ht]; exact hP9, va_K.moved hW.alike hK9, hD9⟩, hS.F ht⟩) hS.2.2 dX5_poke_50
    refine lv_icmp_eq (tgt := 41) hx hb dX5_poke_34 (by decide) (fun c_8 => ?_) (fun c_8 => ?_)
    · refine lv_iconst (v := 0) hx hb dX5_poke_41 (by decide) ?_
      exact jn _ (Or.inl rfl)
    · refine lv_iconst (v := 1) hx hb dX5_poke_37 (by decide) ?_
      refine lv_goto (tgt := 42) hx hb dX5_poke_38 (by decide) ?_
      exact jn _ (Or.inr rfl)
set_option maxHeartbeats 4000000 in
set_option maxRecDepth 100000 in
theorem s_X5_register (l : Launch) (dC : Nat → ClassId) (dI : Nat → Nat → Nat) (sz : Nat) (m0 : Nat) (k : Int32) (x_thrown : Int32) (mB : Nat) (mR : Nat) (x_flags : Int32) (mO : Nat) (x_outCount : Int32) (x_steps : Int32) (mN : Nat) (x_nowFlags : Int32) (x_writePlace : Int32) (x_writeSize : Int32) (x_writeValue : Int32) (x_fault : Int32) (x_halt : Int32) (x_isByte : Int32) (x_atRegister : Int32) (x_atPlace : Int32) (cG : ClassId) (rf : Nat → Int32)  : Met l yX5_register wsX5_register ({ frames := 0, cells := 0, slots := 0, locals := 0 }) (va_Pc [.ref m0, .int k] (q_pre dC dI sz [(m0, .inr (5, [.int x_thrown, .ref mB, .ref mR, .int x_flags, .ref mO, .int x_outCount, .int x_steps, .ref mN, .int x_nowFlags, .int x_writePlace, .int x_writeSize, .int x_writeValue, .int x_fault, .int x_halt, .int x_isByte, .int x_atRegister, .int x_atPlace])), (mR, .inl (cG, 8, .inl rf))] [(cG, .int)])) (va_Qi (fun (r : Int32) (u9 : Int32) => True) (q_at dC dI (va_A [(m0, .inr (5, [.int x_thrown, .ref mB, .ref mR, .int x_flags, .ref mO, .int x_outCount, .int x_steps, .ref mN, .int x_nowFlags, .int x_writePlace, .int x_writeSize, .int x_writeValue, .int x_fault, .int x_halt, .int x_isByte, .int x_atRegister, .int x_atPlace])), (mR, .inl (cG, 8, .inl rf))] sz) (fun (u9 : Int32) => [(cG, .int)]) (fun (u9 : Int32) => [(m0, .inr (5, [.int u9, .ref mB, .ref mR, .int x_flags, .ref mO, .int x_outCount, .int x_steps, .ref mN, .int x_nowFlags, .int x_writePlace, .int x_writeSize, .int x_writeValue, .int x_fault, .int x_halt, .int x_isByte, .int x_atRegister, .int x_atPlace])), (mR, .inl (cG, 8, .inl rf))])) (va_A [(m0, .inr (5, [.int x_thrown, .ref mB, .ref mR, .int x_flags, .ref mO, .int x_outCount, .int x_steps, .ref mN, .int x_nowFlags, .int x_writePlace, .int x_writeSize, .int x_writeValue, .int x_fault, .int x_halt, .int x_isByte, .int x_atRegister, .int x_atPlace])), (mR, .inl (cG, 8, .inl rf))] sz)) 0 0 (va_A [(m0, .inr (5, [.int x_thrown, .ref mB, .ref mR, .int x_flags, .ref mO, .int x_outCount, .int x_steps, .ref mN, .int x_nowFlags, .int x_writePlace, .int x_writeSize, .int x_writeValue, .int x_fault, .int x_halt, .int x_isByte, .int x_atRegister, .int x_atPlace])), (mR, .inl (cG, 8, .inl rf))] sz) := by
  refine Met.ofW (cc := cX5_register) (maxL := 2) (ret := (some .int)) (by decide) rfl ?_
  intro p e s m args below meth c s₁ B hml hv
  obtain ⟨rfl, hsz, hP, hK, hD0, hN⟩ := hv
  have hx := B.exec
  have hb := B.bytes
  have hr := B.returns
  have hts := atoms_spec (ws := wsX5_register) B.pre
  have hown : s.vm.findClass RX5 = some m.cls := findClass_of_methodNamed B.named
  have hlocks := B.notSynchronized
  subst hsz
  have hD := hD0.self (sz := s.heap.size)
  generalize hAe : va_A [(m0, .inr (5, [.int x_thrown, .ref mB, .ref mR, .int x_flags, .ref mO, .int x_outCount, .int x_steps, .ref mN, .int x_nowFlags, .int x_writePlace, .int x_writeSize, .int x_writeValue, .int x_fault, .int x_halt, .int x_isByte, .int x_atRegister, .int x_atPlace])), (mR, .inl (cG, 8, .inl rf))] s.heap.size = A at hD ⊢
  have hA : ∀ q : Nat, s.heap.size ≤ q → A q := fun q h => by rw [← hAe]; exact Or.inr h
  have hS : va_S A s.heap s.heap [] := va_S.rf
  have hP : va_P (dC, dI) vwCl [(m0, .inr (5, [.int x_thrown, .ref mB, .ref mR, .int x_flags, .ref mO, .int x_outCount, .int x_steps, .ref mN, .int x_nowFlags, .int x_writePlace, .int x_writeSize, .int x_writeValue, .int x_fault, .int x_halt, .int x_isByte, .int x_atRegister, .int x_atPlace])), (mR, .inl (cG, 8, .inl rf))] s.heap := hP
  have hl := lv_entry ([.ref m0, .int k]) (n := 2) (Nat.le_of_ble_eq_true rfl)
  rw [lg_entry_eq]
  generalize (lg_sl ([.ref m0, .int k]) ++ List.replicate (2 - (lg_sl ([.ref m0, .int k])).length) Slot.unset).toArray = ls at hl ⊢
  have hl : lv_has ls 2 [(0, .ref m0), (1, .int k)] := hl
  refine lv_aload_n hx hb dX5_register_0 rfl (lv_at hl 0 rfl) ?_
  refine lv_iload_n hx hb dX5_register_1 rfl (lv_at hl 1 rfl) ?_
  refine lv_if_lt (tgt := 15) hx hb dX5_register_2 (by decide) (fun c_1 => ?_) (fun c_1 => ?_)
  · refine lv_iconst (v := 1) hx hb dX5_register_15 (by decide) ?_
    refine va_put (D := (dC, dI)) (ci := 5) (v := .int 1) (ty := .int) (C := RX5) (T := TX5) (N := 17) hx hb hts (by decide +kernel) tyX5 tyX5_ok nmX5 hown hK hP hD hS 0 rfl rfl 0 (by decide) (hts (.fieldLink RX5 22 "WordGuestModel" "thrown" "I") (by decide +kernel)) (fun _ h9 => h9) rfl (by decide +kernel) rfl rfl (Nat.le_of_ble_eq_true rfl) dX5_register_16 (fun H locs hP hD hS => ?_)
    have hP : va_P (dC, dI) vwCl [(m0, .inr (5, [.int 1, .ref mB, .ref mR, .int x_flags, .ref mO, .int x_outCount, .int x_steps, .ref mN, .int x_nowFlags, .int x_writePlace, .int x_writeSize, .int x_writeValue, .int x_fault, .int x_halt, .int x_isByte, .int x_atRegister, .int x_atPlace])), (mR, .inl (cG, 8, .inl rf))] H := hP
    have hD : va_D A [(m0, .inr (5, [.int 1, .ref mB, .ref mR, .int x_flags, .ref mO, .int x_outCount, .int x_steps, .ref mN, .int x_nowFlags, .int x_writePlace, .int x_writeSize, .int x_writeValue, .int x_fault, .int x_halt, .int x_isByte, .int x_atRegister, .int x_atPlace])), (mR, .inl (cG, 8, .inl rf))] := hD
    refine lv_aload_n hx hb dX5_register_19 rfl (lv_at hl 0 rfl) ?_
    refine va_get (D := (dC, dI)) (ci := 5) (v := .int 1) (C := RX5) (T := TX5) (N := 17) hx hb hts (by decide +kernel) hown hK hP 0 rfl rfl 0 (by decide) (hts (.fieldLink RX5 22 "WordGuestModel" "thrown" "I") (by decide +kernel)) (fun _ h9 => h9) rfl dX5_register_20 ?_
    refine lv_if_le (tgt := 30) hx hb dX5_register_23 (by decide) (fun c9 => absurd c9 (by decide)) (fun c_2 => ?_)
    refine lv_iconst (v := 0) hx hb dX5_register_26 (by decide) ?_
    refine lv_goto (tgt := 36) hx hb dX5_register_27 (by decide) ?_
    have hP9 := hP.sub (ws' := [(m0, .inr (5, [.int 1, .ref mB, .ref mR, .int x_flags, .ref mO, .int x_outCount, .int x_steps, .ref mN, .int x_nowFlags, .int x_writePlace, .int x_writeSize, .int x_writeValue, .int x_fault, .int x_halt, .int x_isByte, .int x_atRegister, .int x_atPlace])), (mR, .inl (cG, 8, .inl rf))]) [0, 1] rfl
    have hD9 := hD.sub (ws' := [(m0, .inr (5, [.int 1, .ref mB, .ref mR, .int x_flags, .ref mO, .int x_outCount, .int x_steps, .ref mN, .int x_nowFlags, .int x_writePlace, .int x_writeSize, .int x_writeValue, .int x_fault, .int x_halt, .int x_isByte, .int x_atRegister, .int x_atPlace])), (mR, .inl (cG, 8, .inl rf))]) [0, 1] (by decide) rfl
    have hK9 := hK.sub (tys' := [(cG, .int)]) [0] rfl
    exact W.iret (v := 0) hx hb hr (fun t ht hW => ⟨⟨0, 1, rfl, trivial, by rw [ht]; exact hP9, va_K.moved hW.alike hK9, hD9⟩, hS.F ht⟩) hS.2.2 dX5_register_36
  · refine lv_iload_n hx hb dX5_register_5 rfl (lv_at hl 1 rfl) ?_
    refine lv_bipush (v := 8) hx hb dX5_register_6 (by decide) ?_
    refine lv_icmp_ge (tgt := 15) hx hb dX5_register_8 (by decide) (fun c_3 => ?_) (fun c_3 => ?_)
    · refine lv_iconst (v := 1) hx hb dX5_register_15 (by decide) ?_
      refine va_put (D := (dC, dI)) (ci := 5) (v := .int 1) (ty := .int) (C := RX5) (T := TX5) (N := 17) hx hb hts (by decide +kernel) tyX5 tyX5_ok nmX5 hown hK hP hD hS 0 rfl rfl 0 (by decide) (hts (.fieldLink RX5 22 "WordGuestModel" "thrown" "I") (by decide +kernel)) (fun _ h9 => h9) rfl (by decide +kernel) rfl rfl (Nat.le_of_ble_eq_true rfl) dX5_register_16 (fun H locs hP hD hS => ?_)
      have hP : va_P (dC, dI) vwCl [(m0, .inr (5, [.int 1, .ref mB, .ref mR, .int x_flags, .ref mO, .int x_outCount, .int x_steps, .ref mN, .int x_nowFlags, .int x_writePlace, .int x_writeSize, .int x_writeValue, .int x_fault, .int x_halt, .int x_isByte, .int x_atRegister, .int x_atPlace])), (mR, .inl (cG, 8, .inl rf))] H := hP
      have hD : va_D A [(m0, .inr (5, [.int 1, .ref mB, .ref mR, .int x_flags, .ref mO, .int x_outCount, .int x_steps, .ref mN, .int x_nowFlags, .int x_writePlace, .int x_writeSize, .int x_writeValue, .int x_fault, .int x_halt, .int x_isByte, .int x_atRegister, .int x_atPlace])), (mR, .inl (cG, 8, .inl rf))] := hD
      refine lv_aload_n hx hb dX5_register_19 rfl (lv_at hl 0 rfl) ?_
      refine va_get (D := (dC, dI)) (ci := 5) (v := .int 1) (C := RX5) (T := TX5) (N := 17) hx hb hts (by decide +kernel) hown hK hP 0 rfl rfl 0 (by decide) (hts (.fieldLink RX5 22 "WordGuestModel" "thrown" "I") (by decide +kernel)) (fun _ h9 => h9) rfl dX5_register_20 ?_
      refine lv_if_le (tgt := 30) hx hb dX5_register_23 (by decide) (fun c9 => absurd c9 (by decide)) (fun c_4 => ?_)
      refine lv_iconst (v := 0) hx hb dX5_register_26 (by decide) ?_
      refine lv_goto (tgt := 36) hx hb dX5_register_27 (by decide) ?_
      have hP9 := hP.sub (ws' := [(m0, .inr (5, [.int 1, .ref mB, .ref mR, .int x_flags, .ref mO, .int x_outCount, .int x_steps, .ref mN, .int x_nowFlags, .int x_writePlace, .int x_writeSize, .int x_writeValue, .int x_fault, .int x_halt, .int x_isByte, .int x_atRegister, .int x_atPlace])), (mR, .inl (cG, 8, .inl rf))]) [0, 1] rfl
      have hD9 := hD.sub (ws' := [(m0, .inr (5, [.int 1, .ref mB, .ref mR, .int x_flags, .ref mO, .int x_outCount, .int x_steps, .ref mN, .int x_nowFlags, .int x_writePlace, .int x_writeSize, .int x_writeValue, .int x_fault, .int x_halt, .int x_isByte, .int x_atRegister, .int x_atPlace])), (mR, .inl (cG, 8, .inl rf))]) [0, 1] (by decide) rfl
      have hK9 := hK.sub (tys' := [(cG, .int)]) [0] rfl
      exact W.iret (v := 0) hx hb hr (fun t ht hW => ⟨⟨0, 1, rfl, trivial, by rw [ht]; exact hP9, va_K.moved hW.alike hK9, hD9⟩, hS.F ht⟩) hS.2.2 dX5_register_36
    · refine lv_iconst (v := 0) hx hb dX5_register_11 (by decide) ?_
      refine lv_goto (tgt := 16) hx hb dX5_register_12 (by decide) ?_
      refine va_put (D := (dC, dI)) (ci := 5) (v := .int 0) (ty := .int) (C := RX5) (T := TX5) (N := 17) hx hb hts (by decide +kernel) tyX5 tyX5_ok nmX5 hown hK hP hD hS 0 rfl rfl 0 (by decide) (hts (.fieldLink RX5 22 "WordGuestModel" "thrown" "I") (by decide +kernel)) (fun _ h9 => h9) rfl (by decide +kernel) rfl rfl (Nat.le_of_ble_eq_true rfl) dX5_register_16 (fun H locs hP hD hS => ?_)
      have hP : va_P (dC, dI) vwCl [(m0, .inr (5, [.int 0, .ref mB, .ref mR, .int x_flags, .ref mO, .int x_outCount, .int x_steps, .ref mN, .int x_nowFlags, .int x_writePlace, .int x_writeSize, .int x_writeValue, .int x_fault, .int x_halt, .int x_isByte, .int x_atRegister, .int x_atPlace])), (mR, .inl (cG, 8, .inl rf))] H := hP
      have hD : va_D A [(m0, .inr (5, [.int 0, .ref mB, .ref mR, .int x_flags, .ref mO, .int x_outCount, .int x_steps, .ref mN, .int x_nowFlags, .int x_writePlace, .int x_writeSize, .int x_writeValue, .int x_fault, .int x_halt, .int x_isByte, .int x_atRegister, .int x_atPlace])), (mR, .inl (cG, 8, .inl rf))] := hD
      refine lv_aload_n hx hb dX5_register_19 rfl (lv_at hl 0 rfl) ?_
      refine va_get (D := (dC, dI)) (ci := 5) (v := .int 0) (C := RX5) (T := TX5) (N := 17) hx hb hts (by decide +kernel) hown hK hP 0 rfl rfl 0 (by decide) (hts (.fieldLink RX5 22 "WordGuestModel" "thrown" "I") (by decide +kernel)) (fun _ h9 => h9) rfl dX5_register_20 ?_
      refine lv_if_le (tgt := 30) hx hb dX5_register_23 (by decide) (fun c_5 => ?_) (fun c9 => absurd (by decide) c9)
      refine lv_aload_n hx hb dX5_register_30 rfl (lv_at hl 0 rfl) ?_
      refine va_get (D := (dC, dI)) (ci := 5) (v := .ref mR) (C := RX5) (T := TX5) (N := 17) hx hb hts (by decide +kernel) hown hK hP 0 rfl rfl 2 (by decide) (hts (.fieldLink RX5 13 "WordGuestModel" "registers" "[I") (by decide +kernel)) (fun _ h9 => h9) rfl dX5_register_31 ?_
      refine lv_iload_n hx hb dX5_register_34 rfl (lv_at hl 1 rfl) ?_
      refine va_iald hx hb hK hP 1 0 rfl rfl (q_in8 c_1 (Int32.not_le.mp c_3)) dX5_register_35 ?_
      have hP9 := hP.sub (ws' := [(m0, .inr (5, [.int 0, .ref mB, .ref mR, .int x_flags, .ref mO, .int x_outCount, .int x_steps, .ref mN, .int x_nowFlags, .int x_writePlace, .int x_writeSize, .int x_writeValue, .int x_fault, .int x_halt, .int x_isByte, .int x_atRegister, .int x_atPlace])), (mR, .inl (cG, 8, .inl rf))]) [0, 1] rfl
      have hD9 := hD.sub (ws' := [(m0, .inr (5, [.int 0, .ref mB, .ref mR, .int x_flags, .ref mO, .int x_outCount, .int x_steps, .ref mN, .int x_nowFlags, .int x_writePlace, .int x_writeSize, .int x_writeValue, .int x_fault, .int x_halt, .int x_isByte, .int x_atRegister, .int x_atPlace])), (mR, .inl (cG, 8, .inl rf))]) [0, 1] (by decide) rfl
      have hK9 := hK.sub (tys' := [(cG, .int)]) [0] rfl
      exact W.iret (v := rf k.toNatClampNeg) hx hb hr (fun t ht hW => ⟨⟨rf k.toNatClampNeg, 0, rfl, trivial, by rw [ht]; exact hP9, va_K.moved hW.alike hK9, hD9⟩, hS.F ht⟩) hS.2.2 dX5_register_36
set_option maxHeartbeats 4000000 in
set_option maxRecDepth 100000 in
theorem s_X5_put (l : Launch) (dC : Nat → ClassId) (dI : Nat → Nat → Nat) (sz : Nat) (m0 : Nat) (k : Int32) (v : Int32) (x_thrown : Int32) (mB : Nat) (mR : Nat) (x_flags : Int32) (mO : Nat) (x_outCount : Int32) (x_steps : Int32) (mN : Nat) (x_nowFlags : Int32) (x_writePlace : Int32) (x_writeSize : Int32) (x_writeValue : Int32) (x_fault : Int32) (x_halt : Int32) (x_isByte : Int32) (x_atRegister : Int32) (x_atPlace : Int32) (cG : ClassId) (rf : Nat → Int32) (hR : okW rf) : Met l yX5_put wsX5_put ({ frames := 0, cells := 0, slots := 0, locals := 0 }) (va_Pc [.ref m0, .int k, .int v] (q_pre dC dI sz [(m0, .inr (5, [.int x_thrown, .ref mB, .ref mR, .int x_flags, .ref mO, .int x_outCount, .int x_steps, .ref mN, .int x_nowFlags, .int x_writePlace, .int x_writeSize, .int x_writeValue, .int x_fault, .int x_halt, .int x_isByte, .int x_atRegister, .int x_atPlace])), (mR, .inl (cG, 8, .inl rf))] [(cG, .int)])) (va_Qv (fun (u9 : Int32 × (Nat → Int32)) => (vp_in k 8 ∧ u9.1 = 0 ∧ okW u9.2) ∨ (¬ vp_in k 8 ∧ u9.1 = 1 ∧ okW u9.2)) (q_at dC dI (va_A [(m0, .inr (5, [.int x_thrown, .ref mB, .ref mR, .int x_flags, .ref mO, .int x_outCount, .int x_steps, .ref mN, .int x_nowFlags, .int x_writePlace, .int x_writeSize, .int x_writeValue, .int x_fault, .int x_halt, .int x_isByte, .int x_atRegister, .int x_atPlace])), (mR, .inl (cG, 8, .inl rf))] sz) (fun (u9 : Int32 × (Nat → Int32)) => [(cG, .int)]) (fun (u9 : Int32 × (Nat → Int32)) => [(m0, .inr (5, [.int u9.1, .ref mB, .ref mR, .int x_flags, .ref mO, .int x_outCount, .int x_steps, .ref mN, .int x_nowFlags, .int x_writePlace, .int x_writeSize, .int x_writeValue, .int x_fault, .int x_halt, .int x_isByte, .int x_atRegister, .int x_atPlace])), (mR, .inl (cG, 8, .inl u9.2))])) (va_A [(m0, .inr (5, [.int x_thrown, .ref mB, .ref mR, .int x_flags, .ref mO, .int x_outCount, .int x_steps, .ref mN, .int x_nowFlags, .int x_writePlace, .int x_writeSize, .int x_writeValue, .int x_fault, .int x_halt, .int x_isByte, .int x_atRegister, .int x_atPlace])), (mR, .inl (cG, 8, .inl rf))] sz)) 0 0 (va_A [(m0, .inr (5, [.int x_thrown, .ref mB, .ref mR, .int x_flags, .ref mO, .int x_outCount, .int x_steps, .ref mN, .int x_nowFlags, .int x_writePlace, .int x_writeSize, .int x_writeValue, .int x_fault, .int x_halt, .int x_isByte, .int x_atRegister, .int x_atPlace])), (mR, .inl (cG, 8, .inl rf))] sz) := by
  refine Met.ofW (cc := cX5_put) (maxL := 3) (ret := none) (by decide) rfl ?_
  intro p e s m args below meth c s₁ B hml hv
  obtain ⟨rfl, hsz, hP, hK, hD0, hN⟩ := hv
  have hx := B.exec
  have hb := B.bytes
  have hr := B.returns
  have hts := atoms_spec (ws := wsX5_put) B.pre
  have hown : s.vm.findClass RX5 = some m.cls := findClass_of_methodNamed B.named
  have hlocks := B.notSynchronized
  subst hsz
  have hD := hD0.self (sz := s.heap.size)
  generalize hAe : va_A [(m0, .inr (5, [.int x_thrown, .ref mB, .ref mR, .int x_flags, .ref mO, .int x_outCount, .int x_steps, .ref mN, .int x_nowFlags, .int x_writePlace, .int x_writeSize, .int x_writeValue, .int x_fault, .int x_halt, .int x_isByte, .int x_atRegister, .int x_atPlace])), (mR, .inl (cG, 8, .inl rf))] s.heap.size = A at hD ⊢
  have hA : ∀ q : Nat, s.heap.size ≤ q → A q := fun q h => by rw [← hAe]; exact Or.inr h
  have hS : va_S A s.heap s.heap [] := va_S.rf
  have hP : va_P (dC, dI) vwCl [(m0, .inr (5, [.int x_thrown, .ref mB, .ref mR, .int x_flags, .ref mO, .int x_outCount, .int x_steps, .ref mN, .int x_nowFlags, .int x_writePlace, .int x_writeSize, .int x_writeValue, .int x_fault, .int x_halt, .int x_isByte, .int x_atRegister, .int x_atPlace])), (mR, .inl (cG, 8, .inl rf))] s.heap := hP
  have hl := lv_entry ([.ref m0, .int k, .int v]) (n := 3) (Nat.le_of_ble_eq_true rfl)
  rw [lg_entry_eq]
  generalize (lg_sl ([.ref m0, .int k, .int v]) ++ List.replicate (3 - (lg_sl ([.ref m0, .int k, .int v])).length) Slot.unset).toArray = ls at hl ⊢
  have hl : lv_has ls 3 [(0, .ref m0), (1, .int k), (2, .int v)] := hl
  refine lv_aload_n hx hb dX5_put_0 rfl (lv_at hl 0 rfl) ?_
  refine lv_iload_n hx hb dX5_put_1 rfl (lv_at hl 1 rfl) ?_
  refine lv_if_lt (tgt := 15) hx hb dX5_put_2 (by decide) (fun c_1 => ?_) (fun c_1 => ?_)
  · refine lv_iconst (v := 1) hx hb dX5_put_15 (by decide) ?_
    refine va_put (D := (dC, dI)) (ci := 5) (v := .int 1) (ty := .int) (C := RX5) (T := TX5) (N := 17) hx hb hts (by decide +kernel) tyX5 tyX5_ok nmX5 hown hK hP hD hS 0 rfl rfl 0 (by decide) (hts (.fieldLink RX5 22 "WordGuestModel" "thrown" "I") (by decide +kernel)) (fun _ h9 => h9) rfl (by decide +kernel) rfl rfl (Nat.le_of_ble_eq_true rfl) dX5_put_16 (fun H locs hP hD hS => ?_)
    have hP : va_P (dC, dI) vwCl [(m0, .inr (5, [.int 1, .ref mB, .ref mR, .int x_flags, .ref mO, .int x_outCount, .int x_steps, .ref mN, .int x_nowFlags, .int x_writePlace, .int x_writeSize, .int x_writeValue, .int x_fault, .int x_halt, .int x_isByte, .int x_atRegister, .int x_atPlace])), (mR, .inl (cG, 8, .inl rf))] H := hP
    have hD : va_D A [(m0, .inr (5, [.int 1, .ref mB, .ref mR, .int x_flags, .ref mO, .int x_outCount, .int x_steps, .ref mN, .int x_nowFlags, .int x_writePlace, .int x_writeSize, .int x_writeValue, .int x_fault, .int x_halt, .int x_isByte, .int x_atRegister, .int x_atPlace])), (mR, .inl (cG, 8, .inl rf))] := hD
    refine lv_aload_n hx hb dX5_put_19 rfl (lv_at hl 0 rfl) ?_
    refine va_get (D := (dC, dI)) (ci := 5) (v := .int 1) (C := RX5) (T := TX5) (N := 17) hx hb hts (by decide +kernel) hown hK hP 0 rfl rfl 0 (by decide) (hts (.fieldLink RX5 22 "WordGuestModel" "thrown" "I") (by decide +kernel)) (fun _ h9 => h9) rfl dX5_put_20 ?_
    refine lv_if_ne (tgt := 36) hx hb dX5_put_23 (by decide) (fun c_2 => ?_) (fun c9 => absurd c9 (by decide))
    have hP9 := hP.sub (ws' := [(m0, .inr (5, [.int 1, .ref mB, .ref mR, .int x_flags, .ref mO, .int x_outCount, .int x_steps, .ref mN, .int x_nowFlags, .int x_writePlace, .int x_writeSize, .int x_writeValue, .int x_fault, .int x_halt, .int x_isByte, .int x_atRegister, .int x_atPlace])), (mR, .inl (cG, 8, .inl rf))]) [0, 1] rfl
    have hD9 := hD.sub (ws' := [(m0, .inr (5, [.int 1, .ref mB, .ref mR, .int x_flags, .ref mO, .int x_outCount, .int x_steps, .ref mN, .int x_nowFlags, .int x_writePlace, .int x_writeSize, .int x_writeValue, .int x_fault, .int x_halt, .int x_isByte, .int x_atRegister, .int x_atPlace])), (mR, .inl (cG, 8, .inl rf))]) [0, 1] (by decide) rfl
    have hK9 := hK.sub (tys' := [(cG, .int)]) [0] rfl
    exact W.vret hx hb hr (fun t ht hW => ⟨⟨(1, rf), rfl, Or.inr ⟨q_n8a c_1, rfl, hR⟩, by rw [ht]; exact hP9, va_K.moved hW.alike hK9, hD9⟩, hS.F ht⟩) hS.2.2 dX5_put_36
  · refine lv_iload_n hx hb dX5_put_5 rfl (lv_at hl 1 rfl) ?_
    refine lv_bipush (v := 8) hx hb dX5_put_6 (by decide) ?_
    refine lv_icmp_ge (tgt := 15) hx hb dX5_put_8 (by decide) (fun c_3 => ?_) (fun c_3 => ?_)
    · refine lv_iconst (v := 1) hx hb dX5_put_15 (by decide) ?_
      refine va_put (D := (dC, dI)) (ci := 5) (v := .int 1) (ty := .int) (C := RX5) (T := TX5) (N := 17) hx hb hts (by decide +kernel) tyX5 tyX5_ok nmX5 hown hK hP hD hS 0 rfl rfl 0 (by decide) (hts (.fieldLink RX5 22 "WordGuestModel" "thrown" "I") (by decide +kernel)) (fun _ h9 => h9) rfl (by decide +kernel) rfl rfl (Nat.le_of_ble_eq_true rfl) dX5_put_16 (fun H locs hP hD hS => ?_)
      have hP : va_P (dC, dI) vwCl [(m0, .inr (5, [.int 1, .ref mB, .ref mR, .int x_flags, .ref mO, .int x_outCount, .int x_steps, .ref mN, .int x_nowFlags, .int x_writePlace, .int x_writeSize, .int x_writeValue, .int x_fault, .int x_halt, .int x_isByte, .int x_atRegister, .int x_atPlace])), (mR, .inl (cG, 8, .inl rf))] H := hP
      have hD : va_D A [(m0, .inr (5, [.int 1, .ref mB, .ref mR, .int x_flags, .ref mO, .int x_outCount, .int x_steps, .ref mN, .int x_nowFlags, .int x_writePlace, .int x_writeSize, .int x_writeValue, .int x_fault, .int x_halt, .int x_isByte, .int x_atRegister, .int x_atPlace])), (mR, .inl (cG, 8, .inl rf))] := hD
      refine lv_aload_n hx hb dX5_put_19 rfl (lv_at hl 0 rfl) ?_
      refine va_get (D := (dC, dI)) (ci := 5) (v := .int 1) (C := RX5) (T := TX5) (N := 17) hx hb hts (by decide +kernel) hown hK hP 0 rfl rfl 0 (by decide) (hts (.fieldLink RX5 22 "WordGuestModel" "thrown" "I") (by decide +kernel)) (fun _ h9 => h9) rfl dX5_put_20 ?_
      refine lv_if_ne (tgt := 36) hx hb dX5_put_23 (by decide) (fun c_4 => ?_) (fun c9 => absurd c9 (by decide))
      have hP9 := hP.sub (ws' := [(m0, .inr (5, [.int 1, .ref mB, .ref mR, .int x_flags, .ref mO, .int x_outCount, .int x_steps, .ref mN, .int x_nowFlags, .int x_writePlace, .int x_writeSize, .int x_writeValue, .int x_fault, .int x_halt, .int x_isByte, .int x_atRegister, .int x_atPlace])), (mR, .inl (cG, 8, .inl rf))]) [0, 1] rfl
      have hD9 := hD.sub (ws' := [(m0, .inr (5, [.int 1, .ref mB, .ref mR, .int x_flags, .ref mO, .int x_outCount, .int x_steps, .ref mN, .int x_nowFlags, .int x_writePlace, .int x_writeSize, .int x_writeValue, .int x_fault, .int x_halt, .int x_isByte, .int x_atRegister, .int x_atPlace])), (mR, .inl (cG, 8, .inl rf))]) [0, 1] (by decide) rfl
      have hK9 := hK.sub (tys' := [(cG, .int)]) [0] rfl
      exact W.vret hx hb hr (fun t ht hW => ⟨⟨(1, rf), rfl, Or.inr ⟨q_n8b (Int32.not_lt.mpr c_3), rfl, hR⟩, by rw [ht]; exact hP9, va_K.moved hW.alike hK9, hD9⟩, hS.F ht⟩) hS.2.2 dX5_put_36
    · refine lv_iconst (v := 0) hx hb dX5_put_11 (by decide) ?_
      refine lv_goto (tgt := 16) hx hb dX5_put_12 (by decide) ?_
      refine va_put (D := (dC, dI)) (ci := 5) (v := .int 0) (ty := .int) (C := RX5) (T := TX5) (N := 17) hx hb hts (by decide +kernel) tyX5 tyX5_ok nmX5 hown hK hP hD hS 0 rfl rfl 0 (by decide) (hts (.fieldLink RX5 22 "WordGuestModel" "thrown" "I") (by decide +kernel)) (fun _ h9 => h9) rfl (by decide +kernel) rfl rfl (Nat.le_of_ble_eq_true rfl) dX5_put_16 (fun H locs hP hD hS => ?_)
      have hP : va_P (dC, dI) vwCl [(m0, .inr (5, [.int 0, .ref mB, .ref mR, .int x_flags, .ref mO, .int x_outCount, .int x_steps, .ref mN, .int x_nowFlags, .int x_writePlace, .int x_writeSize, .int x_writeValue, .int x_fault, .int x_halt, .int x_isByte, .int x_atRegister, .int x_atPlace])), (mR, .inl (cG, 8, .inl rf))] H := hP
      have hD : va_D A [(m0, .inr (5, [.int 0, .ref mB, .ref mR, .int x_flags, .ref mO, .int x_outCount, .int x_steps, .ref mN, .int x_nowFlags, .int x_writePlace, .int x_writeSize, .int x_writeValue, .int x_fault, .int x_halt, .int x_isByte, .int x_atRegister, .int x_atPlace])), (mR, .inl (cG, 8, .inl rf))] := hD
      refine lv_aload_n hx hb dX5_put_19 rfl (lv_at hl 0 rfl) ?_
      refine va_get (D := (dC, dI)) (ci := 5) (v := .int 0) (C := RX5) (T := TX5) (N := 17) hx hb hts (by decide +kernel) hown hK hP 0 rfl rfl 0 (by decide) (hts (.fieldLink RX5 22 "WordGuestModel" "thrown" "I") (by decide +kernel)) (fun _ h9 => h9) rfl dX5_put_20 ?_
      refine lv_if_ne (tgt := 36) hx hb dX5_put_23 (by decide) (fun c9 => absurd (by decide) c9) (fun c_5 => ?_)
      refine lv_aload_n hx hb dX5_put_26 rfl (lv_at hl 0 rfl) ?_
      refine va_get (D := (dC, dI)) (ci := 5) (v := .ref mR) (C := RX5) (T := TX5) (N := 17) hx hb hts (by decide +kernel) hown hK hP 0 rfl rfl 2 (by decide) (hts (.fieldLink RX5 13 "WordGuestModel" "registers" "[I") (by decide +kernel)) (fun _ h9 => h9) rfl dX5_put_27 ?_
      refine lv_iload_n hx hb dX5_put_30 rfl (lv_at hl 1 rfl) ?_
      refine lv_iload_n hx hb dX5_put_31 rfl (lv_at hl 2 rfl) ?_
      refine lv_ldc (v := 65535) hx hb hown (hts (.constant RX5 30 (65535)) (by decide +kernel)) dX5_put_32 ?_
      refine lv_iand hx hb dX5_put_34 ?_
      refine va_iast hx hb hK hP hD hS 1 0 rfl rfl (q_in8 c_1 (Int32.not_le.mp c_3)) dX5_put_35 (fun H locs hP hD hS => ?_)
      have hP : va_P (dC, dI) vwCl [(m0, .inr (5, [.int 0, .ref mB, .ref mR, .int x_flags, .ref mO, .int x_outCount, .int x_steps, .ref mN, .int x_nowFlags, .int x_writePlace, .int x_writeSize, .int x_writeValue, .int x_fault, .int x_halt, .int x_isByte, .int x_atRegister, .int x_atPlace])), (mR, .inl (cG, 8, .inl (upd rf k.toNatClampNeg (v &&& 65535))))] H := hP
      have hD : va_D A [(m0, .inr (5, [.int 0, .ref mB, .ref mR, .int x_flags, .ref mO, .int x_outCount, .int x_steps, .ref mN, .int x_nowFlags, .int x_writePlace, .int x_writeSize, .int x_writeValue, .int x_fault, .int x_halt, .int x_isByte, .int x_atRegister, .int x_atPlace])), (mR, .inl (cG, 8, .inl (upd rf k.toNatClampNeg (v &&& 65535))))] := hD
      have hR_6 : okW (upd rf k.toNatClampNeg (v &&& 65535)) := okW_upd hR (isW_and _) _
      generalize (upd rf k.toNatClampNeg (v &&& 65535)) = g_7 at hP hD hR_6
      have hP9 := hP.sub (ws' := [(m0, .inr (5, [.int 0, .ref mB, .ref mR, .int x_flags, .ref mO, .int x_outCount, .int x_steps, .ref mN, .int x_nowFlags, .int x_writePlace, .int x_writeSize, .int x_writeValue, .int x_fault, .int x_halt, .int x_isByte, .int x_atRegister, .int x_atPlace])), (mR, .inl (cG, 8, .inl g_7))]) [0, 1] rfl
      have hD9 := hD.sub (ws' := [(m0, .inr (5, [.int 0, .ref mB, .ref mR, .int x_flags, .ref mO, .int x_outCount, .int x_steps, .ref mN, .int x_nowFlags, .int x_writePlace, .int x_writeSize, .int x_writeValue, .int x_fault, .int x_halt, .int x_isByte, .int x_atRegister, .int x_atPlace])), (mR, .inl (cG, 8, .inl g_7))]) [0, 1] (by decide) rfl
      have hK9 := hK.sub (tys' := [(cG, .int)]) [0] rfl
      exact W.vret hx hb hr (fun t ht hW => ⟨⟨(0, g_7), rfl, Or.inl ⟨q_in8 c_1 (Int32.not_le.mp c_3), rfl, hR_6⟩, by rw [ht]; exact hP9, va_K.moved hW.alike hK9, hD9⟩, hS.F ht⟩) hS.2.2 dX5_put_36
set_option maxHeartbeats 4000000 in
set_option maxRecDepth 100000 in
theorem s_X5_flags (l : Launch) (dC : Nat → ClassId) (dI : Nat → Nat → Nat) (sz : Nat) (m0 : Nat) (x_thrown : Int32) (mB : Nat) (mR : Nat) (x_flags : Int32) (mO : Nat) (x_outCount : Int32) (x_steps : Int32) (mN : Nat) (x_nowFlags : Int32) (x_writePlace : Int32) (x_writeSize : Int32) (x_writeValue : Int32) (x_fault : Int32) (x_halt : Int32) (x_isByte : Int32) (x_atRegister : Int32) (x_atPlace : Int32)  : Met l yX5_flags wsX5_flags ({ frames := 0, cells := 0, slots := 0, locals := 0 }) (va_Pc [.ref m0] (q_pre dC dI sz [(m0, .inr (5, [.int x_thrown, .ref mB, .ref mR, .int x_flags, .ref mO, .int x_outCount, .int x_steps, .ref mN, .int x_nowFlags, .int x_writePlace, .int x_writeSize, .int x_writeValue, .int x_fault, .int x_halt, .int x_isByte, .int x_atRegister, .int x_atPlace]))] [])) (va_Qi (fun (r : Int32) (u9 : Int32) => True) (q_at dC dI (va_A [(m0, .inr (5, [.int x_thrown, .ref mB, .ref mR, .int x_flags, .ref mO, .int x_outCount, .int x_steps, .ref mN, .int x_nowFlags, .int x_writePlace, .int x_writeSize, .int x_writeValue, .int x_fault, .int x_halt, .int x_isByte, .int x_atRegister, .int x_atPlace]))] sz) (fun (u9 : Int32) => []) (fun (u9 : Int32) => [(m0, .inr (5, [.int u9, .ref mB, .ref mR, .int x_flags, .ref mO, .int x_outCount, .int x_steps, .ref mN, .int x_nowFlags, .int x_writePlace, .int x_writeSize, .int x_writeValue, .int x_fault, .int x_halt, .int x_isByte, .int x_atRegister, .int x_atPlace]))])) (va_A [(m0, .inr (5, [.int x_thrown, .ref mB, .ref mR, .int x_flags, .ref mO, .int x_outCount, .int x_steps, .ref mN, .int x_nowFlags, .int x_writePlace, .int x_writeSize, .int x_writeValue, .int x_fault, .int x_halt, .int x_isByte, .int x_atRegister, .int x_atPlace]))] sz)) 0 0 (va_A [(m0, .inr (5, [.int x_thrown, .ref mB, .ref mR, .int x_flags, .ref mO, .int x_outCount, .int x_steps, .ref mN, .int x_nowFlags, .int x_writePlace, .int x_writeSize, .int x_writeValue, .int x_fault, .int x_halt, .int x_isByte, .int x_atRegister, .int x_atPlace]))] sz) := by
  refine Met.ofW (cc := cX5_flags) (maxL := 1) (ret := (some .int)) (by decide) rfl ?_
  intro p e s m args below meth c s₁ B hml hv
  obtain ⟨rfl, hsz, hP, hK, hD0, hN⟩ := hv
  have hx := B.exec
  have hb := B.bytes
  have hr := B.returns
  have hts := atoms_spec (ws := wsX5_flags) B.pre
  have hown : s.vm.findClass RX5 = some m.cls := findClass_of_methodNamed B.named
  have hlocks := B.notSynchronized
  subst hsz
  have hD := hD0.self (sz := s.heap.size)
  generalize hAe : va_A [(m0, .inr (5, [.int x_thrown, .ref mB, .ref mR, .int x_flags, .ref mO, .int x_outCount, .int x_steps, .ref mN, .int x_nowFlags, .int x_writePlace, .int x_writeSize, .int x_writeValue, .int x_fault, .int x_halt, .int x_isByte, .int x_atRegister, .int x_atPlace]))] s.heap.size = A at hD ⊢
  have hA : ∀ q : Nat, s.heap.size ≤ q → A q := fun q h => by rw [← hAe]; exact Or.inr h
  have hS : va_S A s.heap s.heap [] := va_S.rf
  have hP : va_P (dC, dI) vwCl [(m0, .inr (5, [.int x_thrown, .ref mB, .ref mR, .int x_flags, .ref mO, .int x_outCount, .int x_steps, .ref mN, .int x_nowFlags, .int x_writePlace, .int x_writeSize, .int x_writeValue, .int x_fault, .int x_halt, .int x_isByte, .int x_atRegister, .int x_atPlace]))] s.heap := hP
  have hl := lv_entry ([.ref m0]) (n := 1) (Nat.le_of_ble_eq_true rfl)
  rw [lg_entry_eq]
  generalize (lg_sl ([.ref m0]) ++ List.replicate (1 - (lg_sl ([.ref m0])).length) Slot.unset).toArray = ls at hl ⊢
  have hl : lv_has ls 1 [(0, .ref m0)] := hl
  refine lv_aload_n hx hb dX5_flags_0 rfl (lv_at hl 0 rfl) ?_
  refine lv_iconst (v := 0) hx hb dX5_flags_1 (by decide) ?_
  refine va_put (D := (dC, dI)) (ci := 5) (v := .int 0) (ty := .int) (C := RX5) (T := TX5) (N := 17) hx hb hts (by decide +kernel) tyX5 tyX5_ok nmX5 hown hK hP hD hS 0 rfl rfl 0 (by decide) (hts (.fieldLink RX5 22 "WordGuestModel" "thrown" "I") (by decide +kernel)) (fun _ h9 => h9) rfl (by decide +kernel) rfl rfl (Nat.le_of_ble_eq_true rfl) dX5_flags_2 (fun H locs hP hD hS => ?_)
  have hP : va_P (dC, dI) vwCl [(m0, .inr (5, [.int 0, .ref mB, .ref mR, .int x_flags, .ref mO, .int x_outCount, .int x_steps, .ref mN, .int x_nowFlags, .int x_writePlace, .int x_writeSize, .int x_writeValue, .int x_fault, .int x_halt, .int x_isByte, .int x_atRegister, .int x_atPlace]))] H := hP
  have hD : va_D A [(m0, .inr (5, [.int 0, .ref mB, .ref mR, .int x_flags, .ref mO, .int x_outCount, .int x_steps, .ref mN, .int x_nowFlags, .int x_writePlace, .int x_writeSize, .int x_writeValue, .int x_fault, .int x_halt, .int x_isByte, .int x_atRegister, .int x_atPlace]))] := hD
  refine lv_aload_n hx hb dX5_flags_5 rfl (lv_at hl 0 rfl) ?_
  refine va_get (D := (dC, dI)) (ci := 5) (v := .int x_flags) (C := RX5) (T := TX5) (N := 17) hx hb hts (by decide +kernel) hown hK hP 0 rfl rfl 3 (by decide) (hts (.fieldLink RX5 39 "WordGuestModel" "flags" "I") (by decide +kernel)) (fun _ h9 => h9) rfl dX5_flags_6 ?_
  have hP9 := hP.sub (ws' := [(m0, .inr (5, [.int 0, .ref mB, .ref mR, .int x_flags, .ref mO, .int x_outCount, .int x_steps, .ref mN, .int x_nowFlags, .int x_writePlace, .int x_writeSize, .int x_writeValue, .int x_fault, .int x_halt, .int x_isByte, .int x_atRegister, .int x_atPlace]))]) [0] rfl
  have hD9 := hD.sub (ws' := [(m0, .inr (5, [.int 0, .ref mB, .ref mR, .int x_flags, .ref mO, .int x_outCount, .int x_steps, .ref mN, .int x_nowFlags, .int x_writePlace, .int x_writeSize, .int x_writeValue, .int x_fault, .int x_halt, .int x_isByte, .int x_atRegister, .int x_atPlace]))]) [0] (by decide) rfl
  have hK9 := hK.sub (tys' := []) [] rfl
  exact W.iret (v := x_flags) hx hb hr (fun t ht hW => ⟨⟨x_flags, 0, rfl, trivial, by rw [ht]; exact hP9, va_K.moved hW.alike hK9, hD9⟩, hS.F ht⟩) hS.2.2 dX5_flags_9
set_option maxHeartbeats 4000000 in
set_option maxRecDepth 100000 in
theorem s_X5_steps (l : Launch) (dC : Nat → ClassId) (dI : Nat → Nat → Nat) (sz : Nat) (m0 : Nat) (x_thrown : Int32) (mB : Nat) (mR : Nat) (x_flags : Int32) (mO : Nat) (x_outCount : Int32) (x_steps : Int32) (mN : Nat) (x_nowFlags : Int32) (x_writePlace : Int32) (x_writeSize : Int32) (x_writeValue : Int32) (x_fault : Int32) (x_halt : Int32) (x_isByte : Int32) (x_atRegister : Int32) (x_atPlace : Int32)  : Met l yX5_steps wsX5_steps ({ frames := 0, cells := 0, slots := 0, locals := 0 }) (va_Pc [.ref m0] (q_pre dC dI sz [(m0, .inr (5, [.int x_thrown, .ref mB, .ref mR, .int x_flags, .ref mO, .int x_outCount, .int x_steps, .ref mN, .int x_nowFlags, .int x_writePlace, .int x_writeSize, .int x_writeValue, .int x_fault, .int x_halt, .int x_isByte, .int x_atRegister, .int x_atPlace]))] [])) (va_Qi (fun (r : Int32) (u9 : Int32) => True) (q_at dC dI (va_A [(m0, .inr (5, [.int x_thrown, .ref mB, .ref mR, .int x_flags, .ref mO, .int x_outCount, .int x_steps, .ref mN, .int x_nowFlags, .int x_writePlace, .int x_writeSize, .int x_writeValue, .int x_fault, .int x_halt, .int x_isByte, .int x_atRegister, .int x_atPlace]))] sz) (fun (u9 : Int32) => []) (fun (u9 : Int32) => [(m0, .inr (5, [.int u9, .ref mB, .ref mR, .int x_flags, .ref mO, .int x_outCount, .int x_steps, .ref mN, .int x_nowFlags, .int x_writePlace, .int x_writeSize, .int x_writeValue, .int x_fault, .int x_halt, .int x_isByte, .int x_atRegister, .int x_atPlace]))])) (va_A [(m0, .inr (5, [.int x_thrown, .ref mB, .ref mR, .int x_flags, .ref mO, .int x_outCount, .int x_steps, .ref mN, .int x_nowFlags, .int x_writePlace, .int x_writeSize, .int x_writeValue, .int x_fault, .int x_halt, .int x_isByte, .int x_atRegister, .int x_atPlace]))] sz)) 0 0 (va_A [(m0, .inr (5, [.int x_thrown, .ref mB, .ref mR, .int x_flags, .ref mO, .int x_outCount, .int x_steps, .ref mN, .int x_nowFlags, .int x_writePlace, .int x_writeSize, .int x_writeValue, .int x_fault, .int x_halt, .int x_isByte, .int x_atRegister, .int x_atPlace]))] sz) := by
  refine Met.ofW (cc := cX5_steps) (maxL := 1) (ret := (some .int)) (by decide) rfl ?_
  intro p e s m args below meth c s₁ B hml hv
  obtain ⟨rfl, hsz, hP, hK, hD0, hN⟩ := hv
  have hx := B.exec
  have hb := B.bytes
  have hr := B.returns
  have hts := atoms_spec (ws := wsX5_steps) B.pre
  have hown : s.vm.findClass RX5 = some m.cls := findClass_of_methodNamed B.named
  have hlocks := B.notSynchronized
  subst hsz
  have hD := hD0.self (sz := s.heap.size)
  generalize hAe : va_A [(m0, .inr (5, [.int x_thrown, .ref mB, .ref mR, .int x_flags, .ref mO, .int x_outCount, .int x_steps, .ref mN, .int x_nowFlags, .int x_writePlace, .int x_writeSize, .int x_writeValue, .int x_fault, .int x_halt, .int x_isByte, .int x_atRegister, .int x_atPlace]))] s.heap.size = A at hD ⊢
  have hA : ∀ q : Nat, s.heap.size ≤ q → A q := fun q h => by rw [← hAe]; exact Or.inr h
  have hS : va_S A s.heap s.heap [] := va_S.rf
  have hP : va_P (dC, dI) vwCl [(m0, .inr (5, [.int x_thrown, .ref mB, .ref mR, .int x_flags, .ref mO, .int x_outCount, .int x_steps, .ref mN, .int x_nowFlags, .int x_writePlace, .int x_writeSize, .int x_writeValue, .int x_fault, .int x_halt, .int x_isByte, .int x_atRegister, .int x_atPlace]))] s.heap := hP
  have hl := lv_entry ([.ref m0]) (n := 1) (Nat.le_of_ble_eq_true rfl)
  rw [lg_entry_eq]
  generalize (lg_sl ([.ref m0]) ++ List.replicate (1 - (lg_sl ([.ref m0])).length) Slot.unset).toArray = ls at hl ⊢
  have hl : lv_has ls 1 [(0, .ref m0)] := hl
  refine lv_aload_n hx hb dX5_steps_0 rfl (lv_at hl 0 rfl) ?_
  refine lv_iconst (v := 0) hx hb dX5_steps_1 (by decide) ?_
  refine va_put (D := (dC, dI)) (ci := 5) (v := .int 0) (ty := .int) (C := RX5) (T := TX5) (N := 17) hx hb hts (by decide +kernel) tyX5 tyX5_ok nmX5 hown hK hP hD hS 0 rfl rfl 0 (by decide) (hts (.fieldLink RX5 22 "WordGuestModel" "thrown" "I") (by decide +kernel)) (fun _ h9 => h9) rfl (by decide +kernel) rfl rfl (Nat.le_of_ble_eq_true rfl) dX5_steps_2 (fun H locs hP hD hS => ?_)
  have hP : va_P (dC, dI) vwCl [(m0, .inr (5, [.int 0, .ref mB, .ref mR, .int x_flags, .ref mO, .int x_outCount, .int x_steps, .ref mN, .int x_nowFlags, .int x_writePlace, .int x_writeSize, .int x_writeValue, .int x_fault, .int x_halt, .int x_isByte, .int x_atRegister, .int x_atPlace]))] H := hP
  have hD : va_D A [(m0, .inr (5, [.int 0, .ref mB, .ref mR, .int x_flags, .ref mO, .int x_outCount, .int x_steps, .ref mN, .int x_nowFlags, .int x_writePlace, .int x_writeSize, .int x_writeValue, .int x_fault, .int x_halt, .int x_isByte, .int x_atRegister, .int x_atPlace]))] := hD
  refine lv_aload_n hx hb dX5_steps_5 rfl (lv_at hl 0 rfl) ?_
  refine va_get (D := (dC, dI)) (ci := 5) (v := .int x_steps) (C := RX5) (T := TX5) (N := 17) hx hb hts (by decide +kernel) hown hK hP 0 rfl rfl 6 (by decide) (hts (.fieldLink RX5 42 "WordGuestModel" "steps" "I") (by decide +kernel)) (fun _ h9 => h9) rfl dX5_steps_6 ?_
  have hP9 := hP.sub (ws' := [(m0, .inr (5, [.int 0, .ref mB, .ref mR, .int x_flags, .ref mO, .int x_outCount, .int x_steps, .ref mN, .int x_nowFlags, .int x_writePlace, .int x_writeSize, .int x_writeValue, .int x_fault, .int x_halt, .int x_isByte, .int x_atRegister, .int x_atPlace]))]) [0] rfl
  have hD9 := hD.sub (ws' := [(m0, .inr (5, [.int 0, .ref mB, .ref mR, .int x_flags, .ref mO, .int x_outCount, .int x_steps, .ref mN, .int x_nowFlags, .int x_writePlace, .int x_writeSize, .int x_writeValue, .int x_fault, .int x_halt, .int x_isByte, .int x_atRegister, .int x_atPlace]))]) [0] (by decide) rfl
  have hK9 := hK.sub (tys' := []) [] rfl
  exact W.iret (v := x_steps) hx hb hr (fun t ht hW => ⟨⟨x_steps, 0, rfl, trivial, by rw [ht]; exact hP9, va_K.moved hW.alike hK9, hD9⟩, hS.F ht⟩) hS.2.2 dX5_steps_9
set_option maxHeartbeats 4000000 in
set_option maxRecDepth 100000 in
theorem s_X5_outputs (l : Launch) (dC : Nat → ClassId) (dI : Nat → Nat → Nat) (sz : Nat) (m0 : Nat) (x_thrown : Int32) (mB : Nat) (mR : Nat) (x_flags : Int32) (mO : Nat) (x_outCount : Int32) (x_steps : Int32) (mN : Nat) (x_nowFlags : Int32) (x_writePlace : Int32) (x_writeSize : Int32) (x_writeValue : Int32) (x_fault : Int32) (x_halt : Int32) (x_isByte : Int32) (x_atRegister : Int32) (x_atPlace : Int32)  : Met l yX5_outputs wsX5_outputs ({ frames := 0, cells := 0, slots := 0, locals := 0 }) (va_Pc [.ref m0] (q_pre dC dI sz [(m0, .inr (5, [.int x_thrown, .ref mB, .ref mR, .int x_flags, .ref mO, .int x_outCount, .int x_steps, .ref mN, .int x_nowFlags, .int x_writePlace, .int x_writeSize, .int x_writeValue, .int x_fault, .int x_halt, .int x_isByte, .int x_atRegister, .int x_atPlace]))] [])) (va_Qi (fun (r : Int32) (u9 : Int32) => True) (q_at dC dI (va_A [(m0, .inr (5, [.int x_thrown, .ref mB, .ref mR, .int x_flags, .ref mO, .int x_outCount, .int x_steps, .ref mN, .int x_nowFlags, .int x_writePlace, .int x_writeSize, .int x_writeValue, .int x_fault, .int x_halt, .int x_isByte, .int x_atRegister, .int x_atPlace]))] sz) (fun (u9 : Int32) => []) (fun (u9 : Int32) => [(m0, .inr (5, [.int u9, .ref mB, .ref mR, .int x_flags, .ref mO, .int x_outCount, .int x_steps, .ref mN, .int x_nowFlags, .int x_writePlace, .int x_writeSize, .int x_writeValue, .int x_fault, .int x_halt, .int x_isByte, .int x_atRegister, .int x_atPlace]))])) (va_A [(m0, .inr (5, [.int x_thrown, .ref mB, .ref mR, .int x_flags, .ref mO, .int x_outCount, .int x_steps, .ref mN, .int x_nowFlags, .int x_writePlace, .int x_writeSize, .int x_writeValue, .int x_fault, .int x_halt, .int x_isByte, .int x_atRegister, .int x_atPlace]))] sz)) 0 0 (va_A [(m0, .inr (5, [.int x_thrown, .ref mB, .ref mR, .int x_flags, .ref mO, .int x_outCount, .int x_steps, .ref mN, .int x_nowFlags, .int x_writePlace, .int x_writeSize, .int x_writeValue, .int x_fault, .int x_halt, .int x_isByte, .int x_atRegister, .int x_atPlace]))] sz) := by
  refine Met.ofW (cc := cX5_outputs) (maxL := 1) (ret := (some .int)) (by decide) rfl ?_
  intro p e s m args below meth c s₁ B hml hv
  obtain ⟨rfl, hsz, hP, hK, hD0, hN⟩ := hv
  have hx := B.exec
  have hb := B.bytes
  have hr := B.returns
  have hts := atoms_spec (ws := wsX5_outputs) B.pre
  have hown : s.vm.findClass RX5 = some m.cls := findClass_of_methodNamed B.named
  have hlocks := B.notSynchronized
  subst hsz
  have hD := hD0.self (sz := s.heap.size)
  generalize hAe : va_A [(m0, .inr (5, [.int x_thrown, .ref mB, .ref mR, .int x_flags, .ref mO, .int x_outCount, .int x_steps, .ref mN, .int x_nowFlags, .int x_writePlace, .int x_writeSize, .int x_writeValue, .int x_fault, .int x_halt, .int x_isByte, .int x_atRegister, .int x_atPlace]))] s.heap.size = A at hD ⊢
  have hA : ∀ q : Nat, s.heap.size ≤ q → A q := fun q h => by rw [← hAe]; exact Or.inr h
  have hS : va_S A s.heap s.heap [] := va_S.rf
  have hP : va_P (dC, dI) vwCl [(m0, .inr (5, [.int x_thrown, .ref mB, .ref mR, .int x_flags, .ref mO, .int x_outCount, .int x_steps, .ref mN, .int x_nowFlags, .int x_writePlace, .int x_writeSize, .int x_writeValue, .int x_fault, .int x_halt, .int x_isByte, .int x_atRegister, .int x_atPlace]))] s.heap := hP
  have hl := lv_entry ([.ref m0]) (n := 1) (Nat.le_of_ble_eq_true rfl)
  rw [lg_entry_eq]
  generalize (lg_sl ([.ref m0]) ++ List.replicate (1 - (lg_sl ([.ref m0])).length) Slot.unset).toArray = ls at hl ⊢
  have hl : lv_has ls 1 [(0, .ref m0)] := hl
  refine lv_aload_n hx hb dX5_outputs_0 rfl (lv_at hl 0 rfl) ?_
  refine lv_iconst (v := 0) hx hb dX5_outputs_1 (by decide) ?_
  refine va_put (D := (dC, dI)) (ci := 5) (v := .int 0) (ty := .int) (C := RX5) (T := TX5) (N := 17) hx hb hts (by decide +kernel) tyX5 tyX5_ok nmX5 hown hK hP hD hS 0 rfl rfl 0 (by decide) (hts (.fieldLink RX5 22 "WordGuestModel" "thrown" "I") (by decide +kernel)) (fun _ h9 => h9) rfl (by decide +kernel) rfl rfl (Nat.le_of_ble_eq_true rfl) dX5_outputs_2 (fun H locs hP hD hS => ?_)
  have hP : va_P (dC, dI) vwCl [(m0, .inr (5, [.int 0, .ref mB, .ref mR, .int x_flags, .ref mO, .int x_outCount, .int x_steps, .ref mN, .int x_nowFlags, .int x_writePlace, .int x_writeSize, .int x_writeValue, .int x_fault, .int x_halt, .int x_isByte, .int x_atRegister, .int x_atPlace]))] H := hP
  have hD : va_D A [(m0, .inr (5, [.int 0, .ref mB, .ref mR, .int x_flags, .ref mO, .int x_outCount, .int x_steps, .ref mN, .int x_nowFlags, .int x_writePlace, .int x_writeSize, .int x_writeValue, .int x_fault, .int x_halt, .int x_isByte, .int x_atRegister, .int x_atPlace]))] := hD
  refine lv_aload_n hx hb dX5_outputs_5 rfl (lv_at hl 0 rfl) ?_
  refine va_get (D := (dC, dI)) (ci := 5) (v := .int x_outCount) (C := RX5) (T := TX5) (N := 17) hx hb hts (by decide +kernel) hown hK hP 0 rfl rfl 5 (by decide) (hts (.fieldLink RX5 45 "WordGuestModel" "outCount" "I") (by decide +kernel)) (fun _ h9 => h9) rfl dX5_outputs_6 ?_
  have hP9 := hP.sub (ws' := [(m0, .inr (5, [.int 0, .ref mB, .ref mR, .int x_flags, .ref mO, .int x_outCount, .int x_steps, .ref mN, .int x_nowFlags, .int x_writePlace, .int x_writeSize, .int x_writeValue, .int x_fault, .int x_halt, .int x_isByte, .int x_atRegister, .int x_atPlace]))]) [0] rfl
  have hD9 := hD.sub (ws' := [(m0, .inr (5, [.int 0, .ref mB, .ref mR, .int x_flags, .ref mO, .int x_outCount, .int x_steps, .ref mN, .int x_nowFlags, .int x_writePlace, .int x_writeSize, .int x_writeValue, .int x_fault, .int x_halt, .int x_isByte, .int x_atRegister, .int x_atPlace]))]) [0] (by decide) rfl
  have hK9 := hK.sub (tys' := []) [] rfl
  exact W.iret (v := x_outCount) hx hb hr (fun t ht hW => ⟨⟨x_outCount, 0, rfl, trivial, by rw [ht]; exact hP9, va_K.moved hW.alike hK9, hD9⟩, hS.F ht⟩) hS.2.2 dX5_outputs_9
set_option maxHeartbeats 4000000 in
set_option maxRecDepth 100000 in
theorem s_X5_flag (l : Launch) (dC : Nat → ClassId) (dI : Nat → Nat → Nat) (sz : Nat) (m0 : Nat) (v : Int32) (x_thrown : Int32) (mB : Nat) (mR : Nat) (x_flags : Int32) (mO : Nat) (x_outCount : Int32) (x_steps : Int32) (mN : Nat) (x_nowFlags : Int32) (x_writePlace : Int32) (x_writeSize : Int32) (x_writeValue : Int32) (x_fault : Int32) (x_halt : Int32) (x_isByte : Int32) (x_atRegister : Int32) (x_atPlace : Int32)  : Met l yX5_flag wsX5_flag ({ frames := 0, cells := 0, slots := 0, locals := 0 }) (va_Pc [.ref m0, .int v] (q_pre dC dI sz [(m0, .inr (5, [.int x_thrown, .ref mB, .ref mR, .int x_flags, .ref mO, .int x_outCount, .int x_steps, .ref mN, .int x_nowFlags, .int x_writePlace, .int x_writeSize, .int x_writeValue, .int x_fault, .int x_halt, .int x_isByte, .int x_atRegister, .int x_atPlace]))] [])) (va_Qv (fun (u9 : Int32 × Int32) => True) (q_at dC dI (va_A [(m0, .inr (5, [.int x_thrown, .ref mB, .ref mR, .int x_flags, .ref mO, .int x_outCount, .int x_steps, .ref mN, .int x_nowFlags, .int x_writePlace, .int x_writeSize, .int x_writeValue, .int x_fault, .int x_halt, .int x_isByte, .int x_atRegister, .int x_atPlace]))] sz) (fun (u9 : Int32 × Int32) => []) (fun (u9 : Int32 × Int32) => [(m0, .inr (5, [.int u9.1, .ref mB, .ref mR, .int u9.2, .ref mO, .int x_outCount, .int x_steps, .ref mN, .int x_nowFlags, .int x_writePlace, .int x_writeSize, .int x_writeValue, .int x_fault, .int x_halt, .int x_isByte, .int x_atRegister, .int x_atPlace]))])) (va_A [(m0, .inr (5, [.int x_thrown, .ref mB, .ref mR, .int x_flags, .ref mO, .int x_outCount, .int x_steps, .ref mN, .int x_nowFlags, .int x_writePlace, .int x_writeSize, .int x_writeValue, .int x_fault, .int x_halt, .int x_isByte, .int x_atRegister, .int x_atPlace]))] sz)) 0 0 (va_A [(m0, .inr (5, [.int x_thrown, .ref mB, .ref mR, .int x_flags, .ref mO, .int x_outCount, .int x_steps, .ref mN, .int x_nowFlags, .int x_writePlace, .int x_writeSize, .int x_writeValue, .int x_fault, .int x_halt, .int x_isByte, .int x_atRegister, .int x_atPlace]))] sz) := by
  refine Met.ofW (cc := cX5_flag) (maxL := 2) (ret := none) (by decide) rfl ?_
  intro p e s m args below meth c s₁ B hml hv
  obtain ⟨rfl, hsz, hP, hK, hD0, hN⟩ := hv
  have hx := B.exec
  have hb := B.bytes
  have hr := B.returns
  have hts := atoms_spec (ws := wsX5_flag) B.pre
  have hown : s.vm.findClass RX5 = some m.cls := findClass_of_methodNamed B.named
  have hlocks := B.notSynchronized
  subst hsz
  have hD := hD0.self (sz := s.heap.size)
  generalize hAe : va_A [(m0, .inr (5, [.int x_thrown, .ref mB, .ref mR, .int x_flags, .ref mO, .int x_outCount, .int x_steps, .ref mN, .int x_nowFlags, .int x_writePlace, .int x_writeSize, .int x_writeValue, .int x_fault, .int x_halt, .int x_isByte, .int x_atRegister, .int x_atPlace]))] s.heap.size = A at hD ⊢
  have hA : ∀ q : Nat, s.heap.size ≤ q → A q := fun q h => by rw [← hAe]; exact Or.inr h
  have hS : va_S A s.heap s.heap [] := va_S.rf
  have hP : va_P (dC, dI) vwCl [(m0, .inr (5, [.int x_thrown, .ref mB, .ref mR, .int x_flags, .ref mO, .int x_outCount, .int x_steps, .ref mN, .int x_nowFlags, .int x_writePlace, .int x_writeSize, .int x_writeValue, .int x_fault, .int x_halt, .int x_isByte, .int x_atRegister, .int x_atPlace]))] s.heap := hP
  have hl := lv_entry ([.ref m0, .int v]) (n := 2) (Nat.le_of_ble_eq_true rfl)
  rw [lg_entry_eq]
  generalize (lg_sl ([.ref m0, .int v]) ++ List.replicate (2 - (lg_sl ([.ref m0, .int v])).length) Slot.unset).toArray = ls at hl ⊢
  have hl : lv_has ls 2 [(0, .ref m0), (1, .int v)] := hl
  refine lv_aload_n hx hb dX5_flag_0 rfl (lv_at hl 0 rfl) ?_
  refine lv_iconst (v := 0) hx hb dX5_flag_1 (by decide) ?_
  refine va_put (D := (dC, dI)) (ci := 5) (v := .int 0) (ty := .int) (C := RX5) (T := TX5) (N := 17) hx hb hts (by decide +kernel) tyX5 tyX5_ok nmX5 hown hK hP hD hS 0 rfl rfl 0 (by decide) (hts (.fieldLink RX5 22 "WordGuestModel" "thrown" "I") (by decide +kernel)) (fun _ h9 => h9) rfl (by decide +kernel) rfl rfl (Nat.le_of_ble_eq_true rfl) dX5_flag_2 (fun H locs hP hD hS => ?_)
  have hP : va_P (dC, dI) vwCl [(m0, .inr (5, [.int 0, .ref mB, .ref mR, .int x_flags, .ref mO, .int x_outCount, .int x_steps, .ref mN, .int x_nowFlags, .int x_writePlace, .int x_writeSize, .int x_writeValue, .int x_fault, .int x_halt, .int x_isByte, .int x_atRegister, .int x_atPlace]))] H := hP
  have hD : va_D A [(m0, .inr (5, [.int 0, .ref mB, .ref mR, .int x_flags, .ref mO, .int x_outCount, .int x_steps, .ref mN, .int x_nowFlags, .int x_writePlace, .int x_writeSize, .int x_writeValue, .int x_fault, .int x_halt, .int x_isByte, .int x_atRegister, .int x_atPlace]))] := hD
  refine lv_aload_n hx hb dX5_flag_5 rfl (lv_at hl 0 rfl) ?_
  refine lv_iload_n hx hb dX5_flag_6 rfl (lv_at hl 1 rfl) ?_
  refine lv_bipush (v := 15) hx hb dX5_flag_7 (by decide) ?_
  refine lv_iand hx hb dX5_flag_9 ?_
  refine va_put (D := (dC, dI)) (ci := 5) (v := .int (v &&& 15)) (ty := .int) (C := RX5) (T := TX5) (N := 17) hx hb hts (by decide +kernel) tyX5 tyX5_ok nmX5 hown hK hP hD hS 0 rfl rfl 3 (by decide) (hts (.fieldLink RX5 39 "WordGuestModel" "flags" "I") (by decide +kernel)) (fun _ h9 => h9) rfl (by decide +kernel) rfl rfl (Nat.le_of_ble_eq_true rfl) dX5_flag_10 (fun H locs hP hD hS => ?_)
  have hP : va_P (dC, dI) vwCl [(m0, .inr (5, [.int 0, .ref mB, .ref mR, .int (v &&& 15), .ref mO, .int x_outCount, .int x_steps, .ref mN, .int x_nowFlags, .int x_writePlace, .int x_writeSize, .int x_writeValue, .int x_fault, .int x_halt, .int x_isByte, .int x_atRegister, .int x_atPlace]))] H := hP
  have hD : va_D A [(m0, .inr (5, [.int 0, .ref mB, .ref mR, .int (v &&& 15), .ref mO, .int x_outCount, .int x_steps, .ref mN, .int x_nowFlags, .int x_writePlace, .int x_writeSize, .int x_writeValue, .int x_fault, .int x_halt, .int x_isByte, .int x_atRegister, .int x_atPlace]))] := hD
  have hP9 := hP.sub (ws' := [(m0, .inr (5, [.int 0, .ref mB, .ref mR, .int (v &&& 15), .ref mO, .int x_outCount, .int x_steps, .ref mN, .int x_nowFlags, .int x_writePlace, .int x_writeSize, .int x_writeValue, .int x_fault, .int x_halt, .int x_isByte, .int x_atRegister, .int x_atPlace]))]) [0] rfl
  have hD9 := hD.sub (ws' := [(m0, .inr (5, [.int 0, .ref mB, .ref mR, .int (v &&& 15), .ref mO, .int x_outCount, .int x_steps, .ref mN, .int x_nowFlags, .int x_writePlace, .int x_writeSize, .int x_writeValue, .int x_fault, .int x_halt, .int x_isByte, .int x_atRegister, .int x_atPlace]))]) [0] (by decide) rfl
  have hK9 := hK.sub (tys' := []) [] rfl
  exact W.vret hx hb hr (fun t ht hW => ⟨⟨(0, v &&& 15), rfl, trivial, by rw [ht]; exact hP9, va_K.moved hW.alike hK9, hD9⟩, hS.F ht⟩) hS.2.2 dX5_flag_13
set_option maxHeartbeats 4000000 in
set_option maxRecDepth 100000 in
theorem s_X5_output (l : Launch) (dC : Nat → ClassId) (dI : Nat → Nat → Nat) (sz : Nat) (m0 : Nat) (k : Int32) (x_thrown : Int32) (mB : Nat) (mR : Nat) (x_flags : Int32) (mO : Nat) (x_outCount : Int32) (x_steps : Int32) (mN : Nat) (x_nowFlags : Int32) (x_writePlace : Int32) (x_writeSize : Int32) (x_writeValue : Int32) (x_fault : Int32) (x_halt : Int32) (x_isByte : Int32) (x_atRegister : Int32) (x_atPlace : Int32) (cO : ClassId) (uf : Nat → Int32) (hO : ok4 x_outCount) : Met l yX5_output wsX5_output ({ frames := 0, cells := 0, slots := 0, locals := 0 }) (va_Pc [.ref m0, .int k] (q_pre dC dI sz [(m0, .inr (5, [.int x_thrown, .ref mB, .ref mR, .int x_flags, .ref mO, .int x_outCount, .int x_steps, .ref mN, .int x_nowFlags, .int x_writePlace, .int x_writeSize, .int x_writeValue, .int x_fault, .int x_halt, .int x_isByte, .int x_atRegister, .int x_atPlace])), (mO, .inl (cO, 400, .inl uf))] [(cO, .int)])) (va_Qi (fun (r : Int32) (u9 : Int32) => True) (q_at dC dI (va_A [(m0, .inr (5, [.int x_thrown, .ref mB, .ref mR, .int x_flags, .ref mO, .int x_outCount, .int x_steps, .ref mN, .int x_nowFlags, .int x_writePlace, .int x_writeSize, .int x_writeValue, .int x_fault, .int x_halt, .int x_isByte, .int x_atRegister, .int x_atPlace])), (mO, .inl (cO, 400, .inl uf))] sz) (fun (u9 : Int32) => [(cO, .int)]) (fun (u9 : Int32) => [(m0, .inr (5, [.int u9, .ref mB, .ref mR, .int x_flags, .ref mO, .int x_outCount, .int x_steps, .ref mN, .int x_nowFlags, .int x_writePlace, .int x_writeSize, .int x_writeValue, .int x_fault, .int x_halt, .int x_isByte, .int x_atRegister, .int x_atPlace])), (mO, .inl (cO, 400, .inl uf))])) (va_A [(m0, .inr (5, [.int x_thrown, .ref mB, .ref mR, .int x_flags, .ref mO, .int x_outCount, .int x_steps, .ref mN, .int x_nowFlags, .int x_writePlace, .int x_writeSize, .int x_writeValue, .int x_fault, .int x_halt, .int x_isByte, .int x_atRegister, .int x_atPlace])), (mO, .inl (cO, 400, .inl uf))] sz)) 0 0 (va_A [(m0, .inr (5, [.int x_thrown, .ref mB, .ref mR, .int x_flags, .ref mO, .int x_outCount, .int x_steps, .ref mN, .int x_nowFlags, .int x_writePlace, .int x_writeSize, .int x_writeValue, .int x_fault, .int x_halt, .int x_isByte, .int x_atRegister, .int x_atPlace])), (mO, .inl (cO, 400, .inl uf))] sz) := by
  refine Met.ofW (cc := cX5_output) (maxL := 2) (ret := (some .int)) (by decide) rfl ?_
  intro p e s m args below meth c s₁ B hml hv
  obtain ⟨rfl, hsz, hP, hK, hD0, hN⟩ := hv
  have hx := B.exec
  have hb := B.bytes
  have hr := B.returns
  have hts := atoms_spec (ws := wsX5_output) B.pre
  have hown : s.vm.findClass RX5 = some m.cls := findClass_of_methodNamed B.named
  have hlocks := B.notSynchronized
  subst hsz
  have hD := hD0.self (sz := s.heap.size)
  generalize hAe : va_A [(m0, .inr (5, [.int x_thrown, .ref mB, .ref mR, .int x_flags, .ref mO, .int x_outCount, .int x_steps, .ref mN, .int x_nowFlags, .int x_writePlace, .int x_writeSize, .int x_writeValue, .int x_fault, .int x_halt, .int x_isByte, .int x_atRegister, .int x_atPlace])), (mO, .inl (cO, 400, .inl uf))] s.heap.size = A at hD ⊢
  have hA : ∀ q : Nat, s.heap.size ≤ q → A q := fun q h => by rw [← hAe]; exact Or.inr h
  have hS : va_S A s.heap s.heap [] := va_S.rf
  have hP : va_P (dC, dI) vwCl [(m0, .inr (5, [.int x_thrown, .ref mB, .ref mR, .int x_flags, .ref mO, .int x_outCount, .int x_steps, .ref mN, .int x_nowFlags, .int x_writePlace, .int x_writeSize, .int x_writeValue, .int x_fault, .int x_halt, .int x_isByte, .int x_atRegister, .int x_atPlace])), (mO, .inl (cO, 400, .inl uf))] s.heap := hP
  have hl := lv_entry ([.ref m0, .int k]) (n := 2) (Nat.le_of_ble_eq_true rfl)
  rw [lg_entry_eq]
  generalize (lg_sl ([.ref m0, .int k]) ++ List.replicate (2 - (lg_sl ([.ref m0, .int k])).length) Slot.unset).toArray = ls at hl ⊢
  have hl : lv_has ls 2 [(0, .ref m0), (1, .int k)] := hl
  refine lv_aload_n hx hb dX5_output_0 rfl (lv_at hl 0 rfl) ?_
  refine lv_iload_n hx hb dX5_output_1 rfl (lv_at hl 1 rfl) ?_
  refine lv_if_lt (tgt := 17) hx hb dX5_output_2 (by decide) (fun c_1 => ?_) (fun c_1 => ?_)
  · refine lv_iconst (v := 1) hx hb dX5_output_17 (by decide) ?_
    refine va_put (D := (dC, dI)) (ci := 5) (v := .int 1) (ty := .int) (C := RX5) (T := TX5) (N := 17) hx hb hts (by decide +kernel) tyX5 tyX5_ok nmX5 hown hK hP hD hS 0 rfl rfl 0 (by decide) (hts (.fieldLink RX5 22 "WordGuestModel" "thrown" "I") (by decide +kernel)) (fun _ h9 => h9) rfl (by decide +kernel) rfl rfl (Nat.le_of_ble_eq_true rfl) dX5_output_18 (fun H locs hP hD hS => ?_)
    have hP : va_P (dC, dI) vwCl [(m0, .inr (5, [.int 1, .ref mB, .ref mR, .int x_flags, .ref mO, .int x_outCount, .int x_steps, .ref mN, .int x_nowFlags, .int x_writePlace, .int x_writeSize, .int x_writeValue, .int x_fault, .int x_halt, .int x_isByte, .int x_atRegister, .int x_atPlace])), (mO, .inl (cO, 400, .inl uf))] H := hP
    have hD : va_D A [(m0, .inr (5, [.int 1, .ref mB, .ref mR, .int x_flags, .ref mO, .int x_outCount, .int x_steps, .ref mN, .int x_nowFlags, .int x_writePlace, .int x_writeSize, .int x_writeValue, .int x_fault, .int x_halt, .int x_isByte, .int x_atRegister, .int x_atPlace])), (mO, .inl (cO, 400, .inl uf))] := hD
    refine lv_aload_n hx hb dX5_output_21 rfl (lv_at hl 0 rfl) ?_
    refine va_get (D := (dC, dI)) (ci := 5) (v := .int 1) (C := RX5) (T := TX5) (N := 17) hx hb hts (by decide +kernel) hown hK hP 0 rfl rfl 0 (by decide) (hts (.fieldLink RX5 22 "WordGuestModel" "thrown" "I") (by decide +kernel)) (fun _ h9 => h9) rfl dX5_output_22 ?_
    refine lv_if_le (tgt := 32) hx hb dX5_output_25 (by decide) (fun c9 => absurd c9 (by decide)) (fun c_2 => ?_)
    refine lv_iconst (v := 0) hx hb dX5_output_28 (by decide) ?_
    refine lv_goto (tgt := 38) hx hb dX5_output_29 (by decide) ?_
    have hP9 := hP.sub (ws' := [(m0, .inr (5, [.int 1, .ref mB, .ref mR, .int x_flags, .ref mO, .int x_outCount, .int x_steps, .ref mN, .int x_nowFlags, .int x_writePlace, .int x_writeSize, .int x_writeValue, .int x_fault, .int x_halt, .int x_isByte, .int x_atRegister, .int x_atPlace])), (mO, .inl (cO, 400, .inl uf))]) [0, 1] rfl
    have hD9 := hD.sub (ws' := [(m0, .inr (5, [.int 1, .ref mB, .ref mR, .int x_flags, .ref mO, .int x_outCount, .int x_steps, .ref mN, .int x_nowFlags, .int x_writePlace, .int x_writeSize, .int x_writeValue, .int x_fault, .int x_halt, .int x_isByte, .int x_atRegister, .int x_atPlace])), (mO, .inl (cO, 400, .inl uf))]) [0, 1] (by decide) rfl
    have hK9 := hK.sub (tys' := [(cO, .int)]) [0] rfl
    exact W.iret (v := 0) hx hb hr (fun t ht hW => ⟨⟨0, 1, rfl, trivial, by rw [ht]; exact hP9, va_K.moved hW.alike hK9, hD9⟩, hS.F ht⟩) hS.2.2 dX5_output_38
  · refine lv_iload_n hx hb dX5_output_5 rfl (lv_at hl 1 rfl) ?_
    refine lv_aload_n hx hb dX5_output_6 rfl (lv_at hl 0 rfl) ?_
    refine va_get (D := (dC, dI)) (ci := 5) (v := .int x_outCount) (C := RX5) (T := TX5) (N := 17) hx hb hts (by decide +kernel) hown hK hP 0 rfl rfl 5 (by decide) (hts (.fieldLink RX5 45 "WordGuestModel" "outCount" "I") (by decide +kernel)) (fun _ h9 => h9) rfl dX5_output_7 ?_
    refine lv_icmp_ge (tgt := 17) hx hb dX5_output_10 (by decide) (fun c_3 => ?_) (fun c_3 => ?_)
    · refine lv_iconst (v := 1) hx hb dX5_output_17 (by decide) ?_
      refine va_put (D := (dC, dI)) (ci := 5) (v := .int 1) (ty := .int) (C := RX5) (T := TX5) (N := 17) hx hb hts (by decide +kernel) tyX5 tyX5_ok nmX5 hown hK hP hD hS 0 rfl rfl 0 (by decide) (hts (.fieldLink RX5 22 "WordGuestModel" "thrown" "I") (by decide +kernel)) (fun _ h9 => h9) rfl (by decide +kernel) rfl rfl (Nat.le_of_ble_eq_true rfl) dX5_output_18 (fun H locs hP hD hS => ?_)
      have hP : va_P (dC, dI) vwCl [(m0, .inr (5, [.int 1, .ref mB, .ref mR, .int x_flags, .ref mO, .int x_outCount, .int x_steps, .ref mN, .int x_nowFlags, .int x_writePlace, .int x_writeSize, .int x_writeValue, .int x_fault, .int x_halt, .int x_isByte, .int x_atRegister, .int x_atPlace])), (mO, .inl (cO, 400, .inl uf))] H := hP
      have hD : va_D A [(m0, .inr (5, [.int 1, .ref mB, .ref mR, .int x_flags, .ref mO, .int x_outCount, .int x_steps, .ref mN, .int x_nowFlags, .int x_writePlace, .int x_writeSize, .int x_writeValue, .int x_fault, .int x_halt, .int x_isByte, .int x_atRegister, .int x_atPlace])), (mO, .inl (cO, 400, .inl uf))] := hD
      refine lv_aload_n hx hb dX5_output_21 rfl (lv_at hl 0 rfl) ?_
      refine va_get (D := (dC, dI)) (ci := 5) (v := .int 1) (C := RX5) (T := TX5) (N := 17) hx hb hts (by decide +kernel) hown hK hP 0 rfl rfl 0 (by decide) (hts (.fieldLink RX5 22 "WordGuestModel" "thrown" "I") (by decide +kernel)) (fun _ h9 => h9) rfl dX5_output_22 ?_
      refine lv_if_le (tgt := 32) hx hb dX5_output_25 (by decide) (fun c9 => absurd c9 (by decide)) (fun c_4 => ?_)
      refine lv_iconst (v := 0) hx hb dX5_output_28 (by decide) ?_
      refine lv_goto (tgt := 38) hx hb dX5_output_29 (by decide) ?_
      have hP9 := hP.sub (ws' := [(m0, .inr (5, [.int 1, .ref mB, .ref mR, .int x_flags, .ref mO, .int x_outCount, .int x_steps, .ref mN, .int x_nowFlags, .int x_writePlace, .int x_writeSize, .int x_writeValue, .int x_fault, .int x_halt, .int x_isByte, .int x_atRegister, .int x_atPlace])), (mO, .inl (cO, 400, .inl uf))]) [0, 1] rfl
      have hD9 := hD.sub (ws' := [(m0, .inr (5, [.int 1, .ref mB, .ref mR, .int x_flags, .ref mO, .int x_outCount, .int x_steps, .ref mN, .int x_nowFlags, .int x_writePlace, .int x_writeSize, .int x_writeValue, .int x_fault, .int x_halt, .int x_isByte, .int x_atRegister, .int x_atPlace])), (mO, .inl (cO, 400, .inl uf))]) [0, 1] (by decide) rfl
      have hK9 := hK.sub (tys' := [(cO, .int)]) [0] rfl
      exact W.iret (v := 0) hx hb hr (fun t ht hW => ⟨⟨0, 1, rfl, trivial, by rw [ht]; exact hP9, va_K.moved hW.alike hK9, hD9⟩, hS.F ht⟩) hS.2.2 dX5_output_38
    · refine lv_iconst (v := 0) hx hb dX5_output_13 (by decide) ?_
      refine lv_goto (tgt := 18) hx hb dX5_output_14 (by decide) ?_
      refine va_put (D := (dC, dI)) (ci := 5) (v := .int 0) (ty := .int) (C := RX5) (T := TX5) (N := 17) hx hb hts (by decide +kernel) tyX5 tyX5_ok nmX5 hown hK hP hD hS 0 rfl rfl 0 (by decide) (hts (.fieldLink RX5 22 "WordGuestModel" "thrown" "I") (by decide +kernel)) (fun _ h9 => h9) rfl (by decide +kernel) rfl rfl (Nat.le_of_ble_eq_true rfl) dX5_output_18 (fun H locs hP hD hS => ?_)
      have hP : va_P (dC, dI) vwCl [(m0, .inr (5, [.int 0, .ref mB, .ref mR, .int x_flags, .ref mO, .int x_outCount, .int x_steps, .ref mN, .int x_nowFlags, .int x_writePlace, .int x_writeSize, .int x_writeValue, .int x_fault, .int x_halt, .int x_isByte, .int x_atRegister, .int x_atPlace])), (mO, .inl (cO, 400, .inl uf))] H := hP
      have hD : va_D A [(m0, .inr (5, [.int 0, .ref mB, .ref mR, .int x_flags, .ref mO, .int x_outCount, .int x_steps, .ref mN, .int x_nowFlags, .int x_writePlace, .int x_writeSize, .int x_writeValue, .int x_fault, .int x_halt, .int x_isByte, .int x_atRegister, .int x_atPlace])), (mO, .inl (cO, 400, .inl uf))] := hD
      refine lv_aload_n hx hb dX5_output_21 rfl (lv_at hl 0 rfl) ?_
      refine va_get (D := (dC, dI)) (ci := 5) (v := .int 0) (C := RX5) (T := TX5) (N := 17) hx hb hts (by decide +kernel) hown hK hP 0 rfl rfl 0 (by decide) (hts (.fieldLink RX5 22 "WordGuestModel" "thrown" "I") (by decide +kernel)) (fun _ h9 => h9) rfl dX5_output_22 ?_
      refine lv_if_le (tgt := 32) hx hb dX5_output_25 (by decide) (fun c_5 => ?_) (fun c9 => absurd (by decide) c9)
      refine lv_aload_n hx hb dX5_output_32 rfl (lv_at hl 0 rfl) ?_
      refine va_get (D := (dC, dI)) (ci := 5) (v := .ref mO) (C := RX5) (T := TX5) (N := 17) hx hb hts (by decide +kernel) hown hK hP 0 rfl rfl 4 (by decide) (hts (.fieldLink RX5 16 "WordGuestModel" "outs" "[I") (by decide +kernel)) (fun _ h9 => h9) rfl dX5_output_33 ?_
      refine lv_iload_n hx hb dX5_output_36 rfl (lv_at hl 1 rfl) ?_
      refine va_iald hx hb hK hP 1 0 rfl rfl (q_outin hO c_1 (Int32.not_le.mp c_3)) dX5_output_37 ?_
      have hP9 := hP.sub (ws' := [(m0, .inr (5, [.int 0, .ref mB, .ref mR, .int x_flags, .ref mO, .int x_outCount, .int x_steps, .ref mN, .int x_nowFlags, .int x_writePlace, .int x_writeSize, .int x_writeValue, .int x_fault, .int x_halt, .int x_isByte, .int x_atRegister, .int x_atPlace])), (mO, .inl (cO, 400, .inl uf))]) [0, 1] rfl
      have hD9 := hD.sub (ws' := [(m0, .inr (5, [.int 0, .ref mB, .ref mR, .int x_flags, .ref mO, .int x_outCount, .int x_steps, .ref mN, .int x_nowFlags, .int x_writePlace, .int x_writeSize, .int x_writeValue, .int x_fault, .int x_halt, .int x_isByte, .int x_atRegister, .int x_atPlace])), (mO, .inl (cO, 400, .inl uf))]) [0, 1] (by decide) rfl
      have hK9 := hK.sub (tys' := [(cO, .int)]) [0] rfl
      exact W.iret (v := uf k.toNatClampNeg) hx hb hr (fun t ht hW => ⟨⟨uf k.toNatClampNeg, 0, rfl, trivial, by rw [ht]; exact hP9, va_K.moved hW.alike hK9, hD9⟩, hS.F ht⟩) hS.2.2 dX5_output_38
set_option maxHeartbeats 4000000 in
set_option maxRecDepth 100000 in
theorem s_X5_clear (l : Launch) (dC : Nat → ClassId) (dI : Nat → Nat → Nat) (sz : Nat) (m0 : Nat) (x_thrown : Int32) (mB : Nat) (mR : Nat) (x_flags : Int32) (mO : Nat) (x_outCount : Int32) (x_steps : Int32) (mN : Nat) (x_nowFlags : Int32) (x_writePlace : Int32) (x_writeSize : Int32) (x_writeValue : Int32) (x_fault : Int32) (x_halt : Int32) (x_isByte : Int32) (x_atRegister : Int32) (x_atPlace : Int32) (cY : ClassId) (bf : Nat → Int32) (cG : ClassId) (rf : Nat → Int32) (hB : okB bf) (hR : okW rf) : Met l yX5_clear wsX5_clear ({ frames := 0, cells := 0, slots := 0, locals := 0 }) (va_Pc [.ref m0] (q_pre dC dI sz [(m0, .inr (5, [.int x_thrown, .ref mB, .ref mR, .int x_flags, .ref mO, .int x_outCount, .int x_steps, .ref mN, .int x_nowFlags, .int x_writePlace, .int x_writeSize, .int x_writeValue, .int x_fault, .int x_halt, .int x_isByte, .int x_atRegister, .int x_atPlace])), (mB, .inl (cY, 4096, .inl bf)), (mR, .inl (cG, 8, .inl rf))] [(cY, .int), (cG, .int)])) (va_Qv (fun (u9 : (Nat → Int32) × (Nat → Int32)) => (okB u9.1) ∧ (okW u9.2)) (q_at dC dI (va_A [(m0, .inr (5, [.int x_thrown, .ref mB, .ref mR, .int x_flags, .ref mO, .int x_outCount, .int x_steps, .ref mN, .int x_nowFlags, .int x_writePlace, .int x_writeSize, .int x_writeValue, .int x_fault, .int x_halt, .int x_isByte, .int x_atRegister, .int x_atPlace])), (mB, .inl (cY, 4096, .inl bf)), (mR, .inl (cG, 8, .inl rf))] sz) (fun (u9 : (Nat → Int32) × (Nat → Int32)) => [(cY, .int), (cG, .int)]) (fun (u9 : (Nat → Int32) × (Nat → Int32)) => [(m0, .inr (5, [.int 0, .ref mB, .ref mR, .int 0, .ref mO, .int 0, .int 0, .ref mN, .int x_nowFlags, .int x_writePlace, .int x_writeSize, .int x_writeValue, .int x_fault, .int x_halt, .int x_isByte, .int x_atRegister, .int x_atPlace])), (mB, .inl (cY, 4096, .inl u9.1)), (mR, .inl (cG, 8, .inl u9.2))])) (va_A [(m0, .inr (5, [.int x_thrown, .ref mB, .ref mR, .int x_flags, .ref mO, .int x_outCount, .int x_steps, .ref mN, .int x_nowFlags, .int x_writePlace, .int x_writeSize, .int x_writeValue, .int x_fault, .int x_halt, .int x_isByte, .int x_atRegister, .int x_atPlace])), (mB, .inl (cY, 4096, .inl bf)), (mR, .inl (cG, 8, .inl rf))] sz)) 0 0 (va_A [(m0, .inr (5, [.int x_thrown, .ref mB, .ref mR, .int x_flags, .ref mO, .int x_outCount, .int x_steps, .ref mN, .int x_nowFlags, .int x_writePlace, .int x_writeSize, .int x_writeValue, .int x_fault, .int x_halt, .int x_isByte, .int x_atRegister, .int x_atPlace])), (mB, .inl (cY, 4096, .inl bf)), (mR, .inl (cG, 8, .inl rf))] sz) := by
  refine Met.ofW (cc := cX5_clear) (maxL := 2) (ret := none) (by decide) rfl ?_
  intro p e s m args below meth c s₁ B hml hv
  obtain ⟨rfl, hsz, hP, hK, hD0, hN⟩ := hv
  have hx := B.exec
  have hb := B.bytes
  have hr := B.returns
  have hts := atoms_spec (ws := wsX5_clear) B.pre
  have hown : s.vm.findClass RX5 = some m.cls := findClass_of_methodNamed B.named
  have hlocks := B.notSynchronized
  subst hsz
  have hD := hD0.self (sz := s.heap.size)
  generalize hAe : va_A [(m0, .inr (5, [.int x_thrown, .ref mB, .ref mR, .int x_flags, .ref mO, .int x_outCount, .int x_steps, .ref mN, .int x_nowFlags, .int x_writePlace, .int x_writeSize, .int x_writeValue, .int x_fault, .int x_halt, .int x_isByte, .int x_atRegister, .int x_atPlace])), (mB, .inl (cY, 4096, .inl bf)), (mR, .inl (cG, 8, .inl rf))] s.heap.size = A at hD ⊢
  have hA : ∀ q : Nat, s.heap.size ≤ q → A q := fun q h => by rw [← hAe]; exact Or.inr h
  have hS : va_S A s.heap s.heap [] := va_S.rf
  have hP : va_P (dC, dI) vwCl [(m0, .inr (5, [.int x_thrown, .ref mB, .ref mR, .int x_flags, .ref mO, .int x_outCount, .int x_steps, .ref mN, .int x_nowFlags, .int x_writePlace, .int x_writeSize, .int x_writeValue, .int x_fault, .int x_halt, .int x_isByte, .int x_atRegister, .int x_atPlace])), (mB, .inl (cY, 4096, .inl bf)), (mR, .inl (cG, 8, .inl rf))] s.heap := hP
  have hl := lv_entry ([.ref m0]) (n := 2) (Nat.le_of_ble_eq_true rfl)
  rw [lg_entry_eq]
  generalize (lg_sl ([.ref m0]) ++ List.replicate (2 - (lg_sl ([.ref m0])).length) Slot.unset).toArray = ls at hl ⊢
  have hl : lv_has ls 2 [(0, .ref m0)] := hl
  refine lv_aload_n hx hb dX5_clear_0 rfl (lv_at hl 0 rfl) ?_
  refine lv_iconst (v := 0) hx hb dX5_clear_1 (by decide) ?_
  refine va_put (D := (dC, dI)) (ci := 5) (v := .int 0) (ty := .int) (C := RX5) (T := TX5) (N := 17) hx hb hts (by decide +kernel) tyX5 tyX5_ok nmX5 hown hK hP hD hS 0 rfl rfl 0 (by decide) (hts (.fieldLink RX5 22 "WordGuestModel" "thrown" "I") (by decide +kernel)) (fun _ h9 => h9) rfl (by decide +kernel) rfl rfl (Nat.le_of_ble_eq_true rfl) dX5_clear_2 (fun H locs hP hD hS => ?_)
  have hP : va_P (dC, dI) vwCl [(m0, .inr (5, [.int 0, .ref mB, .ref mR, .int x_flags, .ref mO, .int x_outCount, .int x_steps, .ref mN, .int x_nowFlags, .int x_writePlace, .int x_writeSize, .int x_writeValue, .int x_fault, .int x_halt, .int x_isByte, .int x_atRegister, .int x_atPlace])), (mB, .inl (cY, 4096, .inl bf)), (mR, .inl (cG, 8, .inl rf))] H := hP
  have hD : va_D A [(m0, .inr (5, [.int 0, .ref mB, .ref mR, .int x_flags, .ref mO, .int x_outCount, .int x_steps, .ref mN, .int x_nowFlags, .int x_writePlace, .int x_writeSize, .int x_writeValue, .int x_fault, .int x_halt, .int x_isByte, .int x_atRegister, .int x_atPlace])), (mB, .inl (cY, 4096, .inl bf)), (mR, .inl (cG, 8, .inl rf))] := hD
  refine lv_iconst (v := 0) hx hb dX5_clear_5 (by decide) ?_
  refine lv_istore_n (lv' := [(1, .int 0), (0, .ref m0)]) hx hb dX5_clear_6 rfl hl (by decide) rfl (fun ls hl => ?_)
  refine q_loop (fun n9 H locs ls => ∃ (i9 : Nat) (g9 : Nat → Int32), i9 + n9 = 4096 ∧ okB g9 ∧ va_P (dC, dI) vwCl [(m0, .inr (5, [.int 0, .ref mB, .ref mR, .int x_flags, .ref mO, .int x_outCount, .int x_steps, .ref mN, .int x_nowFlags, .int x_writePlace, .int x_writeSize, .int x_writeValue, .int x_fault, .int x_halt, .int x_isByte, .int x_atRegister, .int x_atPlace])), (mB, .inl (cY, 4096, .inl g9)), (mR, .inl (cG, 8, .inl rf))] H ∧ va_D A [(m0, .inr (5, [.int 0, .ref mB, .ref mR, .int x_flags, .ref mO, .int x_outCount, .int x_steps, .ref mN, .int x_nowFlags, .int x_writePlace, .int x_writeSize, .int x_writeValue, .int x_fault, .int x_halt, .int x_isByte, .int x_atRegister, .int x_atPlace])), (mB, .inl (cY, 4096, .inl g9)), (mR, .inl (cG, 8, .inl rf))] ∧ va_S A s.heap H locs ∧ lv_has ls 2 [(1, .int (nI i9)), (0, .ref m0)]) 7 (fun H locs ls hJ => ?_) (fun n9 ih H locs ls hJ => ?_) 4096 _ _ _ ⟨0, bf, Nat.zero_add _, hB, hP, hD, hS, hl⟩
  · obtain ⟨i_3, g_1, he9, hg_2, hP, hD, hS, hl⟩ := hJ
    have hi9 : i_3 = 4096 := by omega
    refine lv_iload_n hx hb dX5_clear_7 rfl (lv_at hl 0 rfl) ?_
    refine lv_sipush (v := 4096) hx hb dX5_clear_8 (by decide) ?_
    refine lv_icmp_ge (tgt := 27) hx hb dX5_clear_11 (by decide) (fun c_4 => ?_) (fun c9 => absurd (by rw [hi9]; exact Int32.le_refl _) c9)
    refine lv_iconst (v := 0) hx hb dX5_clear_27 (by decide) ?_
    refine lv_istore_n (lv' := [(1, .int 0), (0, .ref m0)]) hx hb dX5_clear_28 rfl hl (by decide) rfl (fun ls hl => ?_)
    refine q_loop (fun n9 H locs ls => ∃ (i9 : Nat) (g9 : Nat → Int32), i9 + n9 = 8 ∧ okW g9 ∧ va_P (dC, dI) vwCl [(m0, .inr (5, [.int 0, .ref mB, .ref mR, .int x_flags, .ref mO, .int x_outCount, .int x_steps, .ref mN, .int x_nowFlags, .int x_writePlace, .int x_writeSize, .int x_writeValue, .int x_fault, .int x_halt, .int x_isByte, .int x_atRegister, .int x_atPlace])), (mB, .inl (cY, 4096, .inl g_1)), (mR, .inl (cG, 8, .inl g9))] H ∧ va_D A [(m0, .inr (5, [.int 0, .ref mB, .ref mR, .int x_flags, .ref mO, .int x_outCount, .int x_steps, .ref mN, .int x_nowFlags, .int x_writePlace, .int x_writeSize, .int x_writeValue, .int x_fault, .int x_halt, .int x_isByte, .int x_atRegister, .int x_atPlace])), (mB, .inl (cY, 4096, .inl g_1)), (mR, .inl (cG, 8, .inl g9))] ∧ va_S A s.heap H locs ∧ lv_has ls 2 [(1, .int (nI i9)), (0, .ref m0)]) 29 (fun H locs ls hJ => ?_) (fun n9 ih H locs ls hJ => ?_) 8 _ _ _ ⟨0, rf, Nat.zero_add _, hR, hP, hD, hS, hl⟩
    · obtain ⟨i_7, g_5, he9, hg_6, hP, hD, hS, hl⟩ := hJ
      have hi9 : i_7 = 8 := by omega
      refine lv_iload_n hx hb dX5_clear_29 rfl (lv_at hl 0 rfl) ?_
      refine lv_bipush (v := 8) hx hb dX5_clear_30 (by decide) ?_
      refine lv_icmp_ge (tgt := 48) hx hb dX5_clear_32 (by decide) (fun c_8 => ?_) (fun c9 => absurd (by rw [hi9]; exact Int32.le_refl _) c9)
      refine lv_aload_n hx hb dX5_clear_48 rfl (lv_at hl 1 rfl) ?_
      refine lv_iconst (v := 0) hx hb dX5_clear_49 (by decide) ?_
      refine va_put (D := (dC, dI)) (ci := 5) (v := .int 0) (ty := .int) (C := RX5) (T := TX5) (N := 17) hx hb hts (by decide +kernel) tyX5 tyX5_ok nmX5 hown hK hP hD hS 0 rfl rfl 3 (by decide) (hts (.fieldLink RX5 39 "WordGuestModel" "flags" "I") (by decide +kernel)) (fun _ h9 => h9) rfl (by decide +kernel) rfl rfl (Nat.le_of_ble_eq_true rfl) dX5_clear_50 (fun H locs hP hD hS => ?_)
      have hP : va_P (dC, dI) vwCl [(m0, .inr (5, [.int 0, .ref mB, .ref mR, .int 0, .ref mO, .int x_outCount, .int x_steps, .ref mN, .int x_nowFlags, .int x_writePlace, .int x_writeSize, .int x_writeValue, .int x_fault, .int x_halt, .int x_isByte, .int x_atRegister, .int x_atPlace])), (mB, .inl (cY, 4096, .inl g_1)), (mR, .inl (cG, 8, .inl g_5))] H := hP
      have hD : va_D A [(m0, .inr (5, [.int 0, .ref mB, .ref mR, .int 0, .ref mO, .int x_outCount, .int x_steps, .ref mN, .int x_nowFlags, .int x_writePlace, .int x_writeSize, .int x_writeValue, .int x_fault, .int x_halt, .int x_isByte, .int x_atRegister, .int x_atPlace])), (mB, .inl (cY, 4096, .inl g_1)), (mR, .inl (cG, 8, .inl g_5))] := hD
      refine lv_aload_n hx hb dX5_clear_53 rfl (lv_at hl 1 rfl) ?_
      refine lv_iconst (v := 0) hx hb dX5_clear_54 (by decide) ?_
      refine va_put (D := (dC, dI)) (ci := 5) (v := .int 0) (ty := .int) (C := RX5) (T := TX5) (N := 17) hx hb hts (by decide +kernel) tyX5 tyX5_ok nmX5 hown hK hP hD hS 0 rfl rfl 5 (by decide) (hts (.fieldLink RX5 45 "WordGuestModel" "outCount" "I") (by decide +kernel)) (fun _ h9 => h9) rfl (by decide +kernel) rfl rfl (Nat.le_of_ble_eq_true rfl) dX5_clear_55 (fun H locs hP hD hS => ?_)
      have hP : va_P (dC, dI) vwCl [(m0, .inr (5, [.int 0, .ref mB, .ref mR, .int 0, .ref mO, .int 0, .int x_steps, .ref mN, .int x_nowFlags, .int x_writePlace, .int x_writeSize, .int x_writeValue, .int x_fault, .int x_halt, .int x_isByte, .int x_atRegister, .int x_atPlace])), (mB, .inl (cY, 4096, .inl g_1)), (mR, .inl (cG, 8, .inl g_5))] H := hP
      have hD : va_D A [(m0, .inr (5, [.int 0, .ref mB, .ref mR, .int 0, .ref mO, .int 0, .int x_steps, .ref mN, .int x_nowFlags, .int x_writePlace, .int x_writeSize, .int x_writeValue, .int x_fault, .int x_halt, .int x_isByte, .int x_atRegister, .int x_atPlace])), (mB, .inl (cY, 4096, .inl g_1)), (mR, .inl (cG, 8, .inl g_5))] := hD
      refine lv_aload_n hx hb dX5_clear_58 rfl (lv_at hl 1 rfl) ?_
      refine lv_iconst (v := 0) hx hb dX5_clear_59 (by decide) ?_
      refine va_put (D := (dC, dI)) (ci := 5) (v := .int 0) (ty := .int) (C := RX5) (T := TX5) (N := 17) hx hb hts (by decide +kernel) tyX5 tyX5_ok nmX5 hown hK hP hD hS 0 rfl rfl 6 (by decide) (hts (.fieldLink RX5 42 "WordGuestModel" "steps" "I") (by decide +kernel)) (fun _ h9 => h9) rfl (by decide +kernel) rfl rfl (Nat.le_of_ble_eq_true rfl) dX5_clear_60 (fun H locs hP hD hS => ?_)
      have hP : va_P (dC, dI) vwCl [(m0, .inr (5, [.int 0, .ref mB, .ref mR, .int 0, .ref mO, .int 0, .int 0, .ref mN, .int x_nowFlags, .int x_writePlace, .int x_writeSize, .int x_writeValue, .int x_fault, .int x_halt, .int x_isByte, .int x_atRegister, .int x_atPlace])), (mB, .inl (cY, 4096, .inl g_1)), (mR, .inl (cG, 8, .inl g_5))] H := hP
      have hD : va_D A [(m0, .inr (5, [.int 0, .ref mB, .ref mR, .int 0, .ref mO, .int 0, .int 0, .ref mN, .int x_nowFlags, .int x_writePlace, .int x_writeSize, .int x_writeValue, .int x_fault, .int x_halt, .int x_isByte, .int x_atRegister, .int x_atPlace])), (mB, .inl (cY, 4096, .inl g_1)), (mR, .inl (cG, 8, .inl g_5))] := hD
      have hP9 := hP.sub (ws' := [(m0, .inr (5, [.int 0, .ref mB, .ref mR, .int 0, .ref mO, .int 0, .int 0, .ref mN, .int x_nowFlags, .int x_writePlace, .int x_writeSize, .int x_writeValue, .int x_fault, .int x_halt, .int x_isByte, .int x_atRegister, .int x_atPlace])), (mB, .inl (cY, 4096, .inl g_1)), (mR, .inl (cG, 8, .inl g_5))]) [0, 1, 2] rfl
      have hD9 := hD.sub (ws' := [(m0, .inr (5, [.int 0, .ref mB, .ref mR, .int 0, .ref mO, .int 0, .int 0, .ref mN, .int x_nowFlags, .int x_writePlace, .int x_writeSize, .int x_writeValue, .int x_fault, .int x_halt, .int x_isByte, .int x_atRegister, .int x_atPlace])), (mB, .inl (cY, 4096, .inl g_1)), (mR, .inl (cG, 8, .inl g_5))]) [0, 1, 2] (by decide) rfl
      have hK9 := hK.sub (tys' := [(cY, .int), (cG, .int)]) [0, 1] rfl
      exact W.vret hx hb hr (fun t ht hW => ⟨⟨(g_1, g_5), rfl, ⟨hg_2, hg_6⟩, by rw [ht]; exact hP9, va_K.moved hW.alike hK9, hD9⟩, hS.F ht⟩) hS.2.2 dX5_clear_63
    · obtain ⟨i_11, g_9, he9, hg_10, hP, hD, hS, hl⟩ := hJ
      have hi9 : i_11 < 8 := by omega
      refine lv_iload_n hx hb dX5_clear_29 rfl (lv_at hl 0 rfl) ?_
      refine lv_bipush (v := 8) hx hb dX5_clear_30 (by decide) ?_
      refine lv_icmp_ge (tgt := 48) hx hb dX5_clear_32 (by decide) (fun c9 => absurd c9 (nI_ge (b := 8) hi9 (by decide))) (fun c_12 => ?_)
      refine lv_aload_n hx hb dX5_clear_35 rfl (lv_at hl 1 rfl) ?_
      refine va_get (D := (dC, dI)) (ci := 5) (v := .ref mR) (C := RX5) (T := TX5) (N := 17) hx hb hts (by decide +kernel) hown hK hP 0 rfl rfl 2 (by decide) (hts (.fieldLink RX5 13 "WordGuestModel" "registers" "[I") (by decide +kernel)) (fun _ h9 => h9) rfl dX5_clear_36 ?_
      refine lv_iload_n hx hb dX5_clear_39 rfl (lv_at hl 0 rfl) ?_
      refine lv_iconst (v := 0) hx hb dX5_clear_40 (by decide) ?_
      refine va_iast hx hb hK hP hD hS 2 1 rfl rfl (vp_in_nI hi9 (by decide)) dX5_clear_41 (fun H locs hP hD hS => ?_)
      have hP : va_P (dC, dI) vwCl [(m0, .inr (5, [.int 0, .ref mB, .ref mR, .int x_flags, .ref mO, .int x_outCount, .int x_steps, .ref mN, .int x_nowFlags, .int x_writePlace, .int x_writeSize, .int x_writeValue, .int x_fault, .int x_halt, .int x_isByte, .int x_atRegister, .int x_atPlace])), (mB, .inl (cY, 4096, .inl g_1)), (mR, .inl (cG, 8, .inl (upd g_9 (nI i_11).toNatClampNeg 0)))] H := hP
      have hD : va_D A [(m0, .inr (5, [.int 0, .ref mB, .ref mR, .int x_flags, .ref mO, .int x_outCount, .int x_steps, .ref mN, .int x_nowFlags, .int x_writePlace, .int x_writeSize, .int x_writeValue, .int x_fault, .int x_halt, .int x_isByte, .int x_atRegister, .int x_atPlace])), (mB, .inl (cY, 4096, .inl g_1)), (mR, .inl (cG, 8, .inl (upd g_9 (nI i_11).toNatClampNeg 0)))] := hD
      have hR_13 : okW (upd g_9 (nI i_11).toNatClampNeg 0) := okW_upd hg_10 ⟨0, by decide, rfl⟩ _
      generalize (upd g_9 (nI i_11).toNatClampNeg 0) = g_14 at hP hD hR_13
      refine lv_iinc (v := nI (i_11 + 1)) (lv' := [(1, .int (nI (i_11 + 1))), (0, .ref m0)]) hx hb dX5_clear_42 hl (k := 0) rfl (nI_1 i_11) (by decide) rfl (fun ls hl => ?_)
      refine lv_goto (tgt := 29) hx hb dX5_clear_45 (by decide) ?_
      exact ih _ _ _ ⟨i_11 + 1, _, by omega, hR_13, hP, hD, hS, lv_sub hl [0, 1] rfl⟩
  · obtain ⟨i_17, g_15, he9, hg_16, hP, hD, hS, hl⟩ := hJ
    have hi9 : i_17 < 4096 := by omega
    refine lv_iload_n hx hb dX5_clear_7 rfl (lv_at hl 0 rfl) ?_
    refine lv_sipush (v := 4096) hx hb dX5_clear_8 (by decide) ?_
    refine lv_icmp_ge (tgt := 27) hx hb dX5_clear_11 (by decide) (fun c9 => absurd c9 (nI_ge (b := 4096) hi9 (by decide))) (fun c_18 => ?_)
    refine lv_aload_n hx hb dX5_clear_14 rfl (lv_at hl 1 rfl) ?_
    refine va_get (D := (dC, dI)) (ci := 5) (v := .ref mB) (C := RX5) (T := TX5) (N := 17) hx hb hts (by decide +kernel) hown hK hP 0 rfl rfl 1 (by decide) (hts (.fieldLink RX5 7 "WordGuestModel" "bytes" "[I") (by decide +kernel)) (fun _ h9 => h9) rfl dX5_clear_15 ?_
    refine lv_iload_n hx hb dX5_clear_18 rfl (lv_at hl 0 rfl) ?_
    refine lv_iconst (v := 0) hx hb dX5_clear_19 (by decide) ?_
    refine va_iast hx hb hK hP hD hS 1 0 rfl rfl (vp_in_nI hi9 (by decide)) dX5_clear_20 (fun H locs hP hD hS => ?_)
    have hP : va_P (dC, dI) vwCl [(m0, .inr (5, [.int 0, .ref mB, .ref mR, .int x_flags, .ref mO, .int x_outCount, .int x_steps, .ref mN, .int x_nowFlags, .int x_writePlace, .int x_writeSize, .int x_writeValue, .int x_fault, .int x_halt, .int x_isByte, .int x_atRegister, .int x_atPlace])), (mB, .inl (cY, 4096, .inl (upd g_15 (nI i_17).toNatClampNeg 0))), (mR, .inl (cG, 8, .inl rf))] H := hP
    have hD : va_D A [(m0, .inr (5, [.int 0, .ref mB, .ref mR, .int x_flags, .ref mO, .int x_outCount, .int x_steps, .ref mN, .int x_nowFlags, .int x_writePlace, .int x_writeSize, .int x_writeValue, .int x_fault, .int x_halt, .int x_isByte, .int x_atRegister, .int x_atPlace])), (mB, .inl (cY, 4096, .inl (upd g_15 (nI i_17).toNatClampNeg 0))), (mR, .inl (cG, 8, .inl rf))] := hD
    have hB_19 : okB (upd g_15 (nI i_17).toNatClampNeg 0) := okB_upd hg_16 ⟨0, by decide, rfl⟩ _
    generalize (upd g_15 (nI i_17).toNatClampNeg 0) = g_20 at hP hD hB_19
    refine lv_iinc (v := nI (i_17 + 1)) (lv' := [(1, .int (nI (i_17 + 1))), (0, .ref m0)]) hx hb dX5_clear_21 hl (k := 0) rfl (nI_1 i_17) (by decide) rfl (fun ls hl => ?_)
    refine lv_goto (tgt := 7) hx hb dX5_clear_24 (by decide) ?_
    exact ih _ _ _ ⟨i_17 + 1, _, by omega, hB_19, hP, hD, hS, lv_sub hl [0, 1] rfl⟩
