set_option maxHeartbeats 4000000 in
set_option maxRecDepth 100000 in
theorem c_X1_init (l : Launch) (dC : Nat → ClassId) (dI : Nat → Nat → Nat) (sz : Nat) (aM : Nat)  : Met l yX1_init wsX1_init ({ frames := 1, cells := 2, slots := 2448, locals := 12 }) (va_Pc [.ref aM] (q_pre dC dI sz [(aM, .inr (1, [.null, .null, .int 0]))] [])) (va_Qv (fun (u9 : Nat × Nat × ClassId × ClassId) => True) (q_at dC dI (va_A [(aM, .inr (1, [.null, .null, .int 0]))] sz) (fun (u9 : Nat × Nat × ClassId × ClassId) => [(u9.2.2.1, .int), (u9.2.2.2, .int)]) (fun (u9 : Nat × Nat × ClassId × ClassId) => [(aM, .inr (1, [.ref u9.1, .ref u9.2.1, .int 0])), (u9.1, .inl (u9.2.2.1, 2048, .inl (fun _ => 0))), (u9.2.1, .inl (u9.2.2.2, 400, .inl (fun _ => 0)))])) (va_A [(aM, .inr (1, [.null, .null, .int 0]))] sz)) 2 2448 (va_A [(aM, .inr (1, [.null, .null, .int 0]))] sz) := by
  refine Met.ofW (cc := cX1_init) (maxL := 1) (ret := none) (by decide) rfl ?_
  intro p e s m args below meth c s₁ B hml hv
  obtain ⟨rfl, hsz, hP, hK, hD0, hN⟩ := hv
  have hx := B.exec
  have hb := B.bytes
  have hr := B.returns
  have hts := atoms_spec (ws := wsX1_init) B.pre
  have hown : s.vm.findClass RX1 = some m.cls := findClass_of_methodNamed B.named
  have hlocks := B.notSynchronized
  have hin : meth.name = "<init>" := (name_of_methodNamed B.named B.method).1
  subst hsz
  have hD := hD0.self (sz := s.heap.size)
  generalize hAe : va_A [(aM, .inr (1, [.null, .null, .int 0]))] s.heap.size = A at hD ⊢
  have hA : ∀ q : Nat, s.heap.size ≤ q → A q := fun q h => by rw [← hAe]; exact Or.inr h
  have hS : va_S A s.heap s.heap [] := va_S.rf
  have hP : va_P (dC, dI) vwCl [(aM, .inr (1, [.null, .null, .int 0]))] s.heap := hP
  have hl := lv_entry ([.ref aM]) (n := 1) (Nat.le_of_ble_eq_true rfl)
  rw [lg_entry_eq]
  generalize (lg_sl ([.ref aM]) ++ List.replicate (1 - (lg_sl ([.ref aM])).length) Slot.unset).toArray = ls at hl ⊢
  have hl : lv_has ls 1 [(0, .ref aM)] := hl
  refine lv_aload_n hx hb dX1_init_0 rfl (lv_at hl 0 rfl) ?_
  refine W.objInit hx hb hown (hts (.methodLink RX1 3 objectInit) (by decide +kernel)) (hts (.instanceMethod objectInit) (by decide +kernel)) (hts (.code objectInit ⟨#[0xb1]⟩ 1 none) (by decide +kernel)) rfl (by rw [hml]; exact hl.1) rfl dX1_init_1 (Nat.le_of_ble_eq_true rfl) (Nat.le_of_ble_eq_true rfl) ?_
  refine W.eq (g2 := F0 m 4 ls []) rfl ?_
  refine lv_aload_n hx hb dX1_init_4 rfl (lv_at hl 0 rfl) ?_
  refine lv_sipush (v := 2048) hx hb dX1_init_5 (by decide) ?_
  refine va_newa (atype := .int) (a0 := (2048, .inl (fun _ => 0))) (N' := 2048) (ty := .int) hx hb (hts (.arrayClass .int) (by decide +kernel)) rfl hK hP hD hS hA (fun _ => q_zi _ _) (by decide) (by decide) (by decide) (show 0 + 1 ≤ 2 from by omega) (show 0 + 2048 ≤ 2448 from by omega) dX1_init_8 (fun q_1 cA_2 H hK hP hD hS => ?_)
  have hP : va_P (dC, dI) vwCl [(aM, .inr (1, [.null, .null, .int 0])), (q_1, .inl (cA_2, 2048, .inl (fun _ => 0)))] H := hP
  have hD : va_D A [(aM, .inr (1, [.null, .null, .int 0])), (q_1, .inl (cA_2, 2048, .inl (fun _ => 0)))] := hD
  have hK : va_K (dC, dI) vwCl [(cA_2, .int)] s := hK
  refine W.widen (k := 1) (n := 2048) (by omega) (by omega) ?_
  refine va_putF (D := (dC, dI)) (ci := 1) (v := .ref q_1) (ty := .array .int) (C := RX1) (T := TX1) (N := 3) hx hb hts (by decide +kernel) tyX1 tyX1_ok nmX1 hown hK hP hD hS 0 rfl rfl 0 (by decide) (hts (.fieldLink RX1 9 "WordGuest$Memory" "words" "[I") (by decide +kernel)) (fun _ h9 => h9) rfl hin rfl (by decide +kernel) rfl rfl (Nat.le_of_ble_eq_true rfl) dX1_init_10 (fun H locs hP hD hS => ?_)
  have hP : va_P (dC, dI) vwCl [(aM, .inr (1, [.ref q_1, .null, .int 0])), (q_1, .inl (cA_2, 2048, .inl (fun _ => 0)))] H := hP
  have hD : va_D A [(aM, .inr (1, [.ref q_1, .null, .int 0])), (q_1, .inl (cA_2, 2048, .inl (fun _ => 0)))] := hD
  refine lv_aload_n hx hb dX1_init_13 rfl (lv_at hl 0 rfl) ?_
  refine lv_sipush (v := 400) hx hb dX1_init_14 (by decide) ?_
  refine va_newa (atype := .int) (a0 := (400, .inl (fun _ => 0))) (N' := 400) (ty := .int) hx hb (hts (.arrayClass .int) (by decide +kernel)) rfl hK hP hD hS hA (fun _ => q_zi _ _) (by decide) (by decide) (by decide) (show 1 + 1 ≤ 2 from by omega) (show 2048 + 400 ≤ 2448 from by omega) dX1_init_17 (fun q_3 cA_4 H hK hP hD hS => ?_)
  have hP : va_P (dC, dI) vwCl [(aM, .inr (1, [.ref q_1, .null, .int 0])), (q_1, .inl (cA_2, 2048, .inl (fun _ => 0))), (q_3, .inl (cA_4, 400, .inl (fun _ => 0)))] H := hP
  have hD : va_D A [(aM, .inr (1, [.ref q_1, .null, .int 0])), (q_1, .inl (cA_2, 2048, .inl (fun _ => 0))), (q_3, .inl (cA_4, 400, .inl (fun _ => 0)))] := hD
  have hK : va_K (dC, dI) vwCl [(cA_2, .int), (cA_4, .int)] s := hK
  refine W.widen (k := 2) (n := 2448) (by omega) (by omega) ?_
  refine va_putF (D := (dC, dI)) (ci := 1) (v := .ref q_3) (ty := .array .int) (C := RX1) (T := TX1) (N := 3) hx hb hts (by decide +kernel) tyX1 tyX1_ok nmX1 hown hK hP hD hS 0 rfl rfl 1 (by decide) (hts (.fieldLink RX1 15 "WordGuest$Memory" "told" "[I") (by decide +kernel)) (fun _ h9 => h9) rfl hin rfl (by decide +kernel) rfl rfl (Nat.le_of_ble_eq_true rfl) dX1_init_19 (fun H locs hP hD hS => ?_)
  have hP : va_P (dC, dI) vwCl [(aM, .inr (1, [.ref q_1, .ref q_3, .int 0])), (q_1, .inl (cA_2, 2048, .inl (fun _ => 0))), (q_3, .inl (cA_4, 400, .inl (fun _ => 0)))] H := hP
  have hD : va_D A [(aM, .inr (1, [.ref q_1, .ref q_3, .int 0])), (q_1, .inl (cA_2, 2048, .inl (fun _ => 0))), (q_3, .inl (cA_4, 400, .inl (fun _ => 0)))] := hD
  have hP9 := hP.sub (ws' := [(aM, .inr (1, [.ref q_1, .ref q_3, .int 0])), (q_1, .inl (cA_2, 2048, .inl (fun _ => 0))), (q_3, .inl (cA_4, 400, .inl (fun _ => 0)))]) [0, 1, 2] rfl
  have hD9 := hD.sub (ws' := [(aM, .inr (1, [.ref q_1, .ref q_3, .int 0])), (q_1, .inl (cA_2, 2048, .inl (fun _ => 0))), (q_3, .inl (cA_4, 400, .inl (fun _ => 0)))]) [0, 1, 2] (by decide) rfl
  have hK9 := hK.sub (tys' := [(cA_2, .int), (cA_4, .int)]) [0, 1] rfl
  exact W.vret hx hb hr (fun t ht hW => ⟨⟨(q_1, q_3, cA_2, cA_4), rfl, trivial, by rw [ht]; exact hP9, va_K.moved hW.alike hK9, hD9⟩, hS.F ht⟩) hS.2.2 dX1_init_22
