set_option maxHeartbeats 4000000 in
set_option maxRecDepth 100000 in
theorem c_X3_init (l : Launch) (dC : Nat → ClassId) (dI : Nat → Nat → Nat) (sz : Nat) (aP : Nat) (aM : Nat)  : Met l yX3_init wsX3_init ({ frames := 2, cells := 4, slots := 24, locals := 33 }) (va_Pc [.ref aP, .ref aM] (q_pre dC dI sz [(aP, .inr (3, [.null, .null]))] [])) (va_Qv (fun (u9 : Nat × Nat × Nat × Nat × ClassId × ClassId) => True) (q_at dC dI (va_A [(aP, .inr (3, [.null, .null]))] sz) (fun (u9 : Nat × Nat × Nat × Nat × ClassId × ClassId) => [(u9.2.2.2.2.1, .int), (u9.2.2.2.2.2, .int)]) (fun (u9 : Nat × Nat × Nat × Nat × ClassId × ClassId) => [(aP, .inr (3, [.ref u9.1, .ref u9.2.1])), (u9.1, .inr (2, [.ref aM, .ref u9.2.2.1, .ref u9.2.2.2.1, .int 0])), (u9.2.2.1, .inl (u9.2.2.2.2.1, 8, .inl (fun _ => 0))), (u9.2.2.2.1, .inl (u9.2.2.2.2.2, 8, .inl (fun _ => 0))), (u9.2.1, .inr (0, [.int 0, .int 0, .int 0, .int 0]))])) (va_A [(aP, .inr (3, [.null, .null]))] sz)) 4 24 (va_A [(aP, .inr (3, [.null, .null]))] sz) := by
  refine Met.ofW (cc := cX3_init) (maxL := 2) (ret := none) (by decide) rfl ?_
  intro p e s m args below meth c s₁ B hml hv
  obtain ⟨rfl, hsz, hP, hK, hD0, hN⟩ := hv
  have hx := B.exec
  have hb := B.bytes
  have hr := B.returns
  have hts := atoms_spec (ws := wsX3_init) B.pre
  have hown : s.vm.findClass RX3 = some m.cls := findClass_of_methodNamed B.named
  have hlocks := B.notSynchronized
  have hin : meth.name = "<init>" := (name_of_methodNamed B.named B.method).1
  subst hsz
  have hD := hD0.self (sz := s.heap.size)
  generalize hAe : va_A [(aP, .inr (3, [.null, .null]))] s.heap.size = A at hD ⊢
  have hA : ∀ q : Nat, s.heap.size ≤ q → A q := fun q h => by rw [← hAe]; exact Or.inr h
  have hS : va_S A s.heap s.heap [] := va_S.rf
  have hP : va_P (dC, dI) vwCl [(aP, .inr (3, [.null, .null]))] s.heap := hP
  have hl := lv_entry ([.ref aP, .ref aM]) (n := 2) (Nat.le_of_ble_eq_true rfl)
  rw [lg_entry_eq]
  generalize (lg_sl ([.ref aP, .ref aM]) ++ List.replicate (2 - (lg_sl ([.ref aP, .ref aM])).length) Slot.unset).toArray = ls at hl ⊢
  have hl : lv_has ls 2 [(0, .ref aP), (1, .ref aM)] := hl
  refine lv_aload_n hx hb dX3_init_0 rfl (lv_at hl 0 rfl) ?_
  refine W.objInit hx hb hown (hts (.methodLink RX3 3 objectInit) (by decide +kernel)) (hts (.instanceMethod objectInit) (by decide +kernel)) (hts (.code objectInit ⟨#[0xb1]⟩ 1 none) (by decide +kernel)) rfl (by rw [hml]; exact hl.1) rfl dX3_init_1 (Nat.le_of_ble_eq_true rfl) (Nat.le_of_ble_eq_true rfl) ?_
  refine W.eq (g2 := F0 m 4 ls []) rfl ?_
  refine lv_aload_n hx hb dX3_init_4 rfl (lv_at hl 0 rfl) ?_
  refine va_new (ci := 0) (fs := [.int 0, .int 0, .int 0, .int 0]) (C := RX0) (T := TX0) (N := 4) hx hb hts (by decide +kernel) tyX0 tyX0_ok hown (hts (.classLink RX3 9 RX0) (by decide +kernel)) (hts (.instantiable RX0 4) (by decide +kernel)) (hts (.initialized RX0) (by decide +kernel)) hK hP hD hS hA rfl (fun j hj => by rcases (show j = 0 ∨ j = 1 ∨ j = 2 ∨ j = 3 by omega) with rfl | rfl | rfl | rfl <;> rfl) (show 0 + 1 ≤ 4 from by omega) (show 0 + 4 ≤ 24 from by omega) dX3_init_5 (fun q_1 H hP hD hS => ?_)
  have hP : va_P (dC, dI) vwCl [(aP, .inr (3, [.null, .null])), (q_1, .inr (0, [.int 0, .int 0, .int 0, .int 0]))] H := hP
  have hD : va_D A [(aP, .inr (3, [.null, .null])), (q_1, .inr (0, [.int 0, .int 0, .int 0, .int 0]))] := hD
  refine W.widen (k := 1) (n := 4) (by omega) (by omega) ?_
  refine lv_dup hx hb dX3_init_8 rfl ?_
  have hPc := hP.sub (ws' := [(q_1, .inr (0, [.int 0, .int 0, .int 0, .int 0]))]) [1] rfl
  have hDc := hD.sub (ws' := [(q_1, .inr (0, [.int 0, .int 0, .int 0, .int 0]))]) [1] (by decide) rfl
  have hKc := hK.sub (tys' := []) [] rfl
  have hFc := va_free (wc := [(q_1, .inr (0, [.int 0, .int 0, .int 0, .int 0]))]) hD hS hA [1] rfl
  refine va_callv (va_runIN (b := q_1) (As := []) (rest := [.ref q_1, .ref aP]) ⟨hx, hb, hml, hown, hts⟩ (c_X0_init l dC dI H.size q_1) ⟨va_cnB 0 hts gX3_init_X0_init_n11 rfl rfl rfl (hN _ (List.mem_of_getElem? (i := 3) rfl)) (hts (.initialized RX0) (by decide +kernel)) (by decide +kernel) ⟨Nat.le_of_ble_eq_true rfl, Nat.le_of_ble_eq_true rfl⟩, rfl, hts (.instanceMethod yX0_init) (by decide +kernel)⟩ ⟨q_blind, fun U hU hW => ⟨rfl, q_pay hU hW hPc hKc hDc hN⟩⟩ rfl rfl hl.1 rfl (lv_room (Nat.le_of_ble_eq_true rfl)) dX3_init_9 ⟨show 1 + 0 ≤ 4 from by omega, show 4 + 0 ≤ 24 from by omega⟩) hS (fun q _ h => hFc q h) hFc (fun u9 t H locs ht hvm hw_3 hB hz1 hk1 hS => ?_)
  obtain ⟨hP1, hK1, hD1⟩ := hB
  rw [ht] at hP1
  obtain ⟨hP, hD⟩ := va_join (wr := [(aP, .inr (3, [.null, .null]))]) (w1 := [(q_1, .inr (0, [.int 0, .int 0, .int 0, .int 0]))]) hP hD [1] [0] rfl rfl (by decide) (by decide) hk1 hFc hP1 hD1
  have hP : va_P (dC, dI) vwCl [(aP, .inr (3, [.null, .null])), (q_1, .inr (0, [.int 0, .int 0, .int 0, .int 0]))] H := hP
  have hD : va_D A [(aP, .inr (3, [.null, .null])), (q_1, .inr (0, [.int 0, .int 0, .int 0, .int 0]))] := hD
  refine W.widen (k := 1) (n := 4) (by omega) (by omega) ?_
  try dsimp only at hw_3
  refine va_putF (D := (dC, dI)) (ci := 3) (v := .ref q_1) (ty := .object "WordGuest$Flags") (C := RX3) (T := TX3) (N := 2) hx hb hts (by decide +kernel) tyX3 tyX3_ok nmX3 hown hK hP hD hS 0 rfl rfl 1 (by decide) (hts (.fieldLink RX3 12 "WordGuest$Processor" "conditions" "LWordGuest$Flags;") (by decide +kernel)) (fun _ h9 => h9) rfl hin rfl (by decide +kernel) rfl rfl (Nat.le_of_ble_eq_true rfl) dX3_init_12 (fun H locs hP hD hS => ?_)
  have hP : va_P (dC, dI) vwCl [(aP, .inr (3, [.null, .ref q_1])), (q_1, .inr (0, [.int 0, .int 0, .int 0, .int 0]))] H := hP
  have hD : va_D A [(aP, .inr (3, [.null, .ref q_1])), (q_1, .inr (0, [.int 0, .int 0, .int 0, .int 0]))] := hD
  refine lv_aload_n hx hb dX3_init_15 rfl (lv_at hl 0 rfl) ?_
  refine va_new (ci := 2) (fs := [.null, .null, .null, .int 0]) (C := RX2) (T := TX2) (N := 4) hx hb hts (by decide +kernel) tyX2 tyX2_ok hown (hts (.classLink RX3 18 RX2) (by decide +kernel)) (hts (.instantiable RX2 4) (by decide +kernel)) (hts (.initialized RX2) (by decide +kernel)) hK hP hD hS hA rfl (fun j hj => by rcases (show j = 0 ∨ j = 1 ∨ j = 2 ∨ j = 3 by omega) with rfl | rfl | rfl | rfl <;> rfl) (show 1 + 1 ≤ 4 from by omega) (show 4 + 4 ≤ 24 from by omega) dX3_init_16 (fun q_4 H hP hD hS => ?_)
  have hP : va_P (dC, dI) vwCl [(aP, .inr (3, [.null, .ref q_1])), (q_1, .inr (0, [.int 0, .int 0, .int 0, .int 0])), (q_4, .inr (2, [.null, .null, .null, .int 0]))] H := hP
  have hD : va_D A [(aP, .inr (3, [.null, .ref q_1])), (q_1, .inr (0, [.int 0, .int 0, .int 0, .int 0])), (q_4, .inr (2, [.null, .null, .null, .int 0]))] := hD
  refine W.widen (k := 2) (n := 8) (by omega) (by omega) ?_
  refine lv_dup hx hb dX3_init_19 rfl ?_
  refine lv_aload_n hx hb dX3_init_20 rfl (lv_at hl 1 rfl) ?_
  have hPc := hP.sub (ws' := [(q_4, .inr (2, [.null, .null, .null, .int 0]))]) [2] rfl
  have hDc := hD.sub (ws' := [(q_4, .inr (2, [.null, .null, .null, .int 0]))]) [2] (by decide) rfl
  have hKc := hK.sub (tys' := []) [] rfl
  have hFc := va_free (wc := [(q_4, .inr (2, [.null, .null, .null, .int 0]))]) hD hS hA [2] rfl
  refine va_callv (va_runI (b := q_4) (As := [.ref aM]) (rest := [.ref q_4, .ref aP]) ⟨hx, hb, hml, hown, hts⟩ (c_X2_init l dC dI H.size q_4 aM) (cwI 1 hts gX3_init_X2_init rfl rfl rfl (hts (.initialized RX2) (by decide +kernel)) (hts (.methodLink RX3 20 yX2_init) (by decide +kernel)) (hts (.instanceMethod yX2_init) (by decide +kernel)) rfl (by decide +kernel) ⟨Nat.le_of_ble_eq_true rfl, Nat.le_of_ble_eq_true rfl⟩) ⟨q_blind, fun U hU hW => ⟨rfl, q_pay hU hW hPc hKc hDc hN⟩⟩ rfl rfl hl.1 rfl (lv_room (Nat.le_of_ble_eq_true rfl)) dX3_init_21 ⟨show 2 + 2 ≤ 4 from by omega, show 8 + 16 ≤ 24 from by omega⟩) hS (fun q _ h => hFc q h) hFc (fun u9 t H locs ht hvm hw_6 hB hz1 hk1 hS => ?_)
  obtain ⟨aA_7, aB_8, cA_9, cB_10⟩ := u9
  obtain ⟨hP1, hK1, hD1⟩ := hB
  rw [ht] at hP1
  obtain ⟨hP, hD⟩ := va_join (wr := [(aP, .inr (3, [.null, .ref q_1])), (q_1, .inr (0, [.int 0, .int 0, .int 0, .int 0]))]) (w1 := [(q_4, .inr (2, [.ref aM, .ref aA_7, .ref aB_8, .int 0])), (aA_7, .inl (cA_9, 8, .inl (fun _ => 0))), (aB_8, .inl (cB_10, 8, .inl (fun _ => 0)))]) hP hD [2] [0, 1] rfl rfl (by decide) (by decide) hk1 hFc hP1 hD1
  have hP : va_P (dC, dI) vwCl [(aP, .inr (3, [.null, .ref q_1])), (q_1, .inr (0, [.int 0, .int 0, .int 0, .int 0])), (q_4, .inr (2, [.ref aM, .ref aA_7, .ref aB_8, .int 0])), (aA_7, .inl (cA_9, 8, .inl (fun _ => 0))), (aB_8, .inl (cB_10, 8, .inl (fun _ => 0)))] H := hP
  have hD : va_D A [(aP, .inr (3, [.null, .ref q_1])), (q_1, .inr (0, [.int 0, .int 0, .int 0, .int 0])), (q_4, .inr (2, [.ref aM, .ref aA_7, .ref aB_8, .int 0])), (aA_7, .inl (cA_9, 8, .inl (fun _ => 0))), (aB_8, .inl (cB_10, 8, .inl (fun _ => 0)))] := hD
  have hK := hK.app (va_K.moved hvm.symm hK1)
  have hK : va_K (dC, dI) vwCl [(cA_9, .int), (cB_10, .int)] s := hK
  refine W.widen (k := 4) (n := 24) (by omega) (by omega) ?_
  try dsimp only at hw_6
  refine va_putF (D := (dC, dI)) (ci := 3) (v := .ref q_4) (ty := .object "WordGuest$Parts") (C := RX3) (T := TX3) (N := 2) hx hb hts (by decide +kernel) tyX3 tyX3_ok nmX3 hown hK hP hD hS 0 rfl rfl 0 (by decide) (hts (.fieldLink RX3 23 "WordGuest$Processor" "parts" "LWordGuest$Parts;") (by decide +kernel)) (fun _ h9 => h9) rfl hin rfl (by decide +kernel) rfl rfl (Nat.le_of_ble_eq_true rfl) dX3_init_24 (fun H locs hP hD hS => ?_)
  have hP : va_P (dC, dI) vwCl [(aP, .inr (3, [.ref q_4, .ref q_1])), (q_1, .inr (0, [.int 0, .int 0, .int 0, .int 0])), (q_4, .inr (2, [.ref aM, .ref aA_7, .ref aB_8, .int 0])), (aA_7, .inl (cA_9, 8, .inl (fun _ => 0))), (aB_8, .inl (cB_10, 8, .inl (fun _ => 0)))] H := hP
  have hD : va_D A [(aP, .inr (3, [.ref q_4, .ref q_1])), (q_1, .inr (0, [.int 0, .int 0, .int 0, .int 0])), (q_4, .inr (2, [.ref aM, .ref aA_7, .ref aB_8, .int 0])), (aA_7, .inl (cA_9, 8, .inl (fun _ => 0))), (aB_8, .inl (cB_10, 8, .inl (fun _ => 0)))] := hD
  have hP9 := hP.sub (ws' := [(aP, .inr (3, [.ref q_4, .ref q_1])), (q_4, .inr (2, [.ref aM, .ref aA_7, .ref aB_8, .int 0])), (aA_7, .inl (cA_9, 8, .inl (fun _ => 0))), (aB_8, .inl (cB_10, 8, .inl (fun _ => 0))), (q_1, .inr (0, [.int 0, .int 0, .int 0, .int 0]))]) [0, 2, 3, 4, 1] rfl
  have hD9 := hD.sub (ws' := [(aP, .inr (3, [.ref q_4, .ref q_1])), (q_4, .inr (2, [.ref aM, .ref aA_7, .ref aB_8, .int 0])), (aA_7, .inl (cA_9, 8, .inl (fun _ => 0))), (aB_8, .inl (cB_10, 8, .inl (fun _ => 0))), (q_1, .inr (0, [.int 0, .int 0, .int 0, .int 0]))]) [0, 2, 3, 4, 1] (by decide) rfl
  have hK9 := hK.sub (tys' := [(cA_9, .int), (cB_10, .int)]) [0, 1] rfl
  exact W.vret hx hb hr (fun t ht hW => ⟨⟨(q_4, q_1, aA_7, aB_8, cA_9, cB_10), rfl, trivial, by rw [ht]; exact hP9, va_K.moved hW.alike hK9, hD9⟩, hS.F ht⟩) hS.2.2 dX3_init_27
set_option maxHeartbeats 4000000 in
set_option maxRecDepth 100000 in
theorem c_X3_step0 (l : Launch) (dC : Nat → ClassId) (dI : Nat → Nat → Nat) (sz : Nat) (aP : Nat) (aF : Nat) (aR : Nat) (aM : Nat) (aA : Nat) (aB : Nat) (cA : ClassId) (cB : ClassId) (aW : Nat) (aT : Nat) (cW : ClassId)  : Met l yX3_step wsX3_step ({ frames := 3, cells := 0, slots := 0, locals := 220 }) (va_Pc [.ref aP] (q_pre dC dI sz [(aP, .inr (3, [.ref aR, .ref aF])), (aR, .inr (2, [.ref aM, .ref aA, .ref aB, .int 0])), (aA, .inl (cA, 8, .inl (fun _ => 0))), (aB, .inl (cB, 8, .inl (fun _ => 0))), (aM, .inr (1, [.ref aW, .ref aT, .int 0])), (aW, .inl (cW, 2048, .inl (fun _ => 0))), (aF, .inr (0, [.int 0, .int 0, .int 0, .int 0]))] [(cA, .int), (cB, .int), (cW, .int)])) (va_Qi (fun (r : Int32) (u9 : (Nat → Int32) × (Nat → Int32)) => r = 1) (q_at dC dI (va_A [(aP, .inr (3, [.ref aR, .ref aF])), (aR, .inr (2, [.ref aM, .ref aA, .ref aB, .int 0])), (aA, .inl (cA, 8, .inl (fun _ => 0))), (aB, .inl (cB, 8, .inl (fun _ => 0))), (aM, .inr (1, [.ref aW, .ref aT, .int 0])), (aW, .inl (cW, 2048, .inl (fun _ => 0))), (aF, .inr (0, [.int 0, .int 0, .int 0, .int 0]))] sz) (fun (u9 : (Nat → Int32) × (Nat → Int32)) => [(cA, .int), (cB, .int), (cW, .int)]) (fun (u9 : (Nat → Int32) × (Nat → Int32)) => [(aP, .inr (3, [.ref aR, .ref aF])), (aR, .inr (2, [.ref aM, .ref aA, .ref aB, .int 0])), (aA, .inl (cA, 8, .inl u9.1)), (aB, .inl (cB, 8, .inl u9.2)), (aM, .inr (1, [.ref aW, .ref aT, .int 0])), (aW, .inl (cW, 2048, .inl (fun _ => 0))), (aF, .inr (0, [.int 0, .int 0, .int 0, .int 0]))])) (va_A [(aP, .inr (3, [.ref aR, .ref aF])), (aR, .inr (2, [.ref aM, .ref aA, .ref aB, .int 0])), (aA, .inl (cA, 8, .inl (fun _ => 0))), (aB, .inl (cB, 8, .inl (fun _ => 0))), (aM, .inr (1, [.ref aW, .ref aT, .int 0])), (aW, .inl (cW, 2048, .inl (fun _ => 0))), (aF, .inr (0, [.int 0, .int 0, .int 0, .int 0]))] sz)) 0 0 (va_A [(aP, .inr (3, [.ref aR, .ref aF])), (aR, .inr (2, [.ref aM, .ref aA, .ref aB, .int 0])), (aA, .inl (cA, 8, .inl (fun _ => 0))), (aB, .inl (cB, 8, .inl (fun _ => 0))), (aM, .inr (1, [.ref aW, .ref aT, .int 0])), (aW, .inl (cW, 2048, .inl (fun _ => 0))), (aF, .inr (0, [.int 0, .int 0, .int 0, .int 0]))] sz) := by
  refine Met.ofW (cc := cX3_step) (maxL := 4) (ret := (some .int)) (by decide) rfl ?_
  intro p e s m args below meth c s₁ B hml hv
  obtain ⟨rfl, hsz, hP, hK, hD0, hN⟩ := hv
  have hx := B.exec
  have hb := B.bytes
  have hr := B.returns
  have hts := atoms_spec (ws := wsX3_step) B.pre
  have hown : s.vm.findClass RX3 = some m.cls := findClass_of_methodNamed B.named
  have hlocks := B.notSynchronized
  subst hsz
  have hD := hD0.self (sz := s.heap.size)
  generalize hAe : va_A [(aP, .inr (3, [.ref aR, .ref aF])), (aR, .inr (2, [.ref aM, .ref aA, .ref aB, .int 0])), (aA, .inl (cA, 8, .inl (fun _ => 0))), (aB, .inl (cB, 8, .inl (fun _ => 0))), (aM, .inr (1, [.ref aW, .ref aT, .int 0])), (aW, .inl (cW, 2048, .inl (fun _ => 0))), (aF, .inr (0, [.int 0, .int 0, .int 0, .int 0]))] s.heap.size = A at hD ⊢
  have hA : ∀ q : Nat, s.heap.size ≤ q → A q := fun q h => by rw [← hAe]; exact Or.inr h
  have hS : va_S A s.heap s.heap [] := va_S.rf
  have hP : va_P (dC, dI) vwCl [(aP, .inr (3, [.ref aR, .ref aF])), (aR, .inr (2, [.ref aM, .ref aA, .ref aB, .int 0])), (aA, .inl (cA, 8, .inl (fun _ => 0))), (aB, .inl (cB, 8, .inl (fun _ => 0))), (aM, .inr (1, [.ref aW, .ref aT, .int 0])), (aW, .inl (cW, 2048, .inl (fun _ => 0))), (aF, .inr (0, [.int 0, .int 0, .int 0, .int 0]))] s.heap := hP
  have hl := lv_entry ([.ref aP]) (n := 4) (Nat.le_of_ble_eq_true rfl)
  rw [lg_entry_eq]
  generalize (lg_sl ([.ref aP]) ++ List.replicate (4 - (lg_sl ([.ref aP])).length) Slot.unset).toArray = ls at hl ⊢
  have hl : lv_has ls 4 [(0, .ref aP)] := hl
  refine lv_aload_n hx hb dX3_step_0 rfl (lv_at hl 0 rfl) ?_
  refine va_get (D := (dC, dI)) (ci := 3) (v := .ref aR) (C := RX3) (T := TX3) (N := 2) hx hb hts (by decide +kernel) hown hK hP 0 rfl rfl 0 (by decide) (hts (.fieldLink RX3 23 "WordGuest$Processor" "parts" "LWordGuest$Parts;") (by decide +kernel)) (fun _ h9 => h9) rfl dX3_step_1 ?_
  have hPc := hP.sub (ws' := [(aR, .inr (2, [.ref aM, .ref aA, .ref aB, .int 0])), (aA, .inl (cA, 8, .inl (fun _ => 0))), (aB, .inl (cB, 8, .inl (fun _ => 0)))]) [1, 2, 3] rfl
  have hDc := hD.sub (ws' := [(aR, .inr (2, [.ref aM, .ref aA, .ref aB, .int 0])), (aA, .inl (cA, 8, .inl (fun _ => 0))), (aB, .inl (cB, 8, .inl (fun _ => 0)))]) [1, 2, 3] (by decide) rfl
  have hKc := hK.sub (tys' := [(cA, .int), (cB, .int)]) [0, 1] rfl
  have hFc := va_free (wc := [(aR, .inr (2, [.ref aM, .ref aA, .ref aB, .int 0])), (aA, .inl (cA, 8, .inl (fun _ => 0))), (aB, .inl (cB, 8, .inl (fun _ => 0)))]) hD hS hA [1, 2, 3] rfl
  refine va_callv (va_runV (C := RX2) (b := aR) (As := []) (rest := []) ⟨hx, hb, hml, hown, hts⟩ (c_X2_begin l dC dI s.heap.size aR aM aA aB (0 : Int32) cA (fun _ => 0) cB (fun _ => 0)) (cwV 0 hts gX3_step_X2_begin rfl rfl rfl (by decide +kernel) ⟨Nat.le_of_ble_eq_true rfl, Nat.le_of_ble_eq_true rfl⟩) ⟨q_blind, va_recv hK hP (ci := 2) (q0 := 1) rfl rfl, fun U hU hW => ⟨rfl, q_pay hU hW hPc hKc hDc hN⟩⟩ rfl rfl hl.1 rfl (lv_room (Nat.le_of_ble_eq_true rfl)) dX3_step_4 ⟨show 0 + 0 ≤ 0 from by omega, show 0 + 0 ≤ 0 from by omega⟩) hS (fun q _ h => hFc q h) hFc (fun u9 t H locs ht hvm hw_2 hB hz1 hk1 hS => ?_)
  obtain ⟨regsB2_3, rfl⟩ : ∃ z, z = u9 := ⟨_, rfl⟩
  obtain ⟨hP1, hK1, hD1⟩ := hB
  rw [ht] at hP1
  obtain ⟨hP, hD⟩ := va_join (wr := [(aP, .inr (3, [.ref aR, .ref aF])), (aM, .inr (1, [.ref aW, .ref aT, .int 0])), (aW, .inl (cW, 2048, .inl (fun _ => 0))), (aF, .inr (0, [.int 0, .int 0, .int 0, .int 0]))]) (w1 := [(aR, .inr (2, [.ref aM, .ref aA, .ref aB, .int 0])), (aA, .inl (cA, 8, .inl (fun _ => 0))), (aB, .inl (cB, 8, .inl regsB2_3))]) hP hD [1, 2, 3] [0, 4, 5, 6] rfl rfl (by decide) (by decide) hk1 hFc hP1 hD1
  have hP : va_P (dC, dI) vwCl [(aP, .inr (3, [.ref aR, .ref aF])), (aM, .inr (1, [.ref aW, .ref aT, .int 0])), (aW, .inl (cW, 2048, .inl (fun _ => 0))), (aF, .inr (0, [.int 0, .int 0, .int 0, .int 0])), (aR, .inr (2, [.ref aM, .ref aA, .ref aB, .int 0])), (aA, .inl (cA, 8, .inl (fun _ => 0))), (aB, .inl (cB, 8, .inl regsB2_3))] H := hP
  have hD : va_D A [(aP, .inr (3, [.ref aR, .ref aF])), (aM, .inr (1, [.ref aW, .ref aT, .int 0])), (aW, .inl (cW, 2048, .inl (fun _ => 0))), (aF, .inr (0, [.int 0, .int 0, .int 0, .int 0])), (aR, .inr (2, [.ref aM, .ref aA, .ref aB, .int 0])), (aA, .inl (cA, 8, .inl (fun _ => 0))), (aB, .inl (cB, 8, .inl regsB2_3))] := hD
  refine W.widen (k := 0) (n := 0) (by omega) (by omega) ?_
  try dsimp only at hw_2
  refine lv_aload_n hx hb dX3_step_7 rfl (lv_at hl 0 rfl) ?_
  refine va_get (D := (dC, dI)) (ci := 3) (v := .ref aF) (C := RX3) (T := TX3) (N := 2) hx hb hts (by decide +kernel) hown hK hP 0 rfl rfl 1 (by decide) (hts (.fieldLink RX3 12 "WordGuest$Processor" "conditions" "LWordGuest$Flags;") (by decide +kernel)) (fun _ h9 => h9) rfl dX3_step_8 ?_
  have hPc := hP.sub (ws' := [(aF, .inr (0, [.int 0, .int 0, .int 0, .int 0]))]) [3] rfl
  have hDc := hD.sub (ws' := [(aF, .inr (0, [.int 0, .int 0, .int 0, .int 0]))]) [3] (by decide) rfl
  have hKc := hK.sub (tys' := []) [] rfl
  have hFc := va_free (wc := [(aF, .inr (0, [.int 0, .int 0, .int 0, .int 0]))]) hD hS hA [3] rfl
  refine va_calli (va_runV (C := RX0) (b := aF) (As := []) (rest := []) ⟨hx, hb, hml, hown, hts⟩ (c_X0_number l dC dI H.size aF) (cwV 0 hts gX3_step_X0_number rfl rfl rfl (by decide +kernel) ⟨Nat.le_of_ble_eq_true rfl, Nat.le_of_ble_eq_true rfl⟩) ⟨q_blind, va_recv hK hP (ci := 0) (q0 := 3) rfl rfl, fun U hU hW => ⟨rfl, q_pay hU hW hPc hKc hDc hN⟩⟩ rfl rfl hl.1 rfl (lv_room (Nat.le_of_ble_eq_true rfl)) dX3_step_11 ⟨show 0 + 0 ≤ 0 from by omega, show 0 + 0 ≤ 0 from by omega⟩) hS (fun q _ h => hFc q h) hFc (fun r_4 u9 t H locs ht hvm hw_5 hB hz1 hk1 hS => ?_)
  obtain ⟨hP1, hK1, hD1⟩ := hB
  rw [ht] at hP1
  obtain ⟨hP, hD⟩ := va_join (wr := [(aP, .inr (3, [.ref aR, .ref aF])), (aM, .inr (1, [.ref aW, .ref aT, .int 0])), (aW, .inl (cW, 2048, .inl (fun _ => 0))), (aR, .inr (2, [.ref aM, .ref aA, .ref aB, .int 0])), (aA, .inl (cA, 8, .inl (fun _ => 0))), (aB, .inl (cB, 8, .inl regsB2_3))]) (w1 := [(aF, .inr (0, [.int 0, .int 0, .int 0, .int 0]))]) hP hD [3] [0, 1, 2, 4, 5, 6] rfl rfl (by decide) (by decide) hk1 hFc hP1 hD1
  have hP : va_P (dC, dI) vwCl [(aP, .inr (3, [.ref aR, .ref aF])), (aM, .inr (1, [.ref aW, .ref aT, .int 0])), (aW, .inl (cW, 2048, .inl (fun _ => 0))), (aR, .inr (2, [.ref aM, .ref aA, .ref aB, .int 0])), (aA, .inl (cA, 8, .inl (fun _ => 0))), (aB, .inl (cB, 8, .inl regsB2_3)), (aF, .inr (0, [.int 0, .int 0, .int 0, .int 0]))] H := hP
  have hD : va_D A [(aP, .inr (3, [.ref aR, .ref aF])), (aM, .inr (1, [.ref aW, .ref aT, .int 0])), (aW, .inl (cW, 2048, .inl (fun _ => 0))), (aR, .inr (2, [.ref aM, .ref aA, .ref aB, .int 0])), (aA, .inl (cA, 8, .inl (fun _ => 0))), (aB, .inl (cB, 8, .inl regsB2_3)), (aF, .inr (0, [.int 0, .int 0, .int 0, .int 0]))] := hD
  refine W.widen (k := 0) (n := 0) (by omega) (by omega) ?_
  try dsimp only at hw_5
  obtain rfl := hw_5
  refine q_toc (y := 0) (by first | rfl | decide) ?_
  refine lv_istore_n (lv' := [(1, .int 0), (0, .ref aP)]) hx hb dX3_step_14 rfl hl (by decide) rfl (fun ls hl => ?_)
  refine lv_aload_n hx hb dX3_step_15 rfl (lv_at hl 1 rfl) ?_
  refine va_get (D := (dC, dI)) (ci := 3) (v := .ref aR) (C := RX3) (T := TX3) (N := 2) hx hb hts (by decide +kernel) hown hK hP 0 rfl rfl 0 (by decide) (hts (.fieldLink RX3 23 "WordGuest$Processor" "parts" "LWordGuest$Parts;") (by decide +kernel)) (fun _ h9 => h9) rfl dX3_step_16 ?_
  have hPc := hP.sub (ws' := [(aR, .inr (2, [.ref aM, .ref aA, .ref aB, .int 0])), (aA, .inl (cA, 8, .inl (fun _ => 0))), (aM, .inr (1, [.ref aW, .ref aT, .int 0])), (aW, .inl (cW, 2048, .inl (fun _ => 0)))]) [3, 4, 1, 2] rfl
  have hDc := hD.sub (ws' := [(aR, .inr (2, [.ref aM, .ref aA, .ref aB, .int 0])), (aA, .inl (cA, 8, .inl (fun _ => 0))), (aM, .inr (1, [.ref aW, .ref aT, .int 0])), (aW, .inl (cW, 2048, .inl (fun _ => 0)))]) [3, 4, 1, 2] (by decide) rfl
  have hKc := hK.sub (tys' := [(cA, .int), (cW, .int)]) [0, 2] rfl
  have hFc := va_free (wc := [(aR, .inr (2, [.ref aM, .ref aA, .ref aB, .int 0])), (aA, .inl (cA, 8, .inl (fun _ => 0))), (aM, .inr (1, [.ref aW, .ref aT, .int 0])), (aW, .inl (cW, 2048, .inl (fun _ => 0)))]) hD hS hA [3, 4, 1, 2] rfl
  refine va_calli (va_runV (C := RX2) (b := aR) (As := []) (rest := []) ⟨hx, hb, hml, hown, hts⟩ (c_X2_takeNext l dC dI H.size aR aM aA aB cA aW aT cW) (cwV 0 hts gX3_step_X2_takeNext rfl rfl rfl (by decide +kernel) ⟨Nat.le_of_ble_eq_true rfl, Nat.le_of_ble_eq_true rfl⟩) ⟨q_blind, va_recv hK hP (ci := 2) (q0 := 3) rfl rfl, fun U hU hW => ⟨rfl, q_pay hU hW hPc hKc hDc hN⟩⟩ rfl rfl hl.1 rfl (lv_room (Nat.le_of_ble_eq_true rfl)) dX3_step_19 ⟨show 0 + 0 ≤ 0 from by omega, show 0 + 0 ≤ 0 from by omega⟩) hS (fun q _ h => hFc q h) hFc (fun r_6 u9 t H locs ht hvm hw_7 hB hz1 hk1 hS => ?_)
  obtain ⟨regs2_8, rfl⟩ : ∃ z, z = u9 := ⟨_, rfl⟩
  obtain ⟨hP1, hK1, hD1⟩ := hB
  rw [ht] at hP1
  obtain ⟨hP, hD⟩ := va_join (wr := [(aP, .inr (3, [.ref aR, .ref aF])), (aB, .inl (cB, 8, .inl regsB2_3)), (aF, .inr (0, [.int 0, .int 0, .int 0, .int 0]))]) (w1 := [(aR, .inr (2, [.ref aM, .ref aA, .ref aB, .int 0])), (aA, .inl (cA, 8, .inl regs2_8)), (aM, .inr (1, [.ref aW, .ref aT, .int 0])), (aW, .inl (cW, 2048, .inl (fun _ => 0)))]) hP hD [3, 4, 1, 2] [0, 5, 6] rfl rfl (by decide) (by decide) hk1 hFc hP1 hD1
  have hP : va_P (dC, dI) vwCl [(aP, .inr (3, [.ref aR, .ref aF])), (aB, .inl (cB, 8, .inl regsB2_3)), (aF, .inr (0, [.int 0, .int 0, .int 0, .int 0])), (aR, .inr (2, [.ref aM, .ref aA, .ref aB, .int 0])), (aA, .inl (cA, 8, .inl regs2_8)), (aM, .inr (1, [.ref aW, .ref aT, .int 0])), (aW, .inl (cW, 2048, .inl (fun _ => 0)))] H := hP
  have hD : va_D A [(aP, .inr (3, [.ref aR, .ref aF])), (aB, .inl (cB, 8, .inl regsB2_3)), (aF, .inr (0, [.int 0, .int 0, .int 0, .int 0])), (aR, .inr (2, [.ref aM, .ref aA, .ref aB, .int 0])), (aA, .inl (cA, 8, .inl regs2_8)), (aM, .inr (1, [.ref aW, .ref aT, .int 0])), (aW, .inl (cW, 2048, .inl (fun _ => 0)))] := hD
  refine W.widen (k := 0) (n := 0) (by omega) (by omega) ?_
  try dsimp only at hw_7
  obtain rfl := hw_7
  refine q_toc (y := 0) (by first | rfl | decide) ?_
  refine lv_istore_n (lv' := [(2, .int 0), (1, .int 0), (0, .ref aP)]) hx hb dX3_step_22 rfl hl (by decide) rfl (fun ls hl => ?_)
  refine lv_aload_n hx hb dX3_step_23 rfl (lv_at hl 2 rfl) ?_
  refine va_get (D := (dC, dI)) (ci := 3) (v := .ref aR) (C := RX3) (T := TX3) (N := 2) hx hb hts (by decide +kernel) hown hK hP 0 rfl rfl 0 (by decide) (hts (.fieldLink RX3 23 "WordGuest$Processor" "parts" "LWordGuest$Parts;") (by decide +kernel)) (fun _ h9 => h9) rfl dX3_step_24 ?_
  refine va_getN (D := (dC, dI)) (ci := 2) (v := .int 0) (C := RX2) (T := TX2) (N := 4) hx hb hts (by decide +kernel) hown hK hP 3 rfl rfl 3 (by decide) ((va_Nw.use rfl (hN _ (List.mem_of_getElem? (i := 10) rfl)))) (fun _ h9 => h9) rfl dX3_step_27 ?_
  refine lv_if_ne (tgt := 93) hx hb dX3_step_30 (by decide) (fun c9 => absurd (by decide) c9) (fun c_9 => ?_)
  refine lv_iload_n hx hb dX3_step_33 rfl (lv_at hl 0 rfl) ?_
  refine lv_if_ne (tgt := 39) hx hb dX3_step_34 (by decide) (fun c9 => absurd (by decide) c9) (fun c_10 => ?_)
  refine lv_iconst (v := 1) hx hb dX3_step_37 (by decide) ?_
  have hP9 := hP.sub (ws' := [(aP, .inr (3, [.ref aR, .ref aF])), (aR, .inr (2, [.ref aM, .ref aA, .ref aB, .int 0])), (aA, .inl (cA, 8, .inl regs2_8)), (aB, .inl (cB, 8, .inl regsB2_3)), (aM, .inr (1, [.ref aW, .ref aT, .int 0])), (aW, .inl (cW, 2048, .inl (fun _ => 0))), (aF, .inr (0, [.int 0, .int 0, .int 0, .int 0]))]) [0, 3, 4, 1, 5, 6, 2] rfl
  have hD9 := hD.sub (ws' := [(aP, .inr (3, [.ref aR, .ref aF])), (aR, .inr (2, [.ref aM, .ref aA, .ref aB, .int 0])), (aA, .inl (cA, 8, .inl regs2_8)), (aB, .inl (cB, 8, .inl regsB2_3)), (aM, .inr (1, [.ref aW, .ref aT, .int 0])), (aW, .inl (cW, 2048, .inl (fun _ => 0))), (aF, .inr (0, [.int 0, .int 0, .int 0, .int 0]))]) [0, 3, 4, 1, 5, 6, 2] (by decide) rfl
  have hK9 := hK.sub (tys' := [(cA, .int), (cB, .int), (cW, .int)]) [0, 1, 2] rfl
  exact W.iret (v := 1) hx hb hr (fun t ht hW => ⟨⟨1, (regs2_8, regsB2_3), rfl, rfl, by rw [ht]; exact hP9, va_K.moved hW.alike hK9, hD9⟩, hS.F ht⟩) hS.2.2 dX3_step_38
