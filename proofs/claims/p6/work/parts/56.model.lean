set_option maxHeartbeats 4000000 in
set_option maxRecDepth 100000 in
theorem s_X5_product (l : Launch) (dC : Nat → ClassId) (dI : Nat → Nat → Nat) (sz : Nat) (m0 : Nat) (rr : Int32) (wd : Int32) (x_thrown : Int32) (mB : Nat) (mR : Nat) (x_flags : Int32) (mO : Nat) (x_outCount : Int32) (x_steps : Int32) (mN : Nat) (x_nowFlags : Int32) (x_writePlace : Int32) (x_writeSize : Int32) (x_writeValue : Int32) (x_fault : Int32) (x_halt : Int32) (x_isByte : Int32) (x_atRegister : Int32) (x_atPlace : Int32) (cY : ClassId) (bf : Nat → Int32) (cN : ClassId) (nf : Nat → Int32) (hF : okF x_fault) (hN9 : okN x_fault nf) (hWR : WR x_writeSize x_writePlace) (hB : okB bf) (hr9 : vp_in rr 8) : Met l yX5_product wsX5_product ({ frames := 4, cells := 0, slots := 0, locals := 89 }) (va_Pc [.ref m0, .int rr, .int wd] (q_pre dC dI sz [(m0, .inr (5, [.int x_thrown, .ref mB, .ref mR, .int x_flags, .ref mO, .int x_outCount, .int x_steps, .ref mN, .int x_nowFlags, .int x_writePlace, .int x_writeSize, .int x_writeValue, .int x_fault, .int x_halt, .int x_isByte, .int x_atRegister, .int x_atPlace])), (mB, .inl (cY, 4096, .inl bf)), (mN, .inl (cN, 8, .inl nf))] [(cY, .int), (cN, .int)])) (va_Qv (fun (u9 : Int32 × Int32 × Int32 × Int32 × Int32 × Int32 × Int32 × (Nat → Int32)) => (okF u9.2.2.2.2.1) ∧ (okN u9.2.2.2.2.1 u9.2.2.2.2.2.2.2) ∧ (WR u9.2.2.1 u9.2.1)) (q_at dC dI (va_A [(m0, .inr (5, [.int x_thrown, .ref mB, .ref mR, .int x_flags, .ref mO, .int x_outCount, .int x_steps, .ref mN, .int x_nowFlags, .int x_writePlace, .int x_writeSize, .int x_writeValue, .int x_fault, .int x_halt, .int x_isByte, .int x_atRegister, .int x_atPlace])), (mB, .inl (cY, 4096, .inl bf)), (mN, .inl (cN, 8, .inl nf))] sz) (fun (u9 : Int32 × Int32 × Int32 × Int32 × Int32 × Int32 × Int32 × (Nat → Int32)) => [(cY, .int), (cN, .int)]) (fun (u9 : Int32 × Int32 × Int32 × Int32 × Int32 × Int32 × Int32 × (Nat → Int32)) => [(m0, .inr (5, [.int x_thrown, .ref mB, .ref mR, .int x_flags, .ref mO, .int x_outCount, .int x_steps, .ref mN, .int u9.1, .int u9.2.1, .int u9.2.2.1, .int u9.2.2.2.1, .int u9.2.2.2.2.1, .int x_halt, .int x_isByte, .int u9.2.2.2.2.2.1, .int u9.2.2.2.2.2.2.1])), (mB, .inl (cY, 4096, .inl bf)), (mN, .inl (cN, 8, .inl u9.2.2.2.2.2.2.2))])) (va_A [(m0, .inr (5, [.int x_thrown, .ref mB, .ref mR, .int x_flags, .ref mO, .int x_outCount, .int x_steps, .ref mN, .int x_nowFlags, .int x_writePlace, .int x_writeSize, .int x_writeValue, .int x_fault, .int x_halt, .int x_isByte, .int x_atRegister, .int x_atPlace])), (mB, .inl (cY, 4096, .inl bf)), (mN, .inl (cN, 8, .inl nf))] sz)) 0 0 (va_A [(m0, .inr (5, [.int x_thrown, .ref mB, .ref mR, .int x_flags, .ref mO, .int x_outCount, .int x_steps, .ref mN, .int x_nowFlags, .int x_writePlace, .int x_writeSize, .int x_writeValue, .int x_fault, .int x_halt, .int x_isByte, .int x_atRegister, .int x_atPlace])), (mB, .inl (cY, 4096, .inl bf)), (mN, .inl (cN, 8, .inl nf))] sz) := by
  refine Met.ofW (cc := cX5_product) (maxL := 5) (ret := none) (by decide) rfl ?_
  intro p e s m args below meth c s₁ B hml hv
  obtain ⟨rfl, hsz, hP, hK, hD0, hN⟩ := hv
  have hx := B.exec
  have hb := B.bytes
  have hr := B.returns
  have hts := atoms_spec (ws := wsX5_product) B.pre
  have hown : s.vm.findClass RX5 = some m.cls := findClass_of_methodNamed B.named
  have hlocks := B.notSynchronized
  subst hsz
  have hD := hD0.self (sz := s.heap.size)
  generalize hAe : va_A [(m0, .inr (5, [.int x_thrown, .ref mB, .ref mR, .int x_flags, .ref mO, .int x_outCount, .int x_steps, .ref mN, .int x_nowFlags, .int x_writePlace, .int x_writeSize, .int x_writeValue, .int x_fault, .int x_halt, .int x_isByte, .int x_atRegister, .int x_atPlace])), (mB, .inl (cY, 4096, .inl bf)), (mN, .inl (cN, 8, .inl nf))] s.heap.size = A at hD ⊢
  have hA : ∀ q : Nat, s.heap.size ≤ q → A q := fun q h => by rw [← hAe]; exact Or.inr h
  have hS : va_S A s.heap s.heap [] := va_S.rf
  have hP : va_P (dC, dI) vwCl [(m0, .inr (5, [.int x_thrown, .ref mB, .ref mR, .int x_flags, .ref mO, .int x_outCount, .int x_steps, .ref mN, .int x_nowFlags, .int x_writePlace, .int x_writeSize, .int x_writeValue, .int x_fault, .int x_halt, .int x_isByte, .int x_atRegister, .int x_atPlace])), (mB, .inl (cY, 4096, .inl bf)), (mN, .inl (cN, 8, .inl nf))] s.heap := hP
  have hl := lv_entry ([.ref m0, .int rr, .int wd]) (n := 5) (Nat.le_of_ble_eq_true rfl)
  rw [lg_entry_eq]
  generalize (lg_sl ([.ref m0, .int rr, .int wd]) ++ List.replicate (5 - (lg_sl ([.ref m0, .int rr, .int wd])).length) Slot.unset).toArray = ls at hl ⊢
  have hl : lv_has ls 5 [(0, .ref m0), (1, .int rr), (2, .int wd)] := hl
  refine lv_aload_n hx hb dX5_product_0 rfl (lv_at hl 0 rfl) ?_
  refine lv_iload_n hx hb dX5_product_1 rfl (lv_at hl 2 rfl) ?_
  refine lv_bipush (v := 63) hx hb dX5_product_2 (by decide) ?_
  refine lv_iand hx hb dX5_product_4 ?_
  have hPc := hP.sub (ws' := [(m0, .inr (5, [.int x_thrown, .ref mB, .ref mR, .int x_flags, .ref mO, .int x_outCount, .int x_steps, .ref mN, .int x_nowFlags, .int x_writePlace, .int x_writeSize, .int x_writeValue, .int x_fault, .int x_halt, .int x_isByte, .int x_atRegister, .int x_atPlace])), (mB, .inl (cY, 4096, .inl bf)), (mN, .inl (cN, 8, .inl nf))]) [0, 1, 2] rfl
  have hDc := hD.sub (ws' := [(m0, .inr (5, [.int x_thrown, .ref mB, .ref mR, .int x_flags, .ref mO, .int x_outCount, .int x_steps, .ref mN, .int x_nowFlags, .int x_writePlace, .int x_writeSize, .int x_writeValue, .int x_fault, .int x_halt, .int x_isByte, .int x_atRegister, .int x_atPlace])), (mB, .inl (cY, 4096, .inl bf)), (mN, .inl (cN, 8, .inl nf))]) [0, 1, 2] (by decide) rfl
  have hKc := hK.sub (tys' := [(cY, .int), (cN, .int)]) [0, 1] rfl
  have hFc := va_free (wc := [(m0, .inr (5, [.int x_thrown, .ref mB, .ref mR, .int x_flags, .ref mO, .int x_outCount, .int x_steps, .ref mN, .int x_nowFlags, .int x_writePlace, .int x_writeSize, .int x_writeValue, .int x_fault, .int x_halt, .int x_isByte, .int x_atRegister, .int x_atPlace])), (mB, .inl (cY, 4096, .inl bf)), (mN, .inl (cN, 8, .inl nf))]) hD hS hA [0, 1, 2] rfl
  refine va_callv (va_runV (C := RX5) (b := m0) (As := [.int (wd &&& 63)]) (rest := []) ⟨hx, hb, hml, hown, hts⟩ (s_X5_find l dC dI s.heap.size m0 (wd &&& 63) x_thrown mB mR x_flags mO x_outCount x_steps mN x_nowFlags x_writePlace x_writeSize x_writeValue x_fault x_halt x_isByte x_atRegister x_atPlace cY bf cN nf hF hN9 hB) (cwV 1 hts gX5_product_X5_find rfl rfl rfl (by decide +kernel) ⟨Nat.le_of_ble_eq_true rfl, Nat.le_of_ble_eq_true rfl⟩) ⟨q_blind, va_recv hK hP (ci := 5) (q0 := 0) rfl rfl, fun U hU hW => ⟨rfl, q_pay hU hW hPc hKc hDc hN⟩⟩ rfl rfl hl.1 rfl (lv_room (Nat.le_of_ble_eq_true rfl)) dX5_product_5 ⟨show 0 + 0 ≤ 0 from by omega, show 0 + 0 ≤ 0 from by omega⟩) hS (fun q _ h => hFc q h) hFc (fun u9 t H locs ht hvm hw_2 hB hz1 hk1 hS => ?_)
  obtain ⟨y_fault_3, y_atRegister_4, y_atPlace_5, nf2_6⟩ := u9
  obtain ⟨hP1, hK1, hD1⟩ := hB
  rw [ht] at hP1
  obtain ⟨hP, hD⟩ := va_join (wr := []) (w1 := [(m0, .inr (5, [.int x_thrown, .ref mB, .ref mR, .int x_flags, .ref mO, .int x_outCount, .int x_steps, .ref mN, .int x_nowFlags, .int x_writePlace, .int x_writeSize, .int x_writeValue, .int y_fault_3, .int x_halt, .int x_isByte, .int y_atRegister_4, .int y_atPlace_5])), (mB, .inl (cY, 4096, .inl bf)), (mN, .inl (cN, 8, .inl nf2_6))]) hP hD [0, 1, 2] [] rfl rfl (by decide) (by decide) hk1 hFc hP1 hD1
  have hP : va_P (dC, dI) vwCl [(m0, .inr (5, [.int x_thrown, .ref mB, .ref mR, .int x_flags, .ref mO, .int x_outCount, .int x_steps, .ref mN, .int x_nowFlags, .int x_writePlace, .int x_writeSize, .int x_writeValue, .int y_fault_3, .int x_halt, .int x_isByte, .int y_atRegister_4, .int y_atPlace_5])), (mB, .inl (cY, 4096, .inl bf)), (mN, .inl (cN, 8, .inl nf2_6))] H := hP
  have hD : va_D A [(m0, .inr (5, [.int x_thrown, .ref mB, .ref mR, .int x_flags, .ref mO, .int x_outCount, .int x_steps, .ref mN, .int x_nowFlags, .int x_writePlace, .int x_writeSize, .int x_writeValue, .int y_fault_3, .int x_halt, .int x_isByte, .int y_atRegister_4, .int y_atPlace_5])), (mB, .inl (cY, 4096, .inl bf)), (mN, .inl (cN, 8, .inl nf2_6))] := hD
  refine W.widen (k := 0) (n := 0) (by omega) (by omega) ?_
  try dsimp only at hw_2
  refine lv_aload_n hx hb dX5_product_8 rfl (lv_at hl 0 rfl) ?_
  have hPc := hP.sub (ws' := [(m0, .inr (5, [.int x_thrown, .ref mB, .ref mR, .int x_flags, .ref mO, .int x_outCount, .int x_steps, .ref mN, .int x_nowFlags, .int x_writePlace, .int x_writeSize, .int x_writeValue, .int y_fault_3, .int x_halt, .int x_isByte, .int y_atRegister_4, .int y_atPlace_5])), (mB, .inl (cY, 4096, .inl bf)), (mN, .inl (cN, 8, .inl nf2_6))]) [0, 1, 2] rfl
  have hDc := hD.sub (ws' := [(m0, .inr (5, [.int x_thrown, .ref mB, .ref mR, .int x_flags, .ref mO, .int x_outCount, .int x_steps, .ref mN, .int x_nowFlags, .int x_writePlace, .int x_writeSize, .int x_writeValue, .int y_fault_3, .int x_halt, .int x_isByte, .int y_atRegister_4, .int y_atPlace_5])), (mB, .inl (cY, 4096, .inl bf)), (mN, .inl (cN, 8, .inl nf2_6))]) [0, 1, 2] (by decide) rfl
  have hKc := hK.sub (tys' := [(cY, .int), (cN, .int)]) [0, 1] rfl
  have hFc := va_free (wc := [(m0, .inr (5, [.int x_thrown, .ref mB, .ref mR, .int x_flags, .ref mO, .int x_outCount, .int x_steps, .ref mN, .int x_nowFlags, .int x_writePlace, .int x_writeSize, .int x_writeValue, .int y_fault_3, .int x_halt, .int x_isByte, .int y_atRegister_4, .int y_atPlace_5])), (mB, .inl (cY, 4096, .inl bf)), (mN, .inl (cN, 8, .inl nf2_6))]) hD hS hA [0, 1, 2] rfl
  refine va_calli (va_runV (C := RX5) (b := m0) (As := []) (rest := []) ⟨hx, hb, hml, hown, hts⟩ (s_X5_get l dC dI H.size m0 x_thrown mB mR x_flags mO x_outCount x_steps mN x_nowFlags x_writePlace x_writeSize x_writeValue y_fault_3 x_halt x_isByte y_atRegister_4 y_atPlace_5 cY bf cN nf2_6 hw_2.1 hw_2.2.1 hw_2.2.2.1 hB) (cwV 0 hts gX5_product_X5_get rfl rfl rfl (by decide +kernel) ⟨Nat.le_of_ble_eq_true rfl, Nat.le_of_ble_eq_true rfl⟩) ⟨q_blind, va_recv hK hP (ci := 5) (q0 := 0) rfl rfl, fun U hU hW => ⟨rfl, q_pay hU hW hPc hKc hDc hN⟩⟩ rfl rfl hl.1 rfl (lv_room (Nat.le_of_ble_eq_true rfl)) dX5_product_9 ⟨show 0 + 0 ≤ 0 from by omega, show 0 + 0 ≤ 0 from by omega⟩) hS (fun q _ h => hFc q h) hFc (fun r_7 u9 t H locs ht hvm hw_8 hB hz1 hk1 hS => ?_)
  obtain ⟨y_fault_9, rfl⟩ : ∃ z, z = u9 := ⟨_, rfl⟩
  obtain ⟨hP1, hK1, hD1⟩ := hB
  rw [ht] at hP1
  obtain ⟨hP, hD⟩ := va_join (wr := []) (w1 := [(m0, .inr (5, [.int x_thrown, .ref mB, .ref mR, .int x_flags, .ref mO, .int x_outCount, .int x_steps, .ref mN, .int x_nowFlags, .int x_writePlace, .int x_writeSize, .int x_writeValue, .int y_fault_9, .int x_halt, .int x_isByte, .int y_atRegister_4, .int y_atPlace_5])), (mB, .inl (cY, 4096, .inl bf)), (mN, .inl (cN, 8, .inl nf2_6))]) hP hD [0, 1, 2] [] rfl rfl (by decide) (by decide) hk1 hFc hP1 hD1
  have hP : va_P (dC, dI) vwCl [(m0, .inr (5, [.int x_thrown, .ref mB, .ref mR, .int x_flags, .ref mO, .int x_outCount, .int x_steps, .ref mN, .int x_nowFlags, .int x_writePlace, .int x_writeSize, .int x_writeValue, .int y_fault_9, .int x_halt, .int x_isByte, .int y_atRegister_4, .int y_atPlace_5])), (mB, .inl (cY, 4096, .inl bf)), (mN, .inl (cN, 8, .inl nf2_6))] H := hP
  have hD : va_D A [(m0, .inr (5, [.int x_thrown, .ref mB, .ref mR, .int x_flags, .ref mO, .int x_outCount, .int x_steps, .ref mN, .int x_nowFlags, .int x_writePlace, .int x_writeSize, .int x_writeValue, .int y_fault_9, .int x_halt, .int x_isByte, .int y_atRegister_4, .int y_atPlace_5])), (mB, .inl (cY, 4096, .inl bf)), (mN, .inl (cN, 8, .inl nf2_6))] := hD
  refine W.widen (k := 0) (n := 0) (by omega) (by omega) ?_
  try dsimp only at hw_8
  have hPc := hP.sub (ws' := []) [] rfl
  have hDc := hD.sub (ws' := []) [] (by decide) rfl
  have hKc := hK.sub (tys' := []) [] rfl
  have hFc := va_free (wc := []) hD hS hA [] rfl
  refine va_calli (va_runS (As := [.int r_7]) (rest := []) ⟨hx, hb, hml, hown, hts⟩ (s_X5_signed l dC dI H.size r_7) (va_cwS 1 hts gX5_product_X5_signed rfl rfl rfl (by decide +kernel) ⟨Nat.le_of_ble_eq_true rfl, Nat.le_of_ble_eq_true rfl⟩) ⟨q_blind, fun U hU hW => ⟨rfl, q_pay hU hW hPc hKc hDc hN⟩⟩ rfl rfl hl.1 rfl (lv_room (Nat.le_of_ble_eq_true rfl)) dX5_product_12 ⟨show 0 + 0 ≤ 0 from by omega, show 0 + 0 ≤ 0 from by omega⟩) hS (fun q _ h => hFc q h) hFc (fun r_10 u9 t H locs ht hvm hw_11 hB hz1 hk1 hS => ?_)
  obtain ⟨hP1, hK1, hD1⟩ := hB
  rw [ht] at hP1
  obtain ⟨hP, hD⟩ := va_join (wr := [(m0, .inr (5, [.int x_thrown, .ref mB, .ref mR, .int x_flags, .ref mO, .int x_outCount, .int x_steps, .ref mN, .int x_nowFlags, .int x_writePlace, .int x_writeSize, .int x_writeValue, .int y_fault_9, .int x_halt, .int x_isByte, .int y_atRegister_4, .int y_atPlace_5])), (mB, .inl (cY, 4096, .inl bf)), (mN, .inl (cN, 8, .inl nf2_6))]) (w1 := []) hP hD [] [0, 1, 2] rfl rfl (by decide) (by decide) hk1 hFc hP1 hD1
  have hP : va_P (dC, dI) vwCl [(m0, .inr (5, [.int x_thrown, .ref mB, .ref mR, .int x_flags, .ref mO, .int x_outCount, .int x_steps, .ref mN, .int x_nowFlags, .int x_writePlace, .int x_writeSize, .int x_writeValue, .int y_fault_9, .int x_halt, .int x_isByte, .int y_atRegister_4, .int y_atPlace_5])), (mB, .inl (cY, 4096, .inl bf)), (mN, .inl (cN, 8, .inl nf2_6))] H := hP
  have hD : va_D A [(m0, .inr (5, [.int x_thrown, .ref mB, .ref mR, .int x_flags, .ref mO, .int x_outCount, .int x_steps, .ref mN, .int x_nowFlags, .int x_writePlace, .int x_writeSize, .int x_writeValue, .int y_fault_9, .int x_halt, .int x_isByte, .int y_atRegister_4, .int y_atPlace_5])), (mB, .inl (cY, 4096, .inl bf)), (mN, .inl (cN, 8, .inl nf2_6))] := hD
  refine W.widen (k := 0) (n := 0) (by omega) (by omega) ?_
  try dsimp only at hw_11
  refine lv_istore_n (lv' := [(3, .int r_10), (0, .ref m0), (1, .int rr), (2, .int wd)]) hx hb dX5_product_15 rfl hl (by decide) rfl (fun ls hl => ?_)
  refine lv_aload_n hx hb dX5_product_16 rfl (lv_at hl 1 rfl) ?_
  refine va_get (D := (dC, dI)) (ci := 5) (v := .ref mN) (C := RX5) (T := TX5) (N := 17) hx hb hts (by decide +kernel) hown hK hP 0 rfl rfl 7 (by decide) (hts (.fieldLink RX5 19 "WordGuestModel" "now" "[I") (by decide +kernel)) (fun _ h9 => h9) rfl dX5_product_17 ?_
  refine lv_iload_n hx hb dX5_product_20 rfl (lv_at hl 2 rfl) ?_
  refine va_iald hx hb hK hP 2 1 rfl rfl hr9 dX5_product_21 ?_
  have hPc := hP.sub (ws' := []) [] rfl
  have hDc := hD.sub (ws' := []) [] (by decide) rfl
  have hKc := hK.sub (tys' := []) [] rfl
  have hFc := va_free (wc := []) hD hS hA [] rfl
  refine va_calli (va_runS (As := [.int (nf2_6 rr.toNatClampNeg)]) (rest := []) ⟨hx, hb, hml, hown, hts⟩ (s_X5_signed l dC dI H.size (nf2_6 rr.toNatClampNeg)) (va_cwS 1 hts gX5_product_X5_signed rfl rfl rfl (by decide +kernel) ⟨Nat.le_of_ble_eq_true rfl, Nat.le_of_ble_eq_true rfl⟩) ⟨q_blind, fun U hU hW => ⟨rfl, q_pay hU hW hPc hKc hDc hN⟩⟩ rfl rfl hl.1 rfl (lv_room (Nat.le_of_ble_eq_true rfl)) dX5_product_22 ⟨show 0 + 0 ≤ 0 from by omega, show 0 + 0 ≤ 0 from by omega⟩) hS (fun q _ h => hFc q h) hFc (fun r_12 u9 t H locs ht hvm hw_13 hB hz1 hk1 hS => ?_)
  obtain ⟨hP1, hK1, hD1⟩ := hB
  rw [ht] at hP1
  obtain ⟨hP, hD⟩ := va_join (wr := [(m0, .inr (5, [.int x_thrown, .ref mB, .ref mR, .int x_flags, .ref mO, .int x_outCount, .int x_steps, .ref mN, .int x_nowFlags, .int x_writePlace, .int x_writeSize, .int x_writeValue, .int y_fault_9, .int x_halt, .int x_isByte, .int y_atRegister_4, .int y_atPlace_5])), (mB, .inl (cY, 4096, .inl bf)), (mN, .inl (cN, 8, .inl nf2_6))]) (w1 := []) hP hD [] [0, 1, 2] rfl rfl (by decide) (by decide) hk1 hFc hP1 hD1
  have hP : va_P (dC, dI) vwCl [(m0, .inr (5, [.int x_thrown, .ref mB, .ref mR, .int x_flags, .ref mO, .int x_outCount, .int x_steps, .ref mN, .int x_nowFlags, .int x_writePlace, .int x_writeSize, .int x_writeValue, .int y_fault_9, .int x_halt, .int x_isByte, .int y_atRegister_4, .int y_atPlace_5])), (mB, .inl (cY, 4096, .inl bf)), (mN, .inl (cN, 8, .inl nf2_6))] H := hP
  have hD : va_D A [(m0, .inr (5, [.int x_thrown, .ref mB, .ref mR, .int x_flags, .ref mO, .int x_outCount, .int x_steps, .ref mN, .int x_nowFlags, .int x_writePlace, .int x_writeSize, .int x_writeValue, .int y_fault_9, .int x_halt, .int x_isByte, .int y_atRegister_4, .int y_atPlace_5])), (mB, .inl (cY, 4096, .inl bf)), (mN, .inl (cN, 8, .inl nf2_6))] := hD
  refine W.widen (k := 0) (n := 0) (by omega) (by omega) ?_
  try dsimp only at hw_13
  refine lv_iload_n hx hb dX5_product_25 rfl (lv_at hl 0 rfl) ?_
  refine lv_imul hx hb dX5_product_26 ?_
  refine lv_istore (lv' := [(4, .int (r_12 * r_10)), (3, .int r_10), (0, .ref m0), (1, .int rr), (2, .int wd)]) hx hb dX5_product_27 hl (by decide) rfl (fun ls hl => ?_)
  refine lv_aload_n hx hb dX5_product_29 rfl (lv_at hl 2 rfl) ?_
  refine va_get (D := (dC, dI)) (ci := 5) (v := .ref mN) (C := RX5) (T := TX5) (N := 17) hx hb hts (by decide +kernel) hown hK hP 0 rfl rfl 7 (by decide) (hts (.fieldLink RX5 19 "WordGuestModel" "now" "[I") (by decide +kernel)) (fun _ h9 => h9) rfl dX5_product_30 ?_
  refine lv_iload_n hx hb dX5_product_33 rfl (lv_at hl 3 rfl) ?_
  refine lv_iload_n hx hb dX5_product_34 rfl (lv_at hl 3 rfl) ?_
  refine lv_iconst (v := 2) hx hb dX5_product_35 (by decide) ?_
  refine lv_irem hx hb dX5_product_36 (by decide) ?_
  refine lv_if_ne (tgt := 51) hx hb dX5_product_37 (by decide) (fun c_14 => ?_) (fun c_14 => ?_)
  · refine lv_iload hx hb dX5_product_51 (lv_at hl 0 rfl) ?_
    refine lv_ldc (v := 65535) hx hb hown (hts (.constant RX5 30 (65535)) (by decide +kernel)) dX5_product_53 ?_
    refine lv_iand hx hb dX5_product_55 ?_
    refine va_iast hx hb hK hP hD hS 2 1 rfl rfl hr9 dX5_product_56 (fun H locs hP hD hS => ?_)
    have hP : va_P (dC, dI) vwCl [(m0, .inr (5, [.int x_thrown, .ref mB, .ref mR, .int x_flags, .ref mO, .int x_outCount, .int x_steps, .ref mN, .int x_nowFlags, .int x_writePlace, .int x_writeSize, .int x_writeValue, .int y_fault_9, .int x_halt, .int x_isByte, .int y_atRegister_4, .int y_atPlace_5])), (mB, .inl (cY, 4096, .inl bf)), (mN, .inl (cN, 8, .inl (upd nf2_6 rr.toNatClampNeg ((r_12 * r_10) &&& 65535))))] H := hP
    have hD : va_D A [(m0, .inr (5, [.int x_thrown, .ref mB, .ref mR, .int x_flags, .ref mO, .int x_outCount, .int x_steps, .ref mN, .int x_nowFlags, .int x_writePlace, .int x_writeSize, .int x_writeValue, .int y_fault_9, .int x_halt, .int x_isByte, .int y_atRegister_4, .int y_atPlace_5])), (mB, .inl (cY, 4096, .inl bf)), (mN, .inl (cN, 8, .inl (upd nf2_6 rr.toNatClampNeg ((r_12 * r_10) &&& 65535))))] := hD
    have hN_15 : okN y_fault_9 (upd nf2_6 rr.toNatClampNeg ((r_12 * r_10) &&& 65535)) := okN_upd (okN_mono hw_2.2.1 hw_8.2.1) (isW_and _) _
    generalize (upd nf2_6 rr.toNatClampNeg ((r_12 * r_10) &&& 65535)) = g_16 at hP hD hN_15
    refine lv_iload_n hx hb dX5_product_57 rfl (lv_at hl 3 rfl) ?_
    refine lv_iconst (v := 2) hx hb dX5_product_58 (by decide) ?_
    refine lv_irem hx hb dX5_product_59 (by decide) ?_
    refine lv_if_ne (tgt := 76) hx hb dX5_product_60 (by decide) (fun c_17 => ?_) (fun c9 => absurd c9 c_14)
    refine lv_aload_n hx hb dX5_product_76 rfl (lv_at hl 2 rfl) ?_
    refine lv_iload hx hb dX5_product_77 (lv_at hl 0 rfl) ?_
    refine q_bool (ls := ls) 87 [.ref m0] (fun b_19 hb_20 => ?_) (fun jn => ?_)
    · refine lv_iload hx hb dX5_product_87 (lv_at hl 0 rfl) ?_
      refine q_bool (ls := ls) 97 [.int b_19, .ref m0] (fun b_22 hb_23 => ?_) (fun jn => ?_)
      · refine lv_iconst (v := 0) hx hb dX5_product_97 (by decide) ?_
        refine lv_iload hx hb dX5_product_98 (lv_at hl 0 rfl) ?_
        refine lv_sipush (v := (-32768)) hx hb dX5_product_100 (by decide) ?_
        refine lv_icmp_lt (tgt := 114) hx hb dX5_product_103 (by decide) (fun c_24 => ?_) (fun c_24 => ?_)
        · refine lv_iconst (v := 1) hx hb dX5_product_114 (by decide) ?_
          refine lv_goto (tgt := 119) hx hb dX5_product_115 (by decide) ?_
          have hPc := hP.sub (ws' := [(m0, .inr (5, [.int x_thrown, .ref mB, .ref mR, .int x_flags, .ref mO, .int x_outCount, .int x_steps, .ref mN, .int x_nowFlags, .int x_writePlace, .int x_writeSize, .int x_writeValue, .int y_fault_9, .int x_halt, .int x_isByte, .int y_atRegister_4, .int y_atPlace_5]))]) [0] rfl
          have hDc := hD.sub (ws' := [(m0, .inr (5, [.int x_thrown, .ref mB, .ref mR, .int x_flags, .ref mO, .int x_outCount, .int x_steps, .ref mN, .int x_nowFlags, .int x_writePlace, .int x_writeSize, .int x_writeValue, .int y_fault_9, .int x_halt, .int x_isByte, .int y_atRegister_4, .int y_atPlace_5]))]) [0] (by decide) rfl
          have hKc := hK.sub (tys' := []) [] rfl
          have hFc := va_free (wc := [(m0, .inr (5, [.int x_thrown, .ref mB, .ref mR, .int x_flags, .ref mO, .int x_outCount, .int x_steps, .ref mN, .int x_nowFlags, .int x_writePlace, .int x_writeSize, .int x_writeValue, .int y_fault_9, .int x_halt, .int x_isByte, .int y_atRegister_4, .int y_atPlace_5]))]) hD hS hA [0] rfl
          refine va_callv (va_runV (C := RX5) (b := m0) (As := [.int b_19, .int b_22, .int 0, .int 1]) (rest := []) ⟨hx, hb, hml, hown, hts⟩ (s_X5_set l dC dI H.size m0 b_19 b_22 (0 : Int32) (1 : Int32) x_thrown mB mR x_flags mO x_outCount x_steps mN x_nowFlags x_writePlace x_writeSize x_writeValue y_fault_9 x_halt x_isByte y_atRegister_4 y_atPlace_5) (cwV 4 hts gX5_product_X5_set rfl rfl rfl (by decide +kernel) ⟨Nat.le_of_ble_eq_true rfl, Nat.le_of_ble_eq_true rfl⟩) ⟨q_blind, va_recv hK hP (ci := 5) (q0 := 0) rfl rfl, fun U hU hW => ⟨rfl, q_pay hU hW hPc hKc hDc hN⟩⟩ rfl rfl hl.1 rfl (lv_room (Nat.le_of_ble_eq_true rfl)) dX5_product_119 ⟨show 0 + 0 ≤ 0 from by omega, show 0 + 0 ≤ 0 from by omega⟩) hS (fun q _ h => hFc q h) hFc (fun u9 t H locs ht hvm hw_26 hB hz1 hk1 hS => ?_)
          obtain ⟨y_nowFlags_27, rfl⟩ : ∃ z, z = u9 := ⟨_, rfl⟩
          obtain ⟨hP1, hK1, hD1⟩ := hB
          rw [ht] at hP1
          obtain ⟨hP, hD⟩ := va_join (wr := [(mB, .inl (cY, 4096, .inl bf)), (mN, .inl (cN, 8, .inl g_16))]) (w1 := [(m0, .inr (5, [.int x_thrown, .ref mB, .ref mR, .int x_flags, .ref mO, .int x_outCount, .int x_steps, .ref mN, .int y_nowFlags_27, .int x_writePlace, .int x_writeSize, .int x_writeValue, .int y_fault_9, .int x_halt, .int x_isByte, .int y_atRegister_4, .int y_atPlace_5]))]) hP hD [0] [1, 2] rfl rfl (by decide) (by decide) hk1 hFc hP1 hD1
          have hP : va_P (dC, dI) vwCl [(mB, .inl (cY, 4096, .inl bf)), (mN, .inl (cN, 8, .inl g_16)), (m0, .inr (5, [.int x_thrown, .ref mB, .ref mR, .int x_flags, .ref mO, .int x_outCount, .int x_steps, .ref mN, .int y_nowFlags_27, .int x_writePlace, .int x_writeSize, .int x_writeValue, .int y_fault_9, .int x_halt, .int x_isByte, .int y_atRegister_4, .int y_atPlace_5]))] H := hP
          have hD : va_D A [(mB, .inl (cY, 4096, .inl bf)), (mN, .inl (cN, 8, .inl g_16)), (m0, .inr (5, [.int x_thrown, .ref mB, .ref mR, .int x_flags, .ref mO, .int x_outCount, .int x_steps, .ref mN, .int y_nowFlags_27, .int x_writePlace, .int x_writeSize, .int x_writeValue, .int y_fault_9, .int x_halt, .int x_isByte, .int y_atRegister_4, .int y_atPlace_5]))] := hD
          refine W.widen (k := 0) (n := 0) (by omega) (by omega) ?_
          try dsimp only at hw_26
          have hP9 := hP.sub (ws' := [(m0, .inr (5, [.int x_thrown, .ref mB, .ref mR, .int x_flags, .ref mO, .int x_outCount, .int x_steps, .ref mN, .int y_nowFlags_27, .int x_writePlace, .int x_writeSize, .int x_writeValue, .int y_fault_9, .int x_halt, .int x_isByte, .int y_atRegister_4, .int y_atPlace_5])), (mB, .inl (cY, 4096, .inl bf)), (mN, .inl (cN, 8, .inl g_16))]) [2, 0, 1] rfl
          have hD9 := hD.sub (ws' := [(m0, .inr (5, [.int x_thrown, .ref mB, .ref mR, .int x_flags, .ref mO, .int x_outCount, .int x_steps, .ref mN, .int y_nowFlags_27, .int x_writePlace, .int x_writeSize, .int x_writeValue, .int y_fault_9, .int x_halt, .int x_isByte, .int y_atRegister_4, .int y_atPlace_5])), (mB, .inl (cY, 4096, .inl bf)), (mN, .inl (cN, 8, .inl g_16))]) [2, 0, 1] (by decide) rfl
          have hK9 := hK.sub (tys' := [(cY, .int), (cN, .int)]) [0, 1] rfl
          exact W.vret hx hb hr (fun t ht hW => ⟨⟨(y_nowFlags_27, x_writePlace, x_writeSize, x_writeValue, y_fault_9, y_atRegister_4, y_atPlace_5, g_16), rfl, ⟨hw_8.1, hN_15, hWR⟩, by rw [ht]; exact hP9, va_K.moved hW.alike hK9, hD9⟩, hS.F ht⟩) hS.2.2 dX5_product_122
        · refine lv_iload hx hb dX5_product_106 (lv_at hl 0 rfl) ?_
          refine lv_sipush (v := 32767) hx hb dX5_product_108 (by decide) ?_
          refine q_bool (ls := ls) 119 [.int 0, .int b_22, .int b_19, .ref m0] (fun b_29 hb_30 => ?_) (fun jn => ?_)
          · have hPc := hP.sub (ws' := [(m0, .inr (5, [.int x_thrown, .ref mB, .ref mR, .int x_flags, .ref mO, .int x_outCount, .int x_steps, .ref mN, .int x_nowFlags, .int x_writePlace, .int x_writeSize, .int x_writeValue, .int y_fault_9, .int x_halt, .int x_isByte, .int y_atRegister_4, .int y_atPlace_5]))]) [0] rfl
            have hDc := hD.sub (ws' := [(m0, .inr (5, [.int x_thrown, .ref mB, .ref mR, .int x_flags, .ref mO, .int x_outCount, .int x_steps, .ref mN, .int x_nowFlags, .int x_writePlace, .int x_writeSize, .int x_writeValue, .int y_fault_9, .int x_halt, .int x_isByte, .int y_atRegister_4, .int y_atPlace_5]))]) [0] (by decide) rfl
            have hKc := hK.sub (tys' := []) [] rfl
            have hFc := va_free (wc := [(m0, .inr (5, [.int x_thrown, .ref mB, .ref mR, .int x_flags, .ref mO, .int x_outCount, .int x_steps, .ref mN, .int x_nowFlags, .int x_writePlace, .int x_writeSize, .int x_writeValue, .int y_fault_9, .int x_halt, .int x_isByte, .int y_atRegister_4, .int y_atPlace_5]))]) hD hS hA [0] rfl
            refine va_callv (va_runV (C := RX5) (b := m0) (As := [.int b_19, .int b_22, .int 0, .int b_29]) (rest := []) ⟨hx, hb, hml, hown, hts⟩ (s_X5_set l dC dI H.size m0 b_19 b_22 (0 : Int32) b_29 x_thrown mB mR x_flags mO x_outCount x_steps mN x_nowFlags x_writePlace x_writeSize x_writeValue y_fault_9 x_halt x_isByte y_atRegister_4 y_atPlace_5) (cwV 4 hts gX5_product_X5_set rfl rfl rfl (by decide +kernel) ⟨Nat.le_of_ble_eq_true rfl, Nat.le_of_ble_eq_true rfl⟩) ⟨q_blind, va_recv hK hP (ci := 5) (q0 := 0) rfl rfl, fun U hU hW => ⟨rfl, q_pay hU hW hPc hKc hDc hN⟩⟩ rfl rfl hl.1 rfl (lv_room (Nat.le_of_ble_eq_true rfl)) dX5_product_119 ⟨show 0 + 0 ≤ 0 from by omega, show 0 + 0 ≤ 0 from by omega⟩) hS (fun q _ h => hFc q h) hFc (fun u9 t H locs ht hvm hw_32 hB hz1 hk1 hS => ?_)
            obtain ⟨y_nowFlags_33, rfl⟩ : ∃ z, z = u9 := ⟨_, rfl⟩
            obtain ⟨hP1, hK1, hD1⟩ := hB
            rw [ht] at hP1
            obtain ⟨hP, hD⟩ := va_join (wr := [(mB, .inl (cY, 4096, .inl bf)), (mN, .inl (cN, 8, .inl g_16))]) (w1 := [(m0, .inr (5, [.int x_thrown, .ref mB, .ref mR, .int x_flags, .ref mO, .int x_outCount, .int x_steps, .ref mN, .int y_nowFlags_33, .int x_writePlace, .int x_writeSize, .int x_writeValue, .int y_fault_9, .int x_halt, .int x_isByte, .int y_atRegister_4, .int y_atPlace_5]))]) hP hD [0] [1, 2] rfl rfl (by decide) (by decide) hk1 hFc hP1 hD1
            have hP : va_P (dC, dI) vwCl [(mB, .inl (cY, 4096, .inl bf)), (mN, .inl (cN, 8, .inl g_16)), (m0, .inr (5, [.int x_thrown, .ref mB, .ref mR, .int x_flags, .ref mO, .int x_outCount, .int x_steps, .ref mN, .int y_nowFlags_33, .int x_writePlace, .int x_writeSize, .int x_writeValue, .int y_fault_9, .int x_halt, .int x_isByte, .int y_atRegister_4, .int y_atPlace_5]))] H := hP
            have hD : va_D A [(mB, .inl (cY, 4096, .inl bf)), (mN, .inl (cN, 8, .inl g_16)), (m0, .inr (5, [.int x_thrown, .ref mB, .ref mR, .int x_flags, .ref mO, .int x_outCount, .int x_steps, .ref mN, .int y_nowFlags_33, .int x_writePlace, .int x_writeSize, .int x_writeValue, .int y_fault_9, .int x_halt, .int x_isByte, .int y_atRegister_4, .int y_atPlace_5]))] := hD
            refine W.widen (k := 0) (n := 0) (by omega) (by omega) ?_
            try dsimp only at hw_32
            have hP9 := hP.sub (ws' := [(m0, .inr (5, [.int x_thrown, .ref mB, .ref mR, .int x_flags, .ref mO, .int x_outCount, .int x_steps, .ref mN, .int y_nowFlags_33, .int x_writePlace, .int x_writeSize, .int x_writeValue, .int y_fault_9, .int x_halt, .int x_isByte, .int y_atRegister_4, .int y_atPlace_5])), (mB, .inl (cY, 4096, .inl bf)), (mN, .inl (cN, 8, .inl g_16))]) [2, 0, 1] rfl
            have hD9 := hD.sub (ws' := [(m0, .inr (5, [.int x_thrown, .ref mB, .ref mR, .int x_flags, .ref mO, .int x_outCount, .int x_steps, .ref mN, .int y_nowFlags_33, .int x_writePlace, .int x_writeSize, .int x_writeValue, .int y_fault_9, .int x_halt, .int x_isByte, .int y_atRegister_4, .int y_atPlace_5])), (mB, .inl (cY, 4096, .inl bf)), (mN, .inl (cN, 8, .inl g_16))]) [2, 0, 1] (by decide) rfl
            have hK9 := hK.sub (tys' := [(cY, .int), (cN, .int)]) [0, 1] rfl
            exact W.vret hx hb hr (fun t ht hW => ⟨⟨(y_nowFlags_33, x_writePlace, x_writeSize, x_writeValue, y_fault_9, y_atRegister_4, y_atPlace_5, g_16), rfl, ⟨hw_8.1, hN_15, hWR⟩, by rw [ht]; exact hP9, va_K.moved hW.alike hK9, hD9⟩, hS.F ht⟩) hS.2.2 dX5_product_122
          refine lv_icmp_le (tgt := 118) hx hb dX5_product_111 (by decide) (fun c_28 => ?_) (fun c_28 => ?_)
          · refine lv_iconst (v := 0) hx hb dX5_product_118 (by decide) ?_
            exact jn _ (Or.inl rfl)
          · refine lv_iconst (v := 1) hx hb dX5_product_114 (by decide) ?_
            refine lv_goto (tgt := 119) hx hb dX5_product_115 (by decide) ?_
            exact jn _ (Or.inr rfl)
      refine lv_if_ne (tgt := 96) hx hb dX5_product_89 (by decide) (fun c_21 => ?_) (fun c_21 => ?_)
      · refine lv_iconst (v := 0) hx hb dX5_product_96 (by decide) ?_
        exact jn _ (Or.inl rfl)
      · refine lv_iconst (v := 1) hx hb dX5_product_92 (by decide) ?_
        refine lv_goto (tgt := 97) hx hb dX5_product_93 (by decide) ?_
        exact jn _ (Or.inr rfl)
    refine lv_if_ge (tgt := 86) hx hb dX5_product_79 (by decide) (fun c_18 => ?_) (fun c_18 => ?_)
    · refine lv_iconst (v := 0) hx hb dX5_product_86 (by decide) ?_
      exact jn _ (Or.inl rfl)
    · refine lv_iconst (v := 1) hx hb dX5_product_82 (by decide) ?_
      refine lv_goto (tgt := 87) hx hb dX5_product_83 (by decide) ?_
      exact jn _ (Or.inr rfl)
  · refine lv_iload hx hb dX5_product_40 (lv_at hl 0 rfl) ?_
    refine lv_bipush (v := 16) hx hb dX5_product_42 (by decide) ?_
    refine lv_ishr hx hb dX5_product_44 ?_
    refine lv_ldc (v := 65535) hx hb hown (hts (.constant RX5 30 (65535)) (by decide +kernel)) dX5_product_45 ?_
    refine lv_iand hx hb dX5_product_47 ?_
    refine lv_goto (tgt := 56) hx hb dX5_product_48 (by decide) ?_
    refine va_iast hx hb hK hP hD hS 2 1 rfl rfl hr9 dX5_product_56 (fun H locs hP hD hS => ?_)
    have hP : va_P (dC, dI) vwCl [(m0, .inr (5, [.int x_thrown, .ref mB, .ref mR, .int x_flags, .ref mO, .int x_outCount, .int x_steps, .ref mN, .int x_nowFlags, .int x_writePlace, .int x_writeSize, .int x_writeValue, .int y_fault_9, .int x_halt, .int x_isByte, .int y_atRegister_4, .int y_atPlace_5])), (mB, .inl (cY, 4096, .inl bf)), (mN, .inl (cN, 8, .inl (upd nf2_6 rr.toNatClampNeg (((r_12 * r_10) >>> (16 &&& 31)) &&& 65535))))] H := hP
    have hD : va_D A [(m0, .inr (5, [.int x_thrown, .ref mB, .ref mR, .int x_flags, .ref mO, .int x_outCount, .int x_steps, .ref mN, .int x_nowFlags, .int x_writePlace, .int x_writeSize, .int x_writeValue, .int y_fault_9, .int x_halt, .int x_isByte, .int y_atRegister_4, .int y_atPlace_5])), (mB, .inl (cY, 4096, .inl bf)), (mN, .inl (cN, 8, .inl (upd nf2_6 rr.toNatClampNeg (((r_12 * r_10) >>> (16 &&& 31)) &&& 65535))))] := hD
    have hN_34 : okN y_fault_9 (upd nf2_6 rr.toNatClampNeg (((r_12 * r_10) >>> (16 &&& 31)) &&& 65535)) := okN_upd (okN_mono hw_2.2.1 hw_8.2.1) (isW_and _) _
    generalize (upd nf2_6 rr.toNatClampNeg (((r_12 * r_10) >>> (16 &&& 31)) &&& 65535)) = g_35 at hP hD hN_34
    refine lv_iload_n hx hb dX5_product_57 rfl (lv_at hl 3 rfl) ?_
    refine lv_iconst (v := 2) hx hb dX5_product_58 (by decide) ?_
    refine lv_irem hx hb dX5_product_59 (by decide) ?_
    refine lv_if_ne (tgt := 76) hx hb dX5_product_60 (by decide) (fun c9 => absurd (by first | exact c_14 | (rw [c_14]; decide) | rw [c_14]) c9) (fun c_36 => ?_)
    refine lv_aload_n hx hb dX5_product_63 rfl (lv_at hl 2 rfl) ?_
    refine va_get (D := (dC, dI)) (ci := 5) (v := .ref mN) (C := RX5) (T := TX5) (N := 17) hx hb hts (by decide +kernel) hown hK hP 0 rfl rfl 7 (by decide) (hts (.fieldLink RX5 19 "WordGuestModel" "now" "[I") (by decide +kernel)) (fun _ h9 => h9) rfl dX5_product_64 ?_
    refine lv_iload_n hx hb dX5_product_67 rfl (lv_at hl 3 rfl) ?_
    refine lv_iconst (v := 1) hx hb dX5_product_68 (by decide) ?_
    refine lv_iadd hx hb dX5_product_69 ?_
    refine lv_iload hx hb dX5_product_70 (lv_at hl 0 rfl) ?_
    refine lv_ldc (v := 65535) hx hb hown (hts (.constant RX5 30 (65535)) (by decide +kernel)) dX5_product_72 ?_
    refine lv_iand hx hb dX5_product_74 ?_
    refine va_iast hx hb hK hP hD hS 2 1 rfl rfl (in_e0 hr9 c_14) dX5_product_75 (fun H locs hP hD hS => ?_)
    have hP : va_P (dC, dI) vwCl [(m0, .inr (5, [.int x_thrown, .ref mB, .ref mR, .int x_flags, .ref mO, .int x_outCount, .int x_steps, .ref mN, .int x_nowFlags, .int x_writePlace, .int x_writeSize, .int x_writeValue, .int y_fault_9, .int x_halt, .int x_isByte, .int y_atRegister_4, .int y_atPlace_5])), (mB, .inl (cY, 4096, .inl bf)), (mN, .inl (cN, 8, .inl (upd g_35 (rr + 1).toNatClampNeg ((r_12 * r_10) &&& 65535))))] H := hP
    have hD : va_D A [(m0, .inr (5, [.int x_thrown, .ref mB, .ref mR, .int x_flags, .ref mO, .int x_outCount, .int x_steps, .ref mN, .int x_nowFlags, .int x_writePlace, .int x_writeSize, .int x_writeValue, .int y_fault_9, .int x_halt, .int x_isByte, .int y_atRegister_4, .int y_atPlace_5])), (mB, .inl (cY, 4096, .inl bf)), (mN, .inl (cN, 8, .inl (upd g_35 (rr + 1).toNatClampNeg ((r_12 * r_10) &&& 65535))))] := hD
    have hN_37 : okN y_fault_9 (upd g_35 (rr + 1).toNatClampNeg ((r_12 * r_10) &&& 65535)) := okN_upd hN_34 (isW_and _) _
    generalize (upd g_35 (rr + 1).toNatClampNeg ((r_12 * r_10) &&& 65535)) = g_38 at hP hD hN_37
    refine lv_aload_n hx hb dX5_product_76 rfl (lv_at hl 2 rfl) ?_
    refine lv_iload hx hb dX5_product_77 (lv_at hl 0 rfl) ?_
    refine q_bool (ls := ls) 87 [.ref m0] (fun b_40 hb_41 => ?_) (fun jn => ?_)
    · refine lv_iload hx hb dX5_product_87 (lv_at hl 0 rfl) ?_
      refine q_bool (ls := ls) 97 [.int b_40, .ref m0] (fun b_43 hb_44 => ?_) (fun jn => ?_)
      · refine lv_iconst (v := 0) hx hb dX5_product_97 (by decide) ?_
        refine lv_iload hx hb dX5_product_98 (lv_at hl 0 rfl) ?_
        refine lv_sipush (v := (-32768)) hx hb dX5_product_100 (by decide) ?_
        refine lv_icmp_lt (tgt := 114) hx hb dX5_product_103 (by decide) (fun c_45 => ?_) (fun c_45 => ?_)
        · refine lv_iconst (v := 1) hx hb dX5_product_114 (by decide) ?_
          refine lv_goto (tgt := 119) hx hb dX5_product_115 (by decide) ?_
          have hPc := hP.sub (ws' := [(m0, .inr (5, [.int x_thrown, .ref mB, .ref mR, .int x_flags, .ref mO, .int x_outCount, .int x_steps, .ref mN, .int x_nowFlags, .int x_writePlace, .int x_writeSize, .int x_writeValue, .int y_fault_9, .int x_halt, .int x_isByte, .int y_atRegister_4, .int y_atPlace_5]))]) [0] rfl
          have hDc := hD.sub (ws' := [(m0, .inr (5, [.int x_thrown, .ref mB, .ref mR, .int x_flags, .ref mO, .int x_outCount, .int x_steps, .ref mN, .int x_nowFlags, .int x_writePlace, .int x_writeSize, .int x_writeValue, .int y_fault_9, .int x_halt, .int x_isByte, .int y_atRegister_4, .int y_atPlace_5]))]) [0] (by decide) rfl
          have hKc := hK.sub (tys' := []) [] rfl
          have hFc := va_free (wc := [(m0, .inr (5, [.int x_thrown, .ref mB, .ref mR, .int x_flags, .ref mO, .int x_outCount, .int x_steps, .ref mN, .int x_nowFlags, .int x_writePlace, .int x_writeSize, .int x_writeValue, .int y_fault_9, .int x_halt, .int x_isByte, .int y_atRegister_4, .int y_atPlace_5]))]) hD hS hA [0] rfl
          refine va_callv (va_runV (C := RX5) (b := m0) (As := [.int b_40, .int b_43, .int 0, .int 1]) (rest := []) ⟨hx, hb, hml, hown, hts⟩ (s_X5_set l dC dI H.size m0 b_40 b_43 (0 : Int32) (1 : Int32) x_thrown mB mR x_flags mO x_outCount x_steps mN x_nowFlags x_writePlace x_writeSize x_writeValue y_fault_9 x_halt x_isByte y_atRegister_4 y_atPlace_5) (cwV 4 hts gX5_product_X5_set rfl rfl rfl (by decide +kernel) ⟨Nat.le_of_ble_eq_true rfl, Nat.le_of_ble_eq_true rfl⟩) ⟨q_blind, va_recv hK hP (ci := 5) (q0 := 0) rfl rfl, fun U hU hW => ⟨rfl, q_pay hU hW hPc hKc hDc hN⟩⟩ rfl rfl hl.1 rfl (lv_room (Nat.le_of_ble_eq_true rfl)) dX5_product_119 ⟨show 0 + 0 ≤ 0 from by omega, show 0 + 0 ≤ 0 from by omega⟩) hS (fun q _ h => hFc q h) hFc (fun u9 t H locs ht hvm hw_47 hB hz1 hk1 hS => ?_)
          obtain ⟨y_nowFlags_48, rfl⟩ : ∃ z, z = u9 := ⟨_, rfl⟩
          obtain ⟨hP1, hK1, hD1⟩ := hB
          rw [ht] at hP1
          obtain ⟨hP, hD⟩ := va_join (wr := [(mB, .inl (cY, 4096, .inl bf)), (mN, .inl (cN, 8, .inl g_38))]) (w1 := [(m0, .inr (5, [.int x_thrown, .ref mB, .ref mR, .int x_flags, .ref mO, .int x_outCount, .int x_steps, .ref mN, .int y_nowFlags_48, .int x_writePlace, .int x_writeSize, .int x_writeValue, .int y_fault_9, .int x_halt, .int x_isByte, .int y_atRegister_4, .int y_atPlace_5]))]) hP hD [0] [1, 2] rfl rfl (by decide) (by decide) hk1 hFc hP1 hD1
          have hP : va_P (dC, dI) vwCl [(mB, .inl (cY, 4096, .inl bf)), (mN, .inl (cN, 8, .inl g_38)), (m0, .inr (5, [.int x_thrown, .ref mB, .ref mR, .int x_flags, .ref mO, .int x_outCount, .int x_steps, .ref mN, .int y_nowFlags_48, .int x_writePlace, .int x_writeSize, .int x_writeValue, .int y_fault_9, .int x_halt, .int x_isByte, .int y_atRegister_4, .int y_atPlace_5]))] H := hP
          have hD : va_D A [(mB, .inl (cY, 4096, .inl bf)), (mN, .inl (cN, 8, .inl g_38)), (m0, .inr (5, [.int x_thrown, .ref mB, .ref mR, .int x_flags, .ref mO, .int x_outCount, .int x_steps, .ref mN, .int y_nowFlags_48, .int x_writePlace, .int x_writeSize, .int x_writeValue, .int y_fault_9, .int x_halt, .int x_isByte, .int y_atRegister_4, .int y_atPlace_5]))] := hD
          refine W.widen (k := 0) (n := 0) (by omega) (by omega) ?_
          try dsimp only at hw_47
          have hP9 := hP.sub (ws' := [(m0, .inr (5, [.int x_thrown, .ref mB, .ref mR, .int x_flags, .ref mO, .int x_outCount, .int x_steps, .ref mN, .int y_nowFlags_48, .int x_writePlace, .int x_writeSize, .int x_writeValue, .int y_fault_9, .int x_halt, .int x_isByte, .int y_atRegister_4, .int y_atPlace_5])), (mB, .inl (cY, 4096, .inl bf)), (mN, .inl (cN, 8, .inl g_38))]) [2, 0, 1] rfl
          have hD9 := hD.sub (ws' := [(m0, .inr (5, [.int x_thrown, .ref mB, .ref mR, .int x_flags, .ref mO, .int x_outCount, .int x_steps, .ref mN, .int y_nowFlags_48, .int x_writePlace, .int x_writeSize, .int x_writeValue, .int y_fault_9, .int x_halt, .int x_isByte, .int y_atRegister_4, .int y_atPlace_5])), (mB, .inl (cY, 4096, .inl bf)), (mN, .inl (cN, 8, .inl g_38))]) [2, 0, 1] (by decide) rfl
          have hK9 := hK.sub (tys' := [(cY, .int), (cN, .int)]) [0, 1] rfl
          exact W.vret hx hb hr (fun t ht hW => ⟨⟨(y_nowFlags_48, x_writePlace, x_writeSize, x_writeValue, y_fault_9, y_atRegister_4, y_atPlace_5, g_38), rfl, ⟨hw_8.1, hN_37, hWR⟩, by rw [ht]; exact hP9, va_K.moved hW.alike hK9, hD9⟩, hS.F ht⟩) hS.2.2 dX5_product_122
        · refine lv_iload hx hb dX5_product_106 (lv_at hl 0 rfl) ?_
          refine lv_sipush (v := 32767) hx hb dX5_product_108 (by decide) ?_
          refine q_bool (ls := ls) 119 [.int 0, .int b_43, .int b_40, .ref m0] (fun b_50 hb_51 => ?_) (fun jn => ?_)
          · have hPc := hP.sub (ws' := [(m0, .inr (5, [.int x_thrown, .ref mB, .ref mR, .int x_flags, .ref mO, .int x_outCount, .int x_steps, .ref mN, .int x_nowFlags, .int x_writePlace, .int x_writeSize, .int x_writeValue, .int y_fault_9, .int x_halt, .int x_isByte, .int y_atRegister_4, .int y_atPlace_5]))]) [0] rfl
            have hDc := hD.sub (ws' := [(m0, .inr (5, [.int x_thrown, .ref mB, .ref mR, .int x_flags, .ref mO, .int x_outCount, .int x_steps, .ref mN, .int x_nowFlags, .int x_writePlace, .int x_writeSize, .int x_writeValue, .int y_fault_9, .int x_halt, .int x_isByte, .int y_atRegister_4, .int y_atPlace_5]))]) [0] (by decide) rfl
            have hKc := hK.sub (tys' := []) [] rfl
            have hFc := va_free (wc := [(m0, .inr (5, [.int x_thrown, .ref mB, .ref mR, .int x_flags, .ref mO, .int x_outCount, .int x_steps, .ref mN, .int x_nowFlags, .int x_writePlace, .int x_writeSize, .int x_writeValue, .int y_fault_9, .int x_halt, .int x_isByte, .int y_atRegister_4, .int y_atPlace_5]))]) hD hS hA [0] rfl
            refine va_callv (va_runV (C := RX5) (b := m0) (As := [.int b_40, .int b_43, .int 0, .int b_50]) (rest := []) ⟨hx, hb, hml, hown, hts⟩ (s_X5_set l dC dI H.size m0 b_40 b_43 (0 : Int32) b_50 x_thrown mB mR x_flags mO x_outCount x_steps mN x_nowFlags x_writePlace x_writeSize x_writeValue y_fault_9 x_halt x_isByte y_atRegister_4 y_atPlace_5) (cwV 4 hts gX5_product_X5_set rfl rfl rfl (by decide +kernel) ⟨Nat.le_of_ble_eq_true rfl, Nat.le_of_ble_eq_true rfl⟩) ⟨q_blind, va_recv hK hP (ci := 5) (q0 := 0) rfl rfl, fun U hU hW => ⟨rfl, q_pay hU hW hPc hKc hDc hN⟩⟩ rfl rfl hl.1 rfl (lv_room (Nat.le_of_ble_eq_true rfl)) dX5_product_119 ⟨show 0 + 0 ≤ 0 from by omega, show 0 + 0 ≤ 0 from by omega⟩) hS (fun q _ h => hFc q h) hFc (fun u9 t H locs ht hvm hw_53 hB hz1 hk1 hS => ?_)
            obtain ⟨y_nowFlags_54, rfl⟩ : ∃ z, z = u9 := ⟨_, rfl⟩
            obtain ⟨hP1, hK1, hD1⟩ := hB
            rw [ht] at hP1
            obtain ⟨hP, hD⟩ := va_join (wr := [(mB, .inl (cY, 4096, .inl bf)), (mN, .inl (cN, 8, .inl g_38))]) (w1 := [(m0, .inr (5, [.int x_thrown, .ref mB, .ref mR, .int x_flags, .ref mO, .int x_outCount, .int x_steps, .ref mN, .int y_nowFlags_54, .int x_writePlace, .int x_writeSize, .int x_writeValue, .int y_fault_9, .int x_halt, .int x_isByte, .int y_atRegister_4, .int y_atPlace_5]))]) hP hD [0] [1, 2] rfl rfl (by decide) (by decide) hk1 hFc hP1 hD1
            have hP : va_P (dC, dI) vwCl [(mB, .inl (cY, 4096, .inl bf)), (mN, .inl (cN, 8, .inl g_38)), (m0, .inr (5, [.int x_thrown, .ref mB, .ref mR, .int x_flags, .ref mO, .int x_outCount, .int x_steps, .ref mN, .int y_nowFlags_54, .int x_writePlace, .int x_writeSize, .int x_writeValue, .int y_fault_9, .int x_halt, .int x_isByte, .int y_atRegister_4, .int y_atPlace_5]))] H := hP
            have hD : va_D A [(mB, .inl (cY, 4096, .inl bf)), (mN, .inl (cN, 8, .inl g_38)), (m0, .inr (5, [.int x_thrown, .ref mB, .ref mR, .int x_flags, .ref mO, .int x_outCount, .int x_steps, .ref mN, .int y_nowFlags_54, .int x_writePlace, .int x_writeSize, .int x_writeValue, .int y_fault_9, .int x_halt, .int x_isByte, .int y_atRegister_4, .int y_atPlace_5]))] := hD
            refine W.widen (k := 0) (n := 0) (by omega) (by omega) ?_
            try dsimp only at hw_53
            have hP9 := hP.sub (ws' := [(m0, .inr (5, [.int x_thrown, .ref mB, .ref mR, .int x_flags, .ref mO, .int x_outCount, .int x_steps, .ref mN, .int y_nowFlags_54, .int x_writePlace, .int x_writeSize, .int x_writeValue, .int y_fault_9, .int x_halt, .int x_isByte, .int y_atRegister_4, .int y_atPlace_5])), (mB, .inl (cY, 4096, .inl bf)), (mN, .inl (cN, 8, .inl g_38))]) [2, 0, 1] rfl
            have hD9 := hD.sub (ws' := [(m0, .inr (5, [.int x_thrown, .ref mB, .ref mR, .int x_flags, .ref mO, .int x_outCount, .int x_steps, .ref mN, .int y_nowFlags_54, .int x_writePlace, .int x_writeSize, .int x_writeValue, .int y_fault_9, .int x_halt, .int x_isByte, .int y_atRegister_4, .int y_atPlace_5])), (mB, .inl (cY, 4096, .inl bf)), (mN, .inl (cN, 8, .inl g_38))]) [2, 0, 1] (by decide) rfl
            have hK9 := hK.sub (tys' := [(cY, .int), (cN, .int)]) [0, 1] rfl
            exact W.vret hx hb hr (fun t ht hW => ⟨⟨(y_nowFlags_54, x_writePlace, x_writeSize, x_writeValue, y_fault_9, y_atRegister_4, y_atPlace_5, g_38), rfl, ⟨hw_8.1, hN_37, hWR⟩, by rw [ht]; exact hP9, va_K.moved hW.alike hK9, hD9⟩, hS.F ht⟩) hS.2.2 dX5_product_122
          refine lv_icmp_le (tgt := 118) hx hb dX5_product_111 (by decide) (fun c_49 => ?_) (fun c_49 => ?_)
          · refine lv_iconst (v := 0) hx hb dX5_product_118 (by decide) ?_
            exact jn _ (Or.inl rfl)
          · refine lv_iconst (v := 1) hx hb dX5_product_114 (by decide) ?_
            refine lv_goto (tgt := 119) hx hb dX5_product_115 (by decide) ?_
            exact jn _ (Or.inr rfl)
      refine lv_if_ne (tgt := 96) hx hb dX5_product_89 (by decide) (fun c_42 => ?_) (fun c_42 => ?_)
      · refine lv_iconst (v := 0) hx hb dX5_product_96 (by decide) ?_
        exact jn _ (Or.inl rfl)
      · refine lv_iconst (v := 1) hx hb dX5_product_92 (by decide) ?_
        refine lv_goto (tgt := 97) hx hb dX5_product_93 (by decide) ?_
        exact jn _ (Or.inr rfl)
    refine lv_if_ge (tgt := 86) hx hb dX5_product_79 (by decide) (fun c_39 => ?_) (fun c_39 => ?_)
    · refine lv_iconst (v := 0) hx hb dX5_product_86 (by decide) ?_
      exact jn _ (Or.inl rfl)
    · refine lv_iconst (v := 1) hx hb dX5_product_82 (by decide) ?_
      refine lv_goto (tgt := 87) hx hb dX5_product_83 (by decide) ?_
      exact jn _ (Or.inr rfl)
set_option maxHeartbeats 4000000 in
set_option maxRecDepth 100000 in
theorem s_X5_quotient (l : Launch) (dC : Nat → ClassId) (dI : Nat → Nat → Nat) (sz : Nat) (m0 : Nat) (rr : Int32) (wd : Int32) (x_thrown : Int32) (mB : Nat) (mR : Nat) (x_flags : Int32) (mO : Nat) (x_outCount : Int32) (x_steps : Int32) (mN : Nat) (x_nowFlags : Int32) (x_writePlace : Int32) (x_writeSize : Int32) (x_writeValue : Int32) (x_fault : Int32) (x_halt : Int32) (x_isByte : Int32) (x_atRegister : Int32) (x_atPlace : Int32) (cY : ClassId) (bf : Nat → Int32) (cN : ClassId) (nf : Nat → Int32) (hF : okF x_fault) (hN9 : okN x_fault nf) (hWR : WR x_writeSize x_writePlace) (hB : okB bf) (hr9 : vp_in rr 8) : Met l yX5_quotient wsX5_quotient ({ frames := 4, cells := 0, slots := 0, locals := 89 }) (va_Pc [.ref m0, .int rr, .int wd] (q_pre dC dI sz [(m0, .inr (5, [.int x_thrown, .ref mB, .ref mR, .int x_flags, .ref mO, .int x_outCount, .int x_steps, .ref mN, .int x_nowFlags, .int x_writePlace, .int x_writeSize, .int x_writeValue, .int x_fault, .int x_halt, .int x_isByte, .int x_atRegister, .int x_atPlace])), (mB, .inl (cY, 4096, .inl bf)), (mN, .inl (cN, 8, .inl nf))] [(cY, .int), (cN, .int)])) (va_Qv (fun (u9 : Int32 × Int32 × Int32 × Int32 × Int32 × Int32 × Int32 × (Nat → Int32)) => (okF u9.2.2.2.2.1) ∧ (okN u9.2.2.2.2.1 u9.2.2.2.2.2.2.2) ∧ (WR u9.2.2.1 u9.2.1)) (q_at dC dI (va_A [(m0, .inr (5, [.int x_thrown, .ref mB, .ref mR, .int x_flags, .ref mO, .int x_outCount, .int x_steps, .ref mN, .int x_nowFlags, .int x_writePlace, .int x_writeSize, .int x_writeValue, .int x_fault, .int x_halt, .int x_isByte, .int x_atRegister, .int x_atPlace])), (mB, .inl (cY, 4096, .inl bf)), (mN, .inl (cN, 8, .inl nf))] sz) (fun (u9 : Int32 × Int32 × Int32 × Int32 × Int32 × Int32 × Int32 × (Nat → Int32)) => [(cY, .int), (cN, .int)]) (fun (u9 : Int32 × Int32 × Int32 × Int32 × Int32 × Int32 × Int32 × (Nat → Int32)) => [(m0, .inr (5, [.int x_thrown, .ref mB, .ref mR, .int x_flags, .ref mO, .int x_outCount, .int x_steps, .ref mN, .int u9.1, .int u9.2.1, .int u9.2.2.1, .int u9.2.2.2.1, .int u9.2.2.2.2.1, .int x_halt, .int x_isByte, .int u9.2.2.2.2.2.1, .int u9.2.2.2.2.2.2.1])), (mB, .inl (cY, 4096, .inl bf)), (mN, .inl (cN, 8, .inl u9.2.2.2.2.2.2.2))])) (va_A [(m0, .inr (5, [.int x_thrown, .ref mB, .ref mR, .int x_flags, .ref mO, .int x_outCount, .int x_steps, .ref mN, .int x_nowFlags, .int x_writePlace, .int x_writeSize, .int x_writeValue, .int x_fault, .int x_halt, .int x_isByte, .int x_atRegister, .int x_atPlace])), (mB, .inl (cY, 4096, .inl bf)), (mN, .inl (cN, 8, .inl nf))] sz)) 0 0 (va_A [(m0, .inr (5, [.int x_thrown, .ref mB, .ref mR, .int x_flags, .ref mO, .int x_outCount, .int x_steps, .ref mN, .int x_nowFlags, .int x_writePlace, .int x_writeSize, .int x_writeValue, .int x_fault, .int x_halt, .int x_isByte, .int x_atRegister, .int x_atPlace])), (mB, .inl (cY, 4096, .inl bf)), (mN, .inl (cN, 8, .inl nf))] sz) := by
  refine Met.ofW (cc := cX5_quotient) (maxL := 9) (ret := none) (by decide) rfl ?_
  intro p e s m args below meth c s₁ B hml hv
  obtain ⟨rfl, hsz, hP, hK, hD0, hN⟩ := hv
  have hx := B.exec
  have hb := B.bytes
  have hr := B.returns
  have hts := atoms_spec (ws := wsX5_quotient) B.pre
  have hown : s.vm.findClass RX5 = some m.cls := findClass_of_methodNamed B.named
  have hlocks := B.notSynchronized
  subst hsz
  have hD := hD0.self (sz := s.heap.size)
  generalize hAe : va_A [(m0, .inr (5, [.int x_thrown, .ref mB, .ref mR, .int x_flags, .ref mO, .int x_outCount, .int x_steps, .ref mN, .int x_nowFlags, .int x_writePlace, .int x_writeSize, .int x_writeValue, .int x_fault, .int x_halt, .int x_isByte, .int x_atRegister, .int x_atPlace])), (mB, .inl (cY, 4096, .inl bf)), (mN, .inl (cN, 8, .inl nf))] s.heap.size = A at hD ⊢
  have hA : ∀ q : Nat, s.heap.size ≤ q → A q := fun q h => by rw [← hAe]; exact Or.inr h
  have hS : va_S A s.heap s.heap [] := va_S.rf
  have hP : va_P (dC, dI) vwCl [(m0, .inr (5, [.int x_thrown, .ref mB, .ref mR, .int x_flags, .ref mO, .int x_outCount, .int x_steps, .ref mN, .int x_nowFlags, .int x_writePlace, .int x_writeSize, .int x_writeValue, .int x_fault, .int x_halt, .int x_isByte, .int x_atRegister, .int x_atPlace])), (mB, .inl (cY, 4096, .inl bf)), (mN, .inl (cN, 8, .inl nf))] s.heap := hP
  have hl := lv_entry ([.ref m0, .int rr, .int wd]) (n := 9) (Nat.le_of_ble_eq_true rfl)
  rw [lg_entry_eq]
  generalize (lg_sl ([.ref m0, .int rr, .int wd]) ++ List.replicate (9 - (lg_sl ([.ref m0, .int rr, .int wd])).length) Slot.unset).toArray = ls at hl ⊢
  have hl : lv_has ls 9 [(0, .ref m0), (1, .int rr), (2, .int wd)] := hl
  refine lv_iload_n hx hb dX5_quotient_0 rfl (lv_at hl 1 rfl) ?_
  refine lv_iconst (v := 2) hx hb dX5_quotient_1 (by decide) ?_
  refine lv_irem hx hb dX5_quotient_2 (by decide) ?_
  refine lv_iconst (v := 1) hx hb dX5_quotient_3 (by decide) ?_
  refine lv_icmp_ne (tgt := 13) hx hb dX5_quotient_4 (by decide) (fun c_1 => ?_) (fun c_1 => ?_)
  · refine lv_aload_n hx hb dX5_quotient_13 rfl (lv_at hl 0 rfl) ?_
    refine lv_iload_n hx hb dX5_quotient_14 rfl (lv_at hl 2 rfl) ?_
    refine lv_bipush (v := 63) hx hb dX5_quotient_15 (by decide) ?_
    refine lv_iand hx hb dX5_quotient_17 ?_
    have hPc := hP.sub (ws' := [(m0, .inr (5, [.int x_thrown, .ref mB, .ref mR, .int x_flags, .ref mO, .int x_outCount, .int x_steps, .ref mN, .int x_nowFlags, .int x_writePlace, .int x_writeSize, .int x_writeValue, .int x_fault, .int x_halt, .int x_isByte, .int x_atRegister, .int x_atPlace])), (mB, .inl (cY, 4096, .inl bf)), (mN, .inl (cN, 8, .inl nf))]) [0, 1, 2] rfl
    have hDc := hD.sub (ws' := [(m0, .inr (5, [.int x_thrown, .ref mB, .ref mR, .int x_flags, .ref mO, .int x_outCount, .int x_steps, .ref mN, .int x_nowFlags, .int x_writePlace, .int x_writeSize, .int x_writeValue, .int x_fault, .int x_halt, .int x_isByte, .int x_atRegister, .int x_atPlace])), (mB, .inl (cY, 4096, .inl bf)), (mN, .inl (cN, 8, .inl nf))]) [0, 1, 2] (by decide) rfl
    have hKc := hK.sub (tys' := [(cY, .int), (cN, .int)]) [0, 1] rfl
    have hFc := va_free (wc := [(m0, .inr (5, [.int x_thrown, .ref mB, .ref mR, .int x_flags, .ref mO, .int x_outCount, .int x_steps, .ref mN, .int x_nowFlags, .int x_writePlace, .int x_writeSize, .int x_writeValue, .int x_fault, .int x_halt, .int x_isByte, .int x_atRegister, .int x_atPlace])), (mB, .inl (cY, 4096, .inl bf)), (mN, .inl (cN, 8, .inl nf))]) hD hS hA [0, 1, 2] rfl
    refine va_callv (va_runV (C := RX5) (b := m0) (As := [.int (wd &&& 63)]) (rest := []) ⟨hx, hb, hml, hown, hts⟩ (s_X5_find l dC dI s.heap.size m0 (wd &&& 63) x_thrown mB mR x_flags mO x_outCount x_steps mN x_nowFlags x_writePlace x_writeSize x_writeValue x_fault x_halt x_isByte x_atRegister x_atPlace cY bf cN nf hF hN9 hB) (cwV 1 hts gX5_quotient_X5_find rfl rfl rfl (by decide +kernel) ⟨Nat.le_of_ble_eq_true rfl, Nat.le_of_ble_eq_true rfl⟩) ⟨q_blind, va_recv hK hP (ci := 5) (q0 := 0) rfl rfl, fun U hU hW => ⟨rfl, q_pay hU hW hPc hKc hDc hN⟩⟩ rfl rfl hl.1 rfl (lv_room (Nat.le_of_ble_eq_true rfl)) dX5_quotient_18 ⟨show 0 + 0 ≤ 0 from by omega, show 0 + 0 ≤ 0 from by omega⟩) hS (fun q _ h => hFc q h) hFc (fun u9 t H locs ht hvm hw_3 hB hz1 hk1 hS => ?_)
    obtain ⟨y_fault_4, y_atRegister_5, y_atPlace_6, nf2_7⟩ := u9
    obtain ⟨hP1, hK1, hD1⟩ := hB
    rw [ht] at hP1
    obtain ⟨hP, hD⟩ := va_join (wr := []) (w1 := [(m0, .inr (5, [.int x_thrown, .ref mB, .ref mR, .int x_flags, .ref mO, .int x_outCount, .int x_steps, .ref mN, .int x_nowFlags, .int x_writePlace, .int x_writeSize, .int x_writeValue, .int y_fault_4, .int x_halt, .int x_isByte, .int y_atRegister_5, .int y_atPlace_6])), (mB, .inl (cY, 4096, .inl bf)), (mN, .inl (cN, 8, .inl nf2_7))]) hP hD [0, 1, 2] [] rfl rfl (by decide) (by decide) hk1 hFc hP1 hD1
    have hP : va_P (dC, dI) vwCl [(m0, .inr (5, [.int x_thrown, .ref mB, .ref mR, .int x_flags, .ref mO, .int x_outCount, .int x_steps, .ref mN, .int x_nowFlags, .int x_writePlace, .int x_writeSize, .int x_writeValue, .int y_fault_4, .int x_halt, .int x_isByte, .int y_atRegister_5, .int y_atPlace_6])), (mB, .inl (cY, 4096, .inl bf)), (mN, .inl (cN, 8, .inl nf2_7))] H := hP
    have hD : va_D A [(m0, .inr (5, [.int x_thrown, .ref mB, .ref mR, .int x_flags, .ref mO, .int x_outCount, .int x_steps, .ref mN, .int x_nowFlags, .int x_writePlace, .int x_writeSize, .int x_writeValue, .int y_fault_4, .int x_halt, .int x_isByte, .int y_atRegister_5, .int y_atPlace_6])), (mB, .inl (cY, 4096, .inl bf)), (mN, .inl (cN, 8, .inl nf2_7))] := hD
    refine W.widen (k := 0) (n := 0) (by omega) (by omega) ?_
    try dsimp only at hw_3
    refine lv_aload_n hx hb dX5_quotient_21 rfl (lv_at hl 0 rfl) ?_
    have hPc := hP.sub (ws' := [(m0, .inr (5, [.int x_thrown, .ref mB, .ref mR, .int x_flags, .ref mO, .int x_outCount, .int x_steps, .ref mN, .int x_nowFlags, .int x_writePlace, .int x_writeSize, .int x_writeValue, .int y_fault_4, .int x_halt, .int x_isByte, .int y_atRegister_5, .int y_atPlace_6])), (mB, .inl (cY, 4096, .inl bf)), (mN, .inl (cN, 8, .inl nf2_7))]) [0, 1, 2] rfl
    have hDc := hD.sub (ws' := [(m0, .inr (5, [.int x_thrown, .ref mB, .ref mR, .int x_flags, .ref mO, .int x_outCount, .int x_steps, .ref mN, .int x_nowFlags, .int x_writePlace, .int x_writeSize, .int x_writeValue, .int y_fault_4, .int x_halt, .int x_isByte, .int y_atRegister_5, .int y_atPlace_6])), (mB, .inl (cY, 4096, .inl bf)), (mN, .inl (cN, 8, .inl nf2_7))]) [0, 1, 2] (by decide) rfl
    have hKc := hK.sub (tys' := [(cY, .int), (cN, .int)]) [0, 1] rfl
    have hFc := va_free (wc := [(m0, .inr (5, [.int x_thrown, .ref mB, .ref mR, .int x_flags, .ref mO, .int x_outCount, .int x_steps, .ref mN, .int x_nowFlags, .int x_writePlace, .int x_writeSize, .int x_writeValue, .int y_fault_4, .int x_halt, .int x_isByte, .int y_atRegister_5, .int y_atPlace_6])), (mB, .inl (cY, 4096, .inl bf)), (mN, .inl (cN, 8, .inl nf2_7))]) hD hS hA [0, 1, 2] rfl
    refine va_calli (va_runV (C := RX5) (b := m0) (As := []) (rest := []) ⟨hx, hb, hml, hown, hts⟩ (s_X5_get l dC dI H.size m0 x_thrown mB mR x_flags mO x_outCount x_steps mN x_nowFlags x_writePlace x_writeSize x_writeValue y_fault_4 x_halt x_isByte y_atRegister_5 y_atPlace_6 cY bf cN nf2_7 hw_3.1 hw_3.2.1 hw_3.2.2.1 hB) (cwV 0 hts gX5_quotient_X5_get rfl rfl rfl (by decide +kernel) ⟨Nat.le_of_ble_eq_true rfl, Nat.le_of_ble_eq_true rfl⟩) ⟨q_blind, va_recv hK hP (ci := 5) (q0 := 0) rfl rfl, fun U hU hW => ⟨rfl, q_pay hU hW hPc hKc hDc hN⟩⟩ rfl rfl hl.1 rfl (lv_room (Nat.le_of_ble_eq_true rfl)) dX5_quotient_22 ⟨show 0 + 0 ≤ 0 from by omega, show 0 + 0 ≤ 0 from by omega⟩) hS (fun q _ h => hFc q h) hFc (fun r_8 u9 t H locs ht hvm hw_9 hB hz1 hk1 hS => ?_)
    obtain ⟨y_fault_10, rfl⟩ : ∃ z, z = u9 := ⟨_, rfl⟩
    obtain ⟨hP1, hK1, hD1⟩ := hB
    rw [ht] at hP1
    obtain ⟨hP, hD⟩ := va_join (wr := []) (w1 := [(m0, .inr (5, [.int x_thrown, .ref mB, .ref mR, .int x_flags, .ref mO, .int x_outCount, .int x_steps, .ref mN, .int x_nowFlags, .int x_writePlace, .int x_writeSize, .int x_writeValue, .int y_fault_10, .int x_halt, .int x_isByte, .int y_atRegister_5, .int y_atPlace_6])), (mB, .inl (cY, 4096, .inl bf)), (mN, .inl (cN, 8, .inl nf2_7))]) hP hD [0, 1, 2] [] rfl rfl (by decide) (by decide) hk1 hFc hP1 hD1
    have hP : va_P (dC, dI) vwCl [(m0, .inr (5, [.int x_thrown, .ref mB, .ref mR, .int x_flags, .ref mO, .int x_outCount, .int x_steps, .ref mN, .int x_nowFlags, .int x_writePlace, .int x_writeSize, .int x_writeValue, .int y_fault_10, .int x_halt, .int x_isByte, .int y_atRegister_5, .int y_atPlace_6])), (mB, .inl (cY, 4096, .inl bf)), (mN, .inl (cN, 8, .inl nf2_7))] H := hP
    have hD : va_D A [(m0, .inr (5, [.int x_thrown, .ref mB, .ref mR, .int x_flags, .ref mO, .int x_outCount, .int x_steps, .ref mN, .int x_nowFlags, .int x_writePlace, .int x_writeSize, .int x_writeValue, .int y_fault_10, .int x_halt, .int x_isByte, .int y_atRegister_5, .int y_atPlace_6])), (mB, .inl (cY, 4096, .inl bf)), (mN, .inl (cN, 8, .inl nf2_7))] := hD
    refine W.widen (k := 0) (n := 0) (by omega) (by omega) ?_
    try dsimp only at hw_9
    have hPc := hP.sub (ws' := []) [] rfl
    have hDc := hD.sub (ws' := []) [] (by decide) rfl
    have hKc := hK.sub (tys' := []) [] rfl
    have hFc := va_free (wc := []) hD hS hA [] rfl
    refine va_calli (va_runS (As := [.int r_8]) (rest := []) ⟨hx, hb, hml, hown, hts⟩ (s_X5_signed l dC dI H.size r_8) (va_cwS 1 hts gX5_quotient_X5_signed rfl rfl rfl (by decide +kernel) ⟨Nat.le_of_ble_eq_true rfl, Nat.le_of_ble_eq_true rfl⟩) ⟨q_blind, fun U hU hW => ⟨rfl, q_pay hU hW hPc hKc hDc hN⟩⟩ rfl rfl hl.1 rfl (lv_room (Nat.le_of_ble_eq_true rfl)) dX5_quotient_25 ⟨show 0 + 0 ≤ 0 from by omega, show 0 + 0 ≤ 0 from by omega⟩) hS (fun q _ h => hFc q h) hFc (fun r_11 u9 t H locs ht hvm hw_12 hB hz1 hk1 hS => ?_)
    obtain ⟨hP1, hK1, hD1⟩ := hB
    rw [ht] at hP1
    obtain ⟨hP, hD⟩ := va_join (wr := [(m0, .inr (5, [.int x_thrown, .ref mB, .ref mR, .int x_flags, .ref mO, .int x_outCount, .int x_steps, .ref mN, .int x_nowFlags, .int x_writePlace, .int x_writeSize, .int x_writeValue, .int y_fault_10, .int x_halt, .int x_isByte, .int y_atRegister_5, .int y_atPlace_6])), (mB, .inl (cY, 4096, .inl bf)), (mN, .inl (cN, 8, .inl nf2_7))]) (w1 := []) hP hD [] [0, 1, 2] rfl rfl (by decide) (by decide) hk1 hFc hP1 hD1
    have hP : va_P (dC, dI) vwCl [(m0, .inr (5, [.int x_thrown, .ref mB, .ref mR, .int x_flags, .ref mO, .int x_outCount, .int x_steps, .ref mN, .int x_nowFlags, .int x_writePlace, .int x_writeSize, .int x_writeValue, .int y_fault_10, .int x_halt, .int x_isByte, .int y_atRegister_5, .int y_atPlace_6])), (mB, .inl (cY, 4096, .inl bf)), (mN, .inl (cN, 8, .inl nf2_7))] H := hP
    have hD : va_D A [(m0, .inr (5, [.int x_thrown, .ref mB, .ref mR, .int x_flags, .ref mO, .int x_outCount, .int x_steps, .ref mN, .int x_nowFlags, .int x_writePlace, .int x_writeSize, .int x_writeValue, .int y_fault_10, .int x_halt, .int x_isByte, .int y_atRegister_5, .int y_atPlace_6])), (mB, .inl (cY, 4096, .inl bf)), (mN, .inl (cN, 8, .inl nf2_7))] := hD
    refine W.widen (k := 0) (n := 0) (by omega) (by omega) ?_
    try dsimp only at hw_12
    refine lv_istore_n (lv' := [(3, .int r_11), (0, .ref m0), (1, .int rr), (2, .int wd)]) hx hb dX5_quotient_28 rfl hl (by decide) rfl (fun ls hl => ?_)
    refine lv_aload_n hx hb dX5_quotient_29 rfl (lv_at hl 1 rfl) ?_
    refine va_get (D := (dC, dI)) (ci := 5) (v := .ref mN) (C := RX5) (T := TX5) (N := 17) hx hb hts (by decide +kernel) hown hK hP 0 rfl rfl 7 (by decide) (hts (.fieldLink RX5 19 "WordGuestModel" "now" "[I") (by decide +kernel)) (fun _ h9 => h9) rfl dX5_quotient_30 ?_
    refine lv_iload_n hx hb dX5_quotient_33 rfl (lv_at hl 2 rfl) ?_
    refine va_iald hx hb hK hP 2 1 rfl rfl hr9 dX5_quotient_34 ?_
    refine lv_bipush (v := 16) hx hb dX5_quotient_35 (by decide) ?_
    refine lv_ishl hx hb dX5_quotient_37 ?_
    refine lv_aload_n hx hb dX5_quotient_38 rfl (lv_at hl 1 rfl) ?_
    refine va_get (D := (dC, dI)) (ci := 5) (v := .ref mN) (C := RX5) (T := TX5) (N := 17) hx hb hts (by decide +kernel) hown hK hP 0 rfl rfl 7 (by decide) (hts (.fieldLink RX5 19 "WordGuestModel" "now" "[I") (by decide +kernel)) (fun _ h9 => h9) rfl dX5_quotient_39 ?_
    refine lv_iload_n hx hb dX5_quotient_42 rfl (lv_at hl 2 rfl) ?_
    refine lv_iconst (v := 1) hx hb dX5_quotient_43 (by decide) ?_
    refine lv_iadd hx hb dX5_quotient_44 ?_
    refine va_iald hx hb hK hP 2 1 rfl rfl (in_ev hr9 c_1) dX5_quotient_45 ?_
    refine lv_ior hx hb dX5_quotient_46 ?_
    refine lv_istore (lv' := [(4, .int (((nf2_7 rr.toNatClampNeg) <<< (16 &&& 31)) ||| (nf2_7 (rr + 1).toNatClampNeg))), (3, .int r_11), (0, .ref m0), (1, .int rr), (2, .int wd)]) hx hb dX5_quotient_47 hl (by decide) rfl (fun ls hl => ?_)
    refine lv_aload_n hx hb dX5_quotient_49 rfl (lv_at hl 2 rfl) ?_
    refine va_get (D := (dC, dI)) (ci := 5) (v := .int y_fault_10) (C := RX5) (T := TX5) (N := 17) hx hb hts (by decide +kernel) hown hK hP 0 rfl rfl 12 (by decide) (hts (.fieldLink RX5 48 "WordGuestModel" "fault" "I") (by decide +kernel)) (fun _ h9 => h9) rfl dX5_quotient_50 ?_
    refine lv_if_le (tgt := 57) hx hb dX5_quotient_53 (by decide) (fun c_13 => ?_) (fun c_13 => ?_)
    · refine lv_iload_n hx hb dX5_quotient_57 rfl (lv_at hl 1 rfl) ?_
      refine lv_if_ne (tgt := 75) hx hb dX5_quotient_58 (by decide) (fun c_14 => ?_) (fun c_14 => ?_)
      · refine lv_iload hx hb dX5_quotient_75 (lv_at hl 0 rfl) ?_
        refine lv_i2l (v := Int32.toInt64 (((nf2_7 rr.toNatClampNeg) <<< (16 &&& 31)) ||| (nf2_7 (rr + 1).toNatClampNeg))) hx hb dX5_quotient_77 rfl ?_
        refine lv_iload_n hx hb dX5_quotient_78 rfl (lv_at hl 1 rfl) ?_
        refine lv_i2l (v := Int32.toInt64 r_11) hx hb dX5_quotient_79 rfl ?_
        refine lv_ldiv hx hb dX5_quotient_80 (q_lnz c_14) ?_
        refine lv_lstore (lv' := [(5, .long ((Int32.toInt64 (((nf2_7 rr.toNatClampNeg) <<< (16 &&& 31)) ||| (nf2_7 (rr + 1).toNatClampNeg))) / (Int32.toInt64 r_11))), (4, .int (((nf2_7 rr.toNatClampNeg) <<< (16 &&& 31)) ||| (nf2_7 (rr + 1).toNatClampNeg))), (3, .int r_11), (0, .ref m0), (1, .int rr), (2, .int wd)]) hx hb dX5_quotient_81 hl (by decide) rfl (fun ls hl => ?_)
        refine lv_iload hx hb dX5_quotient_83 (lv_at hl 1 rfl) ?_
        refine lv_i2l (v := Int32.toInt64 (((nf2_7 rr.toNatClampNeg) <<< (16 &&& 31)) ||| (nf2_7 (rr + 1).toNatClampNeg))) hx hb dX5_quotient_85 rfl ?_
        refine lv_lload hx hb dX5_quotient_86 (lv_at hl 0 rfl) ?_
        refine lv_iload_n hx hb dX5_quotient_88 rfl (lv_at hl 2 rfl) ?_
        refine lv_i2l (v := Int32.toInt64 r_11) hx hb dX5_quotient_89 rfl ?_
        refine lv_lmul hx hb dX5_quotient_90 ?_
        refine lv_lsub hx hb dX5_quotient_91 ?_
        refine lv_lstore (lv' := [(7, .long ((Int32.toInt64 (((nf2_7 rr.toNatClampNeg) <<< (16 &&& 31)) ||| (nf2_7 (rr + 1).toNatClampNeg))) - (((Int32.toInt64 (((nf2_7 rr.toNatClampNeg) <<< (16 &&& 31)) ||| (nf2_7 (rr + 1).toNatClampNeg))) / (Int32.toInt64 r_11)) * (Int32.toInt64 r_11)))), (5, .long ((Int32.toInt64 (((nf2_7 rr.toNatClampNeg) <<< (16 &&& 31)) ||| (nf2_7 (rr + 1).toNatClampNeg))) / (Int32.toInt64 r_11))), (4, .int (((nf2_7 rr.toNatClampNeg) <<< (16 &&& 31)) ||| (nf2_7 (rr + 1).toNatClampNeg))), (3, .int r_11), (0, .ref m0), (1, .int rr), (2, .int wd)]) hx hb dX5_quotient_92 hl (by decide) rfl (fun ls hl => ?_)
        refine lv_lload hx hb dX5_quotient_94 (lv_at hl 1 rfl) ?_
        refine lv_ldc2 (v := (-32768)) hx hb hown (hts (.constantLong RX5 123 (-32768)) (by decide +kernel)) dX5_quotient_96 ?_
        refine W.lcmp hx hb dX5_quotient_99 ?_
        refine lv_if_lt (tgt := 112) hx hb dX5_quotient_100 (by decide) (fun c_15 => ?_) (fun c_15 => ?_)
        · refine lv_aload_n hx hb dX5_quotient_112 rfl (lv_at hl 4 rfl) ?_
          refine lv_aload_n hx hb dX5_quotient_113 rfl (lv_at hl 4 rfl) ?_
          refine va_get (D := (dC, dI)) (ci := 5) (v := .int x_nowFlags) (C := RX5) (T := TX5) (N := 17) hx hb hts (by decide +kernel) hown hK hP 0 rfl rfl 8 (by decide) (hts (.fieldLink RX5 90 "WordGuestModel" "nowFlags" "I") (by decide +kernel)) (fun _ h9 => h9) rfl dX5_quotient_114 ?_
          refine lv_bipush (v := 12) hx hb dX5_quotient_117 (by decide) ?_
          refine lv_iand hx hb dX5_quotient_119 ?_
          refine lv_iconst (v := 2) hx hb dX5_quotient_120 (by decide) ?_
          refine lv_ior hx hb dX5_quotient_121 ?_
          refine va_put (D := (dC, dI)) (ci := 5) (v := .int ((x_nowFlags &&& 12) ||| 2)) (ty := .int) (C := RX5) (T := TX5) (N := 17) hx hb hts (by decide +kernel) tyX5 tyX5_ok nmX5 hown hK hP hD hS 0 rfl rfl 8 (by decide) (hts (.fieldLink RX5 90 "WordGuestModel" "nowFlags" "I") (by decide +kernel)) (fun _ h9 => h9) rfl (by decide +kernel) rfl rfl (Nat.le_of_ble_eq_true rfl) dX5_quotient_122 (fun H locs hP hD hS => ?_)
          have hP : va_P (dC, dI) vwCl [(m0, .inr (5, [.int x_thrown, .ref mB, .ref mR, .int x_flags, .ref mO, .int x_outCount, .int x_steps, .ref mN, .int ((x_nowFlags &&& 12) ||| 2), .int x_writePlace, .int x_writeSize, .int x_writeValue, .int y_fault_10, .int x_halt, .int x_isByte, .int y_atRegister_5, .int y_atPlace_6])), (mB, .inl (cY, 4096, .inl bf)), (mN, .inl (cN, 8, .inl nf2_7))] H := hP
          have hD : va_D A [(m0, .inr (5, [.int x_thrown, .ref mB, .ref mR, .int x_flags, .ref mO, .int x_outCount, .int x_steps, .ref mN, .int ((x_nowFlags &&& 12) ||| 2), .int x_writePlace, .int x_writeSize, .int x_writeValue, .int y_fault_10, .int x_halt, .int x_isByte, .int y_atRegister_5, .int y_atPlace_6])), (mB, .inl (cY, 4096, .inl bf)), (mN, .inl (cN, 8, .inl nf2_7))] := hD
          have hP9 := hP.sub (ws' := [(m0, .inr (5, [.int x_thrown, .ref mB, .ref mR, .int x_flags, .ref mO, .int x_outCount, .int x_steps, .ref mN, .int ((x_nowFlags &&& 12) ||| 2), .int x_writePlace, .int x_writeSize, .int x_writeValue, .int y_fault_10, .int x_halt, .int x_isByte, .int y_atRegister_5, .int y_atPlace_6])), (mB, .inl (cY, 4096, .inl bf)), (mN, .inl (cN, 8, .inl nf2_7))]) [0, 1, 2] rfl
          have hD9 := hD.sub (ws' := [(m0, .inr (5, [.int x_thrown, .ref mB, .ref mR, .int x_flags, .ref mO, .int x_outCount, .int x_steps, .ref mN, .int ((x_nowFlags &&& 12) ||| 2), .int x_writePlace, .int x_writeSize, .int x_writeValue, .int y_fault_10, .int x_halt, .int x_isByte, .int y_atRegister_5, .int y_atPlace_6])), (mB, .inl (cY, 4096, .inl bf)), (mN, .inl (cN, 8, .inl nf2_7))]) [0, 1, 2] (by decide) rfl
          have hK9 := hK.sub (tys' := [(cY, .int), (cN, .int)]) [0, 1] rfl
          exact W.vret hx hb hr (fun t ht hW => ⟨⟨((x_nowFlags &&& 12) ||| 2, x_writePlace, x_writeSize, x_writeValue, y_fault_10, y_atRegister_5, y_atPlace_6, nf2_7), rfl, ⟨hw_9.1, (okN_mono hw_3.2.1 hw_9.2.1), hWR⟩, by rw [ht]; exact hP9, va_K.moved hW.alike hK9, hD9⟩, hS.F ht⟩) hS.2.2 dX5_quotient_125
        · refine lv_lload hx hb dX5_quotient_103 (lv_at hl 1 rfl) ?_
          refine lv_ldc2 (v := 32767) hx hb hown (hts (.constantLong RX5 125 (32767)) (by decide +kernel)) dX5_quotient_105 ?_
          refine W.lcmp hx hb dX5_quotient_108 ?_
          refine lv_if_le (tgt := 126) hx hb dX5_quotient_109 (by decide) (fun c_16 => ?_) (fun c_16 => ?_)
          · refine lv_aload_n hx hb dX5_quotient_126 rfl (lv_at hl 4 rfl) ?_
            refine va_get (D := (dC, dI)) (ci := 5) (v := .ref mN) (C := RX5) (T := TX5) (N := 17) hx hb hts (by decide +kernel) hown hK hP 0 rfl rfl 7 (by decide) (hts (.fieldLink RX5 19 "WordGuestModel" "now" "[I") (by decide +kernel)) (fun _ h9 => h9) rfl dX5_quotient_127 ?_
            refine lv_iload_n hx hb dX5_quotient_130 rfl (lv_at hl 5 rfl) ?_
            refine lv_lload hx hb dX5_quotient_131 (lv_at hl 1 rfl) ?_
            refine lv_l2i (v := Int64.toInt32 ((Int32.toInt64 (((nf2_7 rr.toNatClampNeg) <<< (16 &&& 31)) ||| (nf2_7 (rr + 1).toNatClampNeg))) / (Int32.toInt64 r_11))) hx hb dX5_quotient_133 rfl ?_
            refine lv_ldc (v := 65535) hx hb hown (hts (.constant RX5 30 (65535)) (by decide +kernel)) dX5_quotient_134 ?_
            refine lv_iand hx hb dX5_quotient_136 ?_
            refine va_iast hx hb hK hP hD hS 2 1 rfl rfl hr9 dX5_quotient_137 (fun H locs hP hD hS => ?_)
            have hP : va_P (dC, dI) vwCl [(m0, .inr (5, [.int x_thrown, .ref mB, .ref mR, .int x_flags, .ref mO, .int x_outCount, .int x_steps, .ref mN, .int x_nowFlags, .int x_writePlace, .int x_writeSize, .int x_writeValue, .int y_fault_10, .int x_halt, .int x_isByte, .int y_atRegister_5, .int y_atPlace_6])), (mB, .inl (cY, 4096, .inl bf)), (mN, .inl (cN, 8, .inl (upd nf2_7 rr.toNatClampNeg ((Int64.toInt32 ((Int32.toInt64 (((nf2_7 rr.toNatClampNeg) <<< (16 &&& 31)) ||| (nf2_7 (rr + 1).toNatClampNeg))) / (Int32.toInt64 r_11))) &&& 65535))))] H := hP
            have hD : va_D A [(m0, .inr (5, [.int x_thrown, .ref mB, .ref mR, .int x_flags, .ref mO, .int x_outCount, .int x_steps, .ref mN, .int x_nowFlags, .int x_writePlace, .int x_writeSize, .int x_writeValue, .int y_fault_10, .int x_halt, .int x_isByte, .int y_atRegister_5, .int y_atPlace_6])), (mB, .inl (cY, 4096, .inl bf)), (mN, .inl (cN, 8, .inl (upd nf2_7 rr.toNatClampNeg ((Int64.toInt32 ((Int32.toInt64 (((nf2_7 rr.toNatClampNeg) <<< (16 &&& 31)) ||| (nf2_7 (rr + 1).toNatClampNeg))) / (Int32.toInt64 r_11))) &&& 65535))))] := hD
            have hN_17 : okN y_fault_10 (upd nf2_7 rr.toNatClampNeg ((Int64.toInt32 ((Int32.toInt64 (((nf2_7 rr.toNatClampNeg) <<< (16 &&& 31)) ||| (nf2_7 (rr + 1).toNatClampNeg))) / (Int32.toInt64 r_11))) &&& 65535)) := okN_upd (okN_mono hw_3.2.1 hw_9.2.1) (isW_and _) _
            generalize (upd nf2_7 rr.toNatClampNeg ((Int64.toInt32 ((Int32.toInt64 (((nf2_7 rr.toNatClampNeg) <<< (16 &&& 31)) ||| (nf2_7 (rr + 1).toNatClampNeg))) / (Int32.toInt64 r_11))) &&& 65535)) = g_18 at hP hD hN_17
            refine lv_aload_n hx hb dX5_quotient_138 rfl (lv_at hl 4 rfl) ?_
            refine va_get (D := (dC, dI)) (ci := 5) (v := .ref mN) (C := RX5) (T := TX5) (N := 17) hx hb hts (by decide +kernel) hown hK hP 0 rfl rfl 7 (by decide) (hts (.fieldLink RX5 19 "WordGuestModel" "now" "[I") (by decide +kernel)) (fun _ h9 => h9) rfl dX5_quotient_139 ?_
            refine lv_iload_n hx hb dX5_quotient_142 rfl (lv_at hl 5 rfl) ?_
            refine lv_iconst (v := 1) hx hb dX5_quotient_143 (by decide) ?_
            refine lv_iadd hx hb dX5_quotient_144 ?_
            refine lv_lload hx hb dX5_quotient_145 (lv_at hl 0 rfl) ?_
            refine lv_l2i (v := Int64.toInt32 ((Int32.toInt64 (((nf2_7 rr.toNatClampNeg) <<< (16 &&& 31)) ||| (nf2_7 (rr + 1).toNatClampNeg))) - (((Int32.toInt64 (((nf2_7 rr.toNatClampNeg) <<< (16 &&& 31)) ||| (nf2_7 (rr + 1).toNatClampNeg))) / (Int32.toInt64 r_11)) * (Int32.toInt64 r_11)))) hx hb dX5_quotient_147 rfl ?_
            refine lv_ldc (v := 65535) hx hb hown (hts (.constant RX5 30 (65535)) (by decide +kernel)) dX5_quotient_148 ?_
            refine lv_iand hx hb dX5_quotient_150 ?_
            refine va_iast hx hb hK hP hD hS 2 1 rfl rfl (in_ev hr9 c_1) dX5_quotient_151 (fun H locs hP hD hS => ?_)
            have hP : va_P (dC, dI) vwCl [(m0, .inr (5, [.int x_thrown, .ref mB, .ref mR, .int x_flags, .ref mO, .int x_outCount, .int x_steps, .ref mN, .int x_nowFlags, .int x_writePlace, .int x_writeSize, .int x_writeValue, .int y_fault_10, .int x_halt, .int x_isByte, .int y_atRegister_5, .int y_atPlace_6])), (mB, .inl (cY, 4096, .inl bf)), (mN, .inl (cN, 8, .inl (upd g_18 (rr + 1).toNatClampNeg ((Int64.toInt32 ((Int32.toInt64 (((nf2_7 rr.toNatClampNeg) <<< (16 &&& 31)) ||| (nf2_7 (rr + 1).toNatClampNeg))) - (((Int32.toInt64 (((nf2_7 rr.toNatClampNeg) <<< (16 &&& 31)) ||| (nf2_7 (rr + 1).toNatClampNeg))) / (Int32.toInt64 r_11)) * (Int32.toInt64 r_11)))) &&& 65535))))] H := hP
            have hD : va_D A [(m0, .inr (5, [.int x_thrown, .ref mB, .ref mR, .int x_flags, .ref mO, .int x_outCount, .int x_steps, .ref mN, .int x_nowFlags, .int x_writePlace, .int x_writeSize, .int x_writeValue, .int y_fault_10, .int x_halt, .int x_isByte, .int y_atRegister_5, .int y_atPlace_6])), (mB, .inl (cY, 4096, .inl bf)), (mN, .inl (cN, 8, .inl (upd g_18 (rr + 1).toNatClampNeg ((Int64.toInt32 ((Int32.toInt64 (((nf2_7 rr.toNatClampNeg) <<< (16 &&& 31)) ||| (nf2_7 (rr + 1).toNatClampNeg))) - (((Int32.toInt64 (((nf2_7 rr.toNatClampNeg) <<< (16 &&& 31)) ||| (nf2_7 (rr + 1).toNatClampNeg))) / (Int32.toInt64 r_11)) * (Int32.toInt64 r_11)))) &&& 65535))))] := hD
            have hN_19 : okN y_fault_10 (upd g_18 (rr + 1).toNatClampNeg ((Int64.toInt32 ((Int32.toInt64 (((nf2_7 rr.toNatClampNeg) <<< (16 &&& 31)) ||| (nf2_7 (rr + 1).toNatClampNeg))) - (((Int32.toInt64 (((nf2_7 rr.toNatClampNeg) <<< (16 &&& 31)) ||| (nf2_7 (rr + 1).toNatClampNeg))) / (Int32.toInt64 r_11)) * (Int32.toInt64 r_11)))) &&& 65535)) := okN_upd hN_17 (isW_and _) _
            generalize (upd g_18 (rr + 1).toNatClampNeg ((Int64.toInt32 ((Int32.toInt64 (((nf2_7 rr.toNatClampNeg) <<< (16 &&& 31)) ||| (nf2_7 (rr + 1).toNatClampNeg))) - (((Int32.toInt64 (((nf2_7 rr.toNatClampNeg) <<< (16 &&& 31)) ||| (nf2_7 (rr + 1).toNatClampNeg))) / (Int32.toInt64 r_11)) * (Int32.toInt64 r_11)))) &&& 65535)) = g_20 at hP hD hN_19
            refine lv_aload_n hx hb dX5_quotient_152 rfl (lv_at hl 4 rfl) ?_
            refine lv_lload hx hb dX5_quotient_153 (lv_at hl 1 rfl) ?_
            refine lv_lconst (v := 0) hx hb dX5_quotient_155 (by decide) ?_
            refine W.lcmp hx hb dX5_quotient_156 ?_
            refine q_bool (ls := ls) 165 [.ref m0] (fun b_22 hb_23 => ?_) (fun jn => ?_)
            · refine lv_lload hx hb dX5_quotient_165 (lv_at hl 1 rfl) ?_
              refine lv_lconst (v := 0) hx hb dX5_quotient_167 (by decide) ?_
              refine W.lcmp hx hb dX5_quotient_168 ?_
              refine q_bool (ls := ls) 177 [.int b_22, .ref m0] (fun b_25 hb_26 => ?_) (fun jn => ?_)
              · refine lv_iconst (v := 0) hx hb dX5_quotient_177 (by decide) ?_
                refine lv_iconst (v := 0) hx hb dX5_quotient_178 (by decide) ?_
                have hPc := hP.sub (ws' := [(m0, .inr (5, [.int x_thrown, .ref mB, .ref mR, .int x_flags, .ref mO, .int x_outCount, .int x_steps, .ref mN, .int x_nowFlags, .int x_writePlace, .int x_writeSize, .int x_writeValue, .int y_fault_10, .int x_halt, .int x_isByte, .int y_atRegister_5, .int y_atPlace_6]))]) [0] rfl
                have hDc := hD.sub (ws' := [(m0, .inr (5, [.int x_thrown, .ref mB, .ref mR, .int x_flags, .ref mO, .int x_outCount, .int x_steps, .ref mN, .int x_nowFlags, .int x_writePlace, .int x_writeSize, .int x_writeValue, .int y_fault_10, .int x_halt, .int x_isByte, .int y_atRegister_5, .int y_atPlace_6]))]) [0] (by decide) rfl
                have hKc := hK.sub (tys' := []) [] rfl
                have hFc := va_free (wc := [(m0, .inr (5, [.int x_thrown, .ref mB, .ref mR, .int x_flags, .ref mO, .int x_outCount, .int x_steps, .ref mN, .int x_nowFlags, .int x_writePlace, .int x_writeSize, .int x_writeValue, .int y_fault_10, .int x_halt, .int x_isByte, .int y_atRegister_5, .int y_atPlace_6]))]) hD hS hA [0] rfl
                refine va_callv (va_runV (C := RX5) (b := m0) (As := [.int b_22, .int b_25, .int 0, .int 0]) (rest := []) ⟨hx, hb, hml, hown, hts⟩ (s_X5_set l dC dI H.size m0 b_22 b_25 (0 : Int32) (0 : Int32) x_thrown mB mR x_flags mO x_outCount x_steps mN x_nowFlags x_writePlace x_writeSize x_writeValue y_fault_10 x_halt x_isByte y_atRegister_5 y_atPlace_6) (cwV 4 hts gX5_quotient_X5_set rfl rfl rfl (by decide +kernel) ⟨Nat.le_of_ble_eq_true rfl, Nat.le_of_ble_eq_true rfl⟩) ⟨q_blind, va_recv hK hP (ci := 5) (q0 := 0) rfl rfl, fun U hU hW => ⟨rfl, q_pay hU hW hPc hKc hDc hN⟩⟩ rfl rfl hl.1 rfl (lv_room (Nat.le_of_ble_eq_true rfl)) dX5_quotient_179 ⟨show 0 + 0 ≤ 0 from by omega, show 0 + 0 ≤ 0 from by omega⟩) hS (fun q _ h => hFc q h) hFc (fun u9 t H locs ht hvm hw_28 hB hz1 hk1 hS => ?_)
                obtain ⟨y_nowFlags_29, rfl⟩ : ∃ z, z = u9 := ⟨_, rfl⟩
                obtain ⟨hP1, hK1, hD1⟩ := hB
                rw [ht] at hP1
                obtain ⟨hP, hD⟩ := va_join (wr := [(mB, .inl (cY, 4096, .inl bf)), (mN, .inl (cN, 8, .inl g_20))]) (w1 := [(m0, .inr (5, [.int x_thrown, .ref mB, .ref mR, .int x_flags, .ref mO, .int x_outCount, .int x_steps, .ref mN, .int y_nowFlags_29, .int x_writePlace, .int x_writeSize, .int x_writeValue, .int y_fault_10, .int x_halt, .int x_isByte, .int y_atRegister_5, .int y_atPlace_6]))]) hP hD [0] [1, 2] rfl rfl (by decide) (by decide) hk1 hFc hP1 hD1
                have hP : va_P (dC, dI) vwCl [(mB, .inl (cY, 4096, .inl bf)), (mN, .inl (cN, 8, .inl g_20)), (m0, .inr (5, [.int x_thrown, .ref mB, .ref mR, .int x_flags, .ref mO, .int x_outCount, .int x_steps, .ref mN, .int y_nowFlags_29, .int x_writePlace, .int x_writeSize, .int x_writeValue, .int y_fault_10, .int x_halt, .int x_isByte, .int y_atRegister_5, .int y_atPlace_6]))] H := hP
                have hD : va_D A [(mB, .inl (cY, 4096, .inl bf)), (mN, .inl (cN, 8, .inl g_20)), (m0, .inr (5, [.int x_thrown, .ref mB, .ref mR, .int x_flags, .ref mO, .int x_outCount, .int x_steps, .ref mN, .int y_nowFlags_29, .int x_writePlace, .int x_writeSize, .int x_writeValue, .int y_fault_10, .int x_halt, .int x_isByte, .int y_atRegister_5, .int y_atPlace_6]))] := hD
                refine W.widen (k := 0) (n := 0) (by omega) (by omega) ?_
                try dsimp only at hw_28
                have hP9 := hP.sub (ws' := [(m0, .inr (5, [.int x_thrown, .ref mB, .ref mR, .int x_flags, .ref mO, .int x_outCount, .int x_steps, .ref mN, .int y_nowFlags_29, .int x_writePlace, .int x_writeSize, .int x_writeValue, .int y_fault_10, .int x_halt, .int x_isByte, .int y_atRegister_5, .int y_atPlace_6])), (mB, .inl (cY, 4096, .inl bf)), (mN, .inl (cN, 8, .inl g_20))]) [2, 0, 1] rfl
                have hD9 := hD.sub (ws' := [(m0, .inr (5, [.int x_thrown, .ref mB, .ref mR, .int x_flags, .ref mO, .int x_outCount, .int x_steps, .ref mN, .int y_nowFlags_29, .int x_writePlace, .int x_writeSize, .int x_writeValue, .int y_fault_10, .int x_halt, .int x_isByte, .int y_atRegister_5, .int y_atPlace_6])), (mB, .inl (cY, 4096, .inl bf)), (mN, .inl (cN, 8, .inl g_20))]) [2, 0, 1] (by decide) rfl
                have hK9 := hK.sub (tys' := [(cY, .int), (cN, .int)]) [0, 1] rfl
                exact W.vret hx hb hr (fun t ht hW => ⟨⟨(y_nowFlags_29, x_writePlace, x_writeSize, x_writeValue, y_fault_10, y_atRegister_5, y_atPlace_6, g_20), rfl, ⟨hw_9.1, hN_19, hWR⟩, by rw [ht]; exact hP9, va_K.moved hW.alike hK9, hD9⟩, hS.F ht⟩) hS.2.2 dX5_quotient_182
              refine lv_if_ne (tgt := 176) hx hb dX5_quotient_169 (by decide) (fun c_24 => ?_) (fun c_24 => ?_)
              · refine lv_iconst (v := 0) hx hb dX5_quotient_176 (by decide) ?_
                exact jn _ (Or.inl rfl)
              · refine lv_iconst (v := 1) hx hb dX5_quotient_172 (by decide) ?_
                refine lv_goto (tgt := 177) hx hb dX5_quotient_173 (by decide) ?_
                exact jn _ (Or.inr rfl)
            refine lv_if_ge (tgt := 164) hx hb dX5_quotient_157 (by decide) (fun c_21 => ?_) (fun c_21 => ?_)
            · refine lv_iconst (v := 0) hx hb dX5_quotient_164 (by decide) ?_
              exact jn _ (Or.inl rfl)
            · refine lv_iconst (v := 1) hx hb dX5_quotient_160 (by decide) ?_
              refine lv_goto (tgt := 165) hx hb dX5_quotient_161 (by decide) ?_
              exact jn _ (Or.inr rfl)
          · refine lv_aload_n hx hb dX5_quotient_112 rfl (lv_at hl 4 rfl) ?_
            refine lv_aload_n hx hb dX5_quotient_113 rfl (lv_at hl 4 rfl) ?_
            refine va_get (D := (dC, dI)) (ci := 5) (v := .int x_nowFlags) (C := RX5) (T := TX5) (N := 17) hx hb hts (by decide +kernel) hown hK hP 0 rfl rfl 8 (by decide) (hts (.fieldLink RX5 90 "WordGuestModel" "nowFlags" "I") (by decide +kernel)) (fun _ h9 => h9) rfl dX5_quotient_114 ?_
            refine lv_bipush (v := 12) hx hb dX5_quotient_117 (by decide) ?_
            refine lv_iand hx hb dX5_quotient_119 ?_
            refine lv_iconst (v := 2) hx hb dX5_quotient_120 (by decide) ?_
            refine lv_ior hx hb dX5_quotient_121 ?_
            refine va_put (D := (dC, dI)) (ci := 5) (v := .int ((x_nowFlags &&& 12) ||| 2)) (ty := .int) (C := RX5) (T := TX5) (N := 17) hx hb hts (by decide +kernel) tyX5 tyX5_ok nmX5 hown hK hP hD hS 0 rfl rfl 8 (by decide) (hts (.fieldLink RX5 90 "WordGuestModel" "nowFlags" "I") (by decide +kernel)) (fun _ h9 => h9) rfl (by decide +kernel) rfl rfl (Nat.le_of_ble_eq_true rfl) dX5_quotient_122 (fun H locs hP hD hS => ?_)
            have hP : va_P (dC, dI) vwCl [(m0, .inr (5, [.int x_thrown, .ref mB, .ref mR, .int x_flags, .ref mO, .int x_outCount, .int x_steps, .ref mN, .int ((x_nowFlags &&& 12) ||| 2), .int x_writePlace, .int x_writeSize, .int x_writeValue, .int y_fault_10, .int x_halt, .int x_isByte, .int y_atRegister_5, .int y_atPlace_6])), (mB, .inl (cY, 4096, .inl bf)), (mN, .inl (cN, 8, .inl nf2_7))] H := hP
            have hD : va_D A [(m0, .inr (5, [.int x_thrown, .ref mB, .ref mR, .int x_flags, .ref mO, .int x_outCount, .int x_steps, .ref mN, .int ((x_nowFlags &&& 12) ||| 2), .int x_writePlace, .int x_writeSize, .int x_writeValue, .int y_fault_10, .int x_halt, .int x_isByte, .int y_atRegister_5, .int y_atPlace_6])), (mB, .inl (cY, 4096, .inl bf)), (mN, .inl (cN, 8, .inl nf2_7))] := hD
            have hP9 := hP.sub (ws' := [(m0, .inr (5, [.int x_thrown, .ref mB, .ref mR, .int x_flags, .ref mO, .int x_outCount, .int x_steps, .ref mN, .int ((x_nowFlags &&& 12) ||| 2), .int x_writePlace, .int x_writeSize, .int x_writeValue, .int y_fault_10, .int x_halt, .int x_isByte, .int y_atRegister_5, .int y_atPlace_6])), (mB, .inl (cY, 4096, .inl bf)), (mN, .inl (cN, 8, .inl nf2_7))]) [0, 1, 2] rfl
            have hD9 := hD.sub (ws' := [(m0, .inr (5, [.int x_thrown, .ref mB, .ref mR, .int x_flags, .ref mO, .int x_outCount, .int x_steps, .ref mN, .int ((x_nowFlags &&& 12) ||| 2), .int x_writePlace, .int x_writeSize, .int x_writeValue, .int y_fault_10, .int x_halt, .int x_isByte, .int y_atRegister_5, .int y_atPlace_6])), (mB, .inl (cY, 4096, .inl bf)), (mN, .inl (cN, 8, .inl nf2_7))]) [0, 1, 2] (by decide) rfl
            have hK9 := hK.sub (tys' := [(cY, .int), (cN, .int)]) [0, 1] rfl
            exact W.vret hx hb hr (fun t ht hW => ⟨⟨((x_nowFlags &&& 12) ||| 2, x_writePlace, x_writeSize, x_writeValue, y_fault_10, y_atRegister_5, y_atPlace_6, nf2_7), rfl, ⟨hw_9.1, (okN_mono hw_3.2.1 hw_9.2.1), hWR⟩, by rw [ht]; exact hP9, va_K.moved hW.alike hK9, hD9⟩, hS.F ht⟩) hS.2.2 dX5_quotient_125
      · refine lv_aload_n hx hb dX5_quotient_61 rfl (lv_at hl 2 rfl) ?_
        refine lv_aload_n hx hb dX5_quotient_62 rfl (lv_at hl 2 rfl) ?_
        refine va_get (D := (dC, dI)) (ci := 5) (v := .int x_nowFlags) (C := RX5) (T := TX5) (N := 17) hx hb hts (by decide +kernel) hown hK hP 0 rfl rfl 8 (by decide) (hts (.fieldLink RX5 90 "WordGuestModel" "nowFlags" "I") (by decide +kernel)) (fun _ h9 => h9) rfl dX5_quotient_63 ?_
        refine lv_bipush (v := 12) hx hb dX5_quotient_66 (by decide) ?_
        refine lv_iand hx hb dX5_quotient_68 ?_
        refine lv_iconst (v := 3) hx hb dX5_quotient_69 (by decide) ?_
        refine lv_ior hx hb dX5_quotient_70 ?_
        refine va_put (D := (dC, dI)) (ci := 5) (v := .int ((x_nowFlags &&& 12) ||| 3)) (ty := .int) (C := RX5) (T := TX5) (N := 17) hx hb hts (by decide +kernel) tyX5 tyX5_ok nmX5 hown hK hP hD hS 0 rfl rfl 8 (by decide) (hts (.fieldLink RX5 90 "WordGuestModel" "nowFlags" "I") (by decide +kernel)) (fun _ h9 => h9) rfl (by decide +kernel) rfl rfl (Nat.le_of_ble_eq_true rfl) dX5_quotient_71 (fun H locs hP hD hS => ?_)
        have hP : va_P (dC, dI) vwCl [(m0, .inr (5, [.int x_thrown, .ref mB, .ref mR, .int x_flags, .ref mO, .int x_outCount, .int x_steps, .ref mN, .int ((x_nowFlags &&& 12) ||| 3), .int x_writePlace, .int x_writeSize, .int x_writeValue, .int y_fault_10, .int x_halt, .int x_isByte, .int y_atRegister_5, .int y_atPlace_6])), (mB, .inl (cY, 4096, .inl bf)), (mN, .inl (cN, 8, .inl nf2_7))] H := hP
        have hD : va_D A [(m0, .inr (5, [.int x_thrown, .ref mB, .ref mR, .int x_flags, .ref mO, .int x_outCount, .int x_steps, .ref mN, .int ((x_nowFlags &&& 12) ||| 3), .int x_writePlace, .int x_writeSize, .int x_writeValue, .int y_fault_10, .int x_halt, .int x_isByte, .int y_atRegister_5, .int y_atPlace_6])), (mB, .inl (cY, 4096, .inl bf)), (mN, .inl (cN, 8, .inl nf2_7))] := hD
        have hP9 := hP.sub (ws' := [(m0, .inr (5, [.int x_thrown, .ref mB, .ref mR, .int x_flags, .ref mO, .int x_outCount, .int x_steps, .ref mN, .int ((x_nowFlags &&& 12) ||| 3), .int x_writePlace, .int x_writeSize, .int x_writeValue, .int y_fault_10, .int x_halt, .int x_isByte, .int y_atRegister_5, .int y_atPlace_6])), (mB, .inl (cY, 4096, .inl bf)), (mN, .inl (cN, 8, .inl nf2_7))]) [0, 1, 2] rfl
        have hD9 := hD.sub (ws' := [(m0, .inr (5, [.int x_thrown, .ref mB, .ref mR, .int x_flags, .ref mO, .int x_outCount, .int x_steps, .ref mN, .int ((x_nowFlags &&& 12) ||| 3), .int x_writePlace, .int x_writeSize, .int x_writeValue, .int y_fault_10, .int x_halt, .int x_isByte, .int y_atRegister_5, .int y_atPlace_6])), (mB, .inl (cY, 4096, .inl bf)), (mN, .inl (cN, 8, .inl nf2_7))]) [0, 1, 2] (by decide) rfl
        have hK9 := hK.sub (tys' := [(cY, .int), (cN, .int)]) [0, 1] rfl
        exact W.vret hx hb hr (fun t ht hW => ⟨⟨((x_nowFlags &&& 12) ||| 3, x_writePlace, x_writeSize, x_writeValue, y_fault_10, y_atRegister_5, y_atPlace_6, nf2_7), rfl, ⟨hw_9.1, (okN_mono hw_3.2.1 hw_9.2.1), hWR⟩, by rw [ht]; exact hP9, va_K.moved hW.alike hK9, hD9⟩, hS.F ht⟩) hS.2.2 dX5_quotient_74
    · have hP9 := hP.sub (ws' := [(m0, .inr (5, [.int x_thrown, .ref mB, .ref mR, .int x_flags, .ref mO, .int x_outCount, .int x_steps, .ref mN, .int x_nowFlags, .int x_writePlace, .int x_writeSize, .int x_writeValue, .int y_fault_10, .int x_halt, .int x_isByte, .int y_atRegister_5, .int y_atPlace_6])), (mB, .inl (cY, 4096, .inl bf)), (mN, .inl (cN, 8, .inl nf2_7))]) [0, 1, 2] rfl
      have hD9 := hD.sub (ws' := [(m0, .inr (5, [.int x_thrown, .ref mB, .ref mR, .int x_flags, .ref mO, .int x_outCount, .int x_steps, .ref mN, .int x_nowFlags, .int x_writePlace, .int x_writeSize, .int x_writeValue, .int y_fault_10, .int x_halt, .int x_isByte, .int y_atRegister_5, .int y_atPlace_6])), (mB, .inl (cY, 4096, .inl bf)), (mN, .inl (cN, 8, .inl nf2_7))]) [0, 1, 2] (by decide) rfl
      have hK9 := hK.sub (tys' := [(cY, .int), (cN, .int)]) [0, 1] rfl
      exact W.vret hx hb hr (fun t ht hW => ⟨⟨(x_nowFlags, x_writePlace, x_writeSize, x_writeValue, y_fault_10, y_atRegister_5, y_atPlace_6, nf2_7), rfl, ⟨hw_9.1, (Or.inl (fnle c_13)), hWR⟩, by rw [ht]; exact hP9, va_K.moved hW.alike hK9, hD9⟩, hS.F ht⟩) hS.2.2 dX5_quotient_56
  · refine lv_aload_n hx hb dX5_quotient_7 rfl (lv_at hl 0 rfl) ?_
    refine lv_iconst (v := 4) hx hb dX5_quotient_8 (by decide) ?_
    have hPc := hP.sub (ws' := [(m0, .inr (5, [.int x_thrown, .ref mB, .ref mR, .int x_flags, .ref mO, .int x_outCount, .int x_steps, .ref mN, .int x_nowFlags, .int x_writePlace, .int x_writeSize, .int x_writeValue, .int x_fault, .int x_halt, .int x_isByte, .int x_atRegister, .int x_atPlace]))]) [0] rfl
    have hDc := hD.sub (ws' := [(m0, .inr (5, [.int x_thrown, .ref mB, .ref mR, .int x_flags, .ref mO, .int x_outCount, .int x_steps, .ref mN, .int x_nowFlags, .int x_writePlace, .int x_writeSize, .int x_writeValue, .int x_fault, .int x_halt, .int x_isByte, .int x_atRegister, .int x_atPlace]))]) [0] (by decide) rfl
    have hKc := hK.sub (tys' := []) [] rfl
    have hFc := va_free (wc := [(m0, .inr (5, [.int x_thrown, .ref mB, .ref mR, .int x_flags, .ref mO, .int x_outCount, .int x_steps, .ref mN, .int x_nowFlags, .int x_writePlace, .int x_writeSize, .int x_writeValue, .int x_fault, .int x_halt, .int x_isByte, .int x_atRegister, .int x_atPlace]))]) hD hS hA [0] rfl
    refine va_callv (va_runV (C := RX5) (b := m0) (As := [.int 4]) (rest := []) ⟨hx, hb, hml, hown, hts⟩ (s_X5_fail l dC dI s.heap.size m0 (4 : Int32) x_thrown mB mR x_flags mO x_outCount x_steps mN x_nowFlags x_writePlace x_writeSize x_writeValue x_fault x_halt x_isByte x_atRegister x_atPlace hF (by decide)) (cwV 1 hts gX5_quotient_X5_fail rfl rfl rfl (by decide +kernel) ⟨Nat.le_of_ble_eq_true rfl, Nat.le_of_ble_eq_true rfl⟩) ⟨q_blind, va_recv hK hP (ci := 5) (q0 := 0) rfl rfl, fun U hU hW => ⟨rfl, q_pay hU hW hPc hKc hDc hN⟩⟩ rfl rfl hl.1 rfl (lv_room (Nat.le_of_ble_eq_true rfl)) dX5_quotient_9 ⟨show 0 + 0 ≤ 0 from by omega, show 0 + 0 ≤ 0 from by omega⟩) hS (fun q _ h => hFc q h) hFc (fun u9 t H locs ht hvm hw_31 hB hz1 hk1 hS => ?_)
    obtain ⟨y_fault_32, rfl⟩ : ∃ z, z = u9 := ⟨_, rfl⟩
    obtain ⟨hP1, hK1, hD1⟩ := hB
    rw [ht] at hP1
    obtain ⟨hP, hD⟩ := va_join (wr := [(mB, .inl (cY, 4096, .inl bf)), (mN, .inl (cN, 8, .inl nf))]) (w1 := [(m0, .inr (5, [.int x_thrown, .ref mB, .ref mR, .int x_flags, .ref mO, .int x_outCount, .int x_steps, .ref mN, .int x_nowFlags, .int x_writePlace, .int x_writeSize, .int x_writeValue, .int y_fault_32, .int x_halt, .int x_isByte, .int x_atRegister, .int x_atPlace]))]) hP hD [0] [1, 2] rfl rfl (by decide) (by decide) hk1 hFc hP1 hD1
    have hP : va_P (dC, dI) vwCl [(mB, .inl (cY, 4096, .inl bf)), (mN, .inl (cN, 8, .inl nf)), (m0, .inr (5, [.int x_thrown, .ref mB, .ref mR, .int x_flags, .ref mO, .int x_outCount, .int x_steps, .ref mN, .int x_nowFlags, .int x_writePlace, .int x_writeSize, .int x_writeValue, .int y_fault_32, .int x_halt, .int x_isByte, .int x_atRegister, .int x_atPlace]))] H := hP
    have hD : va_D A [(mB, .inl (cY, 4096, .inl bf)), (mN, .inl (cN, 8, .inl nf)), (m0, .inr (5, [.int x_thrown, .ref mB, .ref mR, .int x_flags, .ref mO, .int x_outCount, .int x_steps, .ref mN, .int x_nowFlags, .int x_writePlace, .int x_writeSize, .int x_writeValue, .int y_fault_32, .int x_halt, .int x_isByte, .int x_atRegister, .int x_atPlace]))] := hD
    refine W.widen (k := 0) (n := 0) (by omega) (by omega) ?_
    try dsimp only at hw_31
    have hP9 := hP.sub (ws' := [(m0, .inr (5, [.int x_thrown, .ref mB, .ref mR, .int x_flags, .ref mO, .int x_outCount, .int x_steps, .ref mN, .int x_nowFlags, .int x_writePlace, .int x_writeSize, .int x_writeValue, .int y_fault_32, .int x_halt, .int x_isByte, .int x_atRegister, .int x_atPlace])), (mB, .inl (cY, 4096, .inl bf)), (mN, .inl (cN, 8, .inl nf))]) [2, 0, 1] rfl
    have hD9 := hD.sub (ws' := [(m0, .inr (5, [.int x_thrown, .ref mB, .ref mR, .int x_flags, .ref mO, .int x_outCount, .int x_steps, .ref mN, .int x_nowFlags, .int x_writePlace, .int x_writeSize, .int x_writeValue, .int y_fault_32, .int x_halt, .int x_isByte, .int x_atRegister, .int x_atPlace])), (mB, .inl (cY, 4096, .inl bf)), (mN, .inl (cN, 8, .inl nf))]) [2, 0, 1] (by decide) rfl
    have hK9 := hK.sub (tys' := [(cY, .int), (cN, .int)]) [0, 1] rfl
    exact W.vret hx hb hr (fun t ht hW => ⟨⟨(x_nowFlags, x_writePlace, x_writeSize, x_writeValue, y_fault_32, x_atRegister, x_atPlace, nf), rfl, ⟨(Or.inr hw_31), (okN_mono hN9 (fun _ => hw_31)), hWR⟩, by rw [ht]; exact hP9, va_K.moved hW.alike hK9, hD9⟩, hS.F ht⟩) hS.2.2 dX5_quotient_12
set_option maxHeartbeats 4000000 in
set_option maxRecDepth 100000 in
theorem s_X5_either (l : Launch) (dC : Nat → ClassId) (dI : Nat → Nat → Nat) (sz : Nat) (m0 : Nat) (rr : Int32) (wd : Int32) (x_thrown : Int32) (mB : Nat) (mR : Nat) (x_flags : Int32) (mO : Nat) (x_outCount : Int32) (x_steps : Int32) (mN : Nat) (x_nowFlags : Int32) (x_writePlace : Int32) (x_writeSize : Int32) (x_writeValue : Int32) (x_fault : Int32) (x_halt : Int32) (x_isByte : Int32) (x_atRegister : Int32) (x_atPlace : Int32) (cY : ClassId) (bf : Nat → Int32) (cN : ClassId) (nf : Nat → Int32) (hF : okF x_fault) (hN9 : okN x_fault nf) (hWR : WR x_writeSize x_writePlace) (hB : okB bf) (hr9 : vp_in rr 8) : Met l yX5_either wsX5_either ({ frames := 4, cells := 0, slots := 0, locals := 89 }) (va_Pc [.ref m0, .int rr, .int wd] (q_pre dC dI sz [(m0, .inr (5, [.int x_thrown, .ref mB, .ref mR, .int x_flags, .ref mO, .int x_outCount, .int x_steps, .ref mN, .int x_nowFlags, .int x_writePlace, .int x_writeSize, .int x_writeValue, .int x_fault, .int x_halt, .int x_isByte, .int x_atRegister, .int x_atPlace])), (mB, .inl (cY, 4096, .inl bf)), (mN, .inl (cN, 8, .inl nf))] [(cY, .int), (cN, .int)])) (va_Qv (fun (u9 : Int32 × Int32 × Int32 × Int32 × Int32 × Int32 × Int32 × (Nat → Int32)) => (okF u9.2.2.2.2.1) ∧ (okN u9.2.2.2.2.1 u9.2.2.2.2.2.2.2) ∧ (WR u9.2.2.1 u9.2.1)) (q_at dC dI (va_A [(m0, .inr (5, [.int x_thrown, .ref mB, .ref mR, .int x_flags, .ref mO, .int x_outCount, .int x_steps, .ref mN, .int x_nowFlags, .int x_writePlace, .int x_writeSize, .int x_writeValue, .int x_fault, .int x_halt, .int x_isByte, .int x_atRegister, .int x_atPlace])), (mB, .inl (cY, 4096, .inl bf)), (mN, .inl (cN, 8, .inl nf))] sz) (fun (u9 : Int32 × Int32 × Int32 × Int32 × Int32 × Int32 × Int32 × (Nat → Int32)) => [(cY, .int), (cN, .int)]) (fun (u9 : Int32 × Int32 × Int32 × Int32 × Int32 × Int32 × Int32 × (Nat → Int32)) => [(m0, .inr (5, [.int x_thrown, .ref mB, .ref mR, .int x_flags, .ref mO, .int x_outCount, .int x_steps, .ref mN, .int u9.1, .int u9.2.1, .int u9.2.2.1, .int u9.2.2.2.1, .int u9.2.2.2.2.1, .int x_halt, .int x_isByte, .int u9.2.2.2.2.2.1, .int u9.2.2.2.2.2.2.1])), (mB, .inl (cY, 4096, .inl bf)), (mN, .inl (cN, 8, .inl u9.2.2.2.2.2.2.2))])) (va_A [(m0, .inr (5, [.int x_thrown, .ref mB, .ref mR, .int x_flags, .ref mO, .int x_outCount, .int x_steps, .ref mN, .int x_nowFlags, .int x_writePlace, .int x_writeSize, .int x_writeValue, .int x_fault, .int x_halt, .int x_isByte, .int x_atRegister, .int x_atPlace])), (mB, .inl (cY, 4096, .inl bf)), (mN, .inl (cN, 8, .inl nf))] sz)) 0 0 (va_A [(m0, .inr (5, [.int x_thrown, .ref mB, .ref mR, .int x_flags, .ref mO, .int x_outCount, .int x_steps, .ref mN, .int x_nowFlags, .int x_writePlace, .int x_writeSize, .int x_writeValue, .int x_fault, .int x_halt, .int x_isByte, .int x_atRegister, .int x_atPlace])), (mB, .inl (cY, 4096, .inl bf)), (mN, .inl (cN, 8, .inl nf))] sz) := by
  refine Met.ofW (cc := cX5_either) (maxL := 5) (ret := none) (by decide) rfl ?_
  intro p e s m args below meth c s₁ B hml hv
  obtain ⟨rfl, hsz, hP, hK, hD0, hN⟩ := hv
  have hx := B.exec
  have hb := B.bytes
  have hr := B.returns
  have hts := atoms_spec (ws := wsX5_either) B.pre
  have hown : s.vm.findClass RX5 = some m.cls := findClass_of_methodNamed B.named
  have hlocks := B.notSynchronized
  subst hsz
  have hD := hD0.self (sz := s.heap.size)
  generalize hAe : va_A [(m0, .inr (5, [.int x_thrown, .ref mB, .ref mR, .int x_flags, .ref mO, .int x_outCount, .int x_steps, .ref mN, .int x_nowFlags, .int x_writePlace, .int x_writeSize, .int x_writeValue, .int x_fault, .int x_halt, .int x_isByte, .int x_atRegister, .int x_atPlace])), (mB, .inl (cY, 4096, .inl bf)), (mN, .inl (cN, 8, .inl nf))] s.heap.size = A at hD ⊢
  have hA : ∀ q : Nat, s.heap.size ≤ q → A q := fun q h => by rw [← hAe]; exact Or.inr h
  have hS : va_S A s.heap s.heap [] := va_S.rf
  have hP : va_P (dC, dI) vwCl [(m0, .inr (5, [.int x_thrown, .ref mB, .ref mR, .int x_flags, .ref mO, .int x_outCount, .int x_steps, .ref mN, .int x_nowFlags, .int x_writePlace, .int x_writeSize, .int x_writeValue, .int x_fault, .int x_halt, .int x_isByte, .int x_atRegister, .int x_atPlace])), (mB, .inl (cY, 4096, .inl bf)), (mN, .inl (cN, 8, .inl nf))] s.heap := hP
  have hl := lv_entry ([.ref m0, .int rr, .int wd]) (n := 5) (Nat.le_of_ble_eq_true rfl)
  rw [lg_entry_eq]
  generalize (lg_sl ([.ref m0, .int rr, .int wd]) ++ List.replicate (5 - (lg_sl ([.ref m0, .int rr, .int wd])).length) Slot.unset).toArray = ls at hl ⊢
  have hl : lv_has ls 5 [(0, .ref m0), (1, .int rr), (2, .int wd)] := hl
  refine lv_aload_n hx hb dX5_either_0 rfl (lv_at hl 0 rfl) ?_
  refine lv_iload_n hx hb dX5_either_1 rfl (lv_at hl 2 rfl) ?_
  refine lv_bipush (v := 63) hx hb dX5_either_2 (by decide) ?_
  refine lv_iand hx hb dX5_either_4 ?_
  have hPc := hP.sub (ws' := [(m0, .inr (5, [.int x_thrown, .ref mB, .ref mR, .int x_flags, .ref mO, .int x_outCount, .int x_steps, .ref mN, .int x_nowFlags, .int x_writePlace, .int x_writeSize, .int x_writeValue, .int x_fault, .int x_halt, .int x_isByte, .int x_atRegister, .int x_atPlace])), (mB, .inl (cY, 4096, .inl bf)), (mN, .inl (cN, 8, .inl nf))]) [0, 1, 2] rfl
  have hDc := hD.sub (ws' := [(m0, .inr (5, [.int x_thrown, .ref mB, .ref mR, .int x_flags, .ref mO, .int x_outCount, .int x_steps, .ref mN, .int x_nowFlags, .int x_writePlace, .int x_writeSize, .int x_writeValue, .int x_fault, .int x_halt, .int x_isByte, .int x_atRegister, .int x_atPlace])), (mB, .inl (cY, 4096, .inl bf)), (mN, .inl (cN, 8, .inl nf))]) [0, 1, 2] (by decide) rfl
  have hKc := hK.sub (tys' := [(cY, .int), (cN, .int)]) [0, 1] rfl
  have hFc := va_free (wc := [(m0, .inr (5, [.int x_thrown, .ref mB, .ref mR, .int x_flags, .ref mO, .int x_outCount, .int x_steps, .ref mN, .int x_nowFlags, .int x_writePlace, .int x_writeSize, .int x_writeValue, .int x_fault, .int x_halt, .int x_isByte, .int x_atRegister, .int x_atPlace])), (mB, .inl (cY, 4096, .inl bf)), (mN, .inl (cN, 8, .inl nf))]) hD hS hA [0, 1, 2] rfl
  refine va_callv (va_runV (C := RX5) (b := m0) (As := [.int (wd &&& 63)]) (rest := []) ⟨hx, hb, hml, hown, hts⟩ (s_X5_find l dC dI s.heap.size m0 (wd &&& 63) x_thrown mB mR x_flags mO x_outCount x_steps mN x_nowFlags x_writePlace x_writeSize x_writeValue x_fault x_halt x_isByte x_atRegister x_atPlace cY bf cN nf hF hN9 hB) (cwV 1 hts gX5_either_X5_find rfl rfl rfl (by decide +kernel) ⟨Nat.le_of_ble_eq_true rfl, Nat.le_of_ble_eq_true rfl⟩) ⟨q_blind, va_recv hK hP (ci := 5) (q0 := 0) rfl rfl, fun U hU hW => ⟨rfl, q_pay hU hW hPc hKc hDc hN⟩⟩ rfl rfl hl.1 rfl (lv_room (Nat.le_of_ble_eq_true rfl)) dX5_either_5 ⟨show 0 + 0 ≤ 0 from by omega, show 0 + 0 ≤ 0 from by omega⟩) hS (fun q _ h => hFc q h) hFc (fun u9 t H locs ht hvm hw_2 hB hz1 hk1 hS => ?_)
  obtain ⟨y_fault_3, y_atRegister_4, y_atPlace_5, nf2_6⟩ := u9
  obtain ⟨hP1, hK1, hD1⟩ := hB
  rw [ht] at hP1
  obtain ⟨hP, hD⟩ := va_join (wr := []) (w1 := [(m0, .inr (5, [.int x_thrown, .ref mB, .ref mR, .int x_flags, .ref mO, .int x_outCount, .int x_steps, .ref mN, .int x_nowFlags, .int x_writePlace, .int x_writeSize, .int x_writeValue, .int y_fault_3, .int x_halt, .int x_isByte, .int y_atRegister_4, .int y_atPlace_5])), (mB, .inl (cY, 4096, .inl bf)), (mN, .inl (cN, 8, .inl nf2_6))]) hP hD [0, 1, 2] [] rfl rfl (by decide) (by decide) hk1 hFc hP1 hD1
  have hP : va_P (dC, dI) vwCl [(m0, .inr (5, [.int x_thrown, .ref mB, .ref mR, .int x_flags, .ref mO, .int x_outCount, .int x_steps, .ref mN, .int x_nowFlags, .int x_writePlace, .int x_writeSize, .int x_writeValue, .int y_fault_3, .int x_halt, .int x_isByte, .int y_atRegister_4, .int y_atPlace_5])), (mB, .inl (cY, 4096, .inl bf)), (mN, .inl (cN, 8, .inl nf2_6))] H := hP
  have hD : va_D A [(m0, .inr (5, [.int x_thrown, .ref mB, .ref mR, .int x_flags, .ref mO, .int x_outCount, .int x_steps, .ref mN, .int x_nowFlags, .int x_writePlace, .int x_writeSize, .int x_writeValue, .int y_fault_3, .int x_halt, .int x_isByte, .int y_atRegister_4, .int y_atPlace_5])), (mB, .inl (cY, 4096, .inl bf)), (mN, .inl (cN, 8, .inl nf2_6))] := hD
  refine W.widen (k := 0) (n := 0) (by omega) (by omega) ?_
  try dsimp only at hw_2
  refine lv_aload_n hx hb dX5_either_8 rfl (lv_at hl 0 rfl) ?_
  have hPc := hP.sub (ws' := [(m0, .inr (5, [.int x_thrown, .ref mB, .ref mR, .int x_flags, .ref mO, .int x_outCount, .int x_steps, .ref mN, .int x_nowFlags, .int x_writePlace, .int x_writeSize, .int x_writeValue, .int y_fault_3, .int x_halt, .int x_isByte, .int y_atRegister_4, .int y_atPlace_5])), (mB, .inl (cY, 4096, .inl bf)), (mN, .inl (cN, 8, .inl nf2_6))]) [0, 1, 2] rfl
  have hDc := hD.sub (ws' := [(m0, .inr (5, [.int x_thrown, .ref mB, .ref mR, .int x_flags, .ref mO, .int x_outCount, .int x_steps, .ref mN, .int x_nowFlags, .int x_writePlace, .int x_writeSize, .int x_writeValue, .int y_fault_3, .int x_halt, .int x_isByte, .int y_atRegister_4, .int y_atPlace_5])), (mB, .inl (cY, 4096, .inl bf)), (mN, .inl (cN, 8, .inl nf2_6))]) [0, 1, 2] (by decide) rfl
  have hKc := hK.sub (tys' := [(cY, .int), (cN, .int)]) [0, 1] rfl
  have hFc := va_free (wc := [(m0, .inr (5, [.int x_thrown, .ref mB, .ref mR, .int x_flags, .ref mO, .int x_outCount, .int x_steps, .ref mN, .int x_nowFlags, .int x_writePlace, .int x_writeSize, .int x_writeValue, .int y_fault_3, .int x_halt, .int x_isByte, .int y_atRegister_4, .int y_atPlace_5])), (mB, .inl (cY, 4096, .inl bf)), (mN, .inl (cN, 8, .inl nf2_6))]) hD hS hA [0, 1, 2] rfl
  refine va_calli (va_runV (C := RX5) (b := m0) (As := []) (rest := []) ⟨hx, hb, hml, hown, hts⟩ (s_X5_get l dC dI H.size m0 x_thrown mB mR x_flags mO x_outCount x_steps mN x_nowFlags x_writePlace x_writeSize x_writeValue y_fault_3 x_halt x_isByte y_atRegister_4 y_atPlace_5 cY bf cN nf2_6 hw_2.1 hw_2.2.1 hw_2.2.2.1 hB) (cwV 0 hts gX5_either_X5_get rfl rfl rfl (by decide +kernel) ⟨Nat.le_of_ble_eq_true rfl, Nat.le_of_ble_eq_true rfl⟩) ⟨q_blind, va_recv hK hP (ci := 5) (q0 := 0) rfl rfl, fun U hU hW => ⟨rfl, q_pay hU hW hPc hKc hDc hN⟩⟩ rfl rfl hl.1 rfl (lv_room (Nat.le_of_ble_eq_true rfl)) dX5_either_9 ⟨show 0 + 0 ≤ 0 from by omega, show 0 + 0 ≤ 0 from by omega⟩) hS (fun q _ h => hFc q h) hFc (fun r_7 u9 t H locs ht hvm hw_8 hB hz1 hk1 hS => ?_)
  obtain ⟨y_fault_9, rfl⟩ : ∃ z, z = u9 := ⟨_, rfl⟩
  obtain ⟨hP1, hK1, hD1⟩ := hB
  rw [ht] at hP1
  obtain ⟨hP, hD⟩ := va_join (wr := []) (w1 := [(m0, .inr (5, [.int x_thrown, .ref mB, .ref mR, .int x_flags, .ref mO, .int x_outCount, .int x_steps, .ref mN, .int x_nowFlags, .int x_writePlace, .int x_writeSize, .int x_writeValue, .int y_fault_9, .int x_halt, .int x_isByte, .int y_atRegister_4, .int y_atPlace_5])), (mB, .inl (cY, 4096, .inl bf)), (mN, .inl (cN, 8, .inl nf2_6))]) hP hD [0, 1, 2] [] rfl rfl (by decide) (by decide) hk1 hFc hP1 hD1
  have hP : va_P (dC, dI) vwCl [(m0, .inr (5, [.int x_thrown, .ref mB, .ref mR, .int x_flags, .ref mO, .int x_outCount, .int x_steps, .ref mN, .int x_nowFlags, .int x_writePlace, .int x_writeSize, .int x_writeValue, .int y_fault_9, .int x_halt, .int x_isByte, .int y_atRegister_4, .int y_atPlace_5])), (mB, .inl (cY, 4096, .inl bf)), (mN, .inl (cN, 8, .inl nf2_6))] H := hP
  have hD : va_D A [(m0, .inr (5, [.int x_thrown, .ref mB, .ref mR, .int x_flags, .ref mO, .int x_outCount, .int x_steps, .ref mN, .int x_nowFlags, .int x_writePlace, .int x_writeSize, .int x_writeValue, .int y_fault_9, .int x_halt, .int x_isByte, .int y_atRegister_4, .int y_atPlace_5])), (mB, .inl (cY, 4096, .inl bf)), (mN, .inl (cN, 8, .inl nf2_6))] := hD
  refine W.widen (k := 0) (n := 0) (by omega) (by omega) ?_
  try dsimp only at hw_8
  refine lv_istore_n (lv' := [(3, .int r_7), (0, .ref m0), (1, .int rr), (2, .int wd)]) hx hb dX5_either_12 rfl hl (by decide) rfl (fun ls hl => ?_)
  refine lv_iload_n hx hb dX5_either_13 rfl (lv_at hl 0 rfl) ?_
  refine lv_aload_n hx hb dX5_either_14 rfl (lv_at hl 1 rfl) ?_
  refine va_get (D := (dC, dI)) (ci := 5) (v := .ref mN) (C := RX5) (T := TX5) (N := 17) hx hb hts (by decide +kernel) hown hK hP 0 rfl rfl 7 (by decide) (hts (.fieldLink RX5 19 "WordGuestModel" "now" "[I") (by decide +kernel)) (fun _ h9 => h9) rfl dX5_either_15 ?_
  refine lv_iload_n hx hb dX5_either_18 rfl (lv_at hl 2 rfl) ?_
  refine va_iald hx hb hK hP 2 1 rfl rfl hr9 dX5_either_19 ?_
  refine lv_ixor hx hb dX5_either_20 ?_
  refine lv_istore (lv' := [(4, .int (r_7 ^^^ (nf2_6 rr.toNatClampNeg))), (3, .int r_7), (0, .ref m0), (1, .int rr), (2, .int wd)]) hx hb dX5_either_21 hl (by decide) rfl (fun ls hl => ?_)
  refine lv_aload_n hx hb dX5_either_23 rfl (lv_at hl 2 rfl) ?_
  refine lv_iload hx hb dX5_either_24 (lv_at hl 0 rfl) ?_
  refine lv_iconst (v := 0) hx hb dX5_either_26 (by decide) ?_
  refine lv_aload_n hx hb dX5_either_27 rfl (lv_at hl 2 rfl) ?_
  refine lv_iconst (v := 1) hx hb dX5_either_28 (by decide) ?_
  have hPc := hP.sub (ws' := [(m0, .inr (5, [.int x_thrown, .ref mB, .ref mR, .int x_flags, .ref mO, .int x_outCount, .int x_steps, .ref mN, .int x_nowFlags, .int x_writePlace, .int x_writeSize, .int x_writeValue, .int y_fault_9, .int x_halt, .int x_isByte, .int y_atRegister_4, .int y_atPlace_5]))]) [0] rfl
  have hDc := hD.sub (ws' := [(m0, .inr (5, [.int x_thrown, .ref mB, .ref mR, .int x_flags, .ref mO, .int x_outCount, .int x_steps, .ref mN, .int x_nowFlags, .int x_writePlace, .int x_writeSize, .int x_writeValue, .int y_fault_9, .int x_halt, .int x_isByte, .int y_atRegister_4, .int y_atPlace_5]))]) [0] (by decide) rfl
  have hKc := hK.sub (tys' := []) [] rfl
  have hFc := va_free (wc := [(m0, .inr (5, [.int x_thrown, .ref mB, .ref mR, .int x_flags, .ref mO, .int x_outCount, .int x_steps, .ref mN, .int x_nowFlags, .int x_writePlace, .int x_writeSize, .int x_writeValue, .int y_fault_9, .int x_halt, .int x_isByte, .int y_atRegister_4, .int y_atPlace_5]))]) hD hS hA [0] rfl
  refine va_calli (va_runV (C := RX5) (b := m0) (As := [.int 1]) (rest := [.int 0, .int (r_7 ^^^ (nf2_6 rr.toNatClampNeg)), .ref m0]) ⟨hx, hb, hml, hown, hts⟩ (s_X5_has l dC dI H.size m0 (1 : Int32) x_thrown mB mR x_flags mO x_outCount x_steps mN x_nowFlags x_writePlace x_writeSize x_writeValue y_fault_9 x_halt x_isByte y_atRegister_4 y_atPlace_5) (cwV 1 hts gX5_either_X5_has rfl rfl rfl (by decide +kernel) ⟨Nat.le_of_ble_eq_true rfl, Nat.le_of_ble_eq_true rfl⟩) ⟨q_blind, va_recv hK hP (ci := 5) (q0 := 0) rfl rfl, fun U hU hW => ⟨rfl, q_pay hU hW hPc hKc hDc hN⟩⟩ rfl rfl hl.1 rfl (lv_room (Nat.le_of_ble_eq_true rfl)) dX5_either_29 ⟨show 0 + 0 ≤ 0 from by omega, show 0 + 0 ≤ 0 from by omega⟩) hS (fun q _ h => hFc q h) hFc (fun r_10 u9 t H locs ht hvm hw_11 hB hz1 hk1 hS => ?_)
  obtain ⟨hP1, hK1, hD1⟩ := hB
  rw [ht] at hP1
  obtain ⟨hP, hD⟩ := va_join (wr := [(mB, .inl (cY, 4096, .inl bf)), (mN, .inl (cN, 8, .inl nf2_6))]) (w1 := [(m0, .inr (5, [.int x_thrown, .ref mB, .ref mR, .int x_flags, .ref mO, .int x_outCount, .int x_steps, .ref mN, .int x_nowFlags, .int x_writePlace, .int x_writeSize, .int x_writeValue, .int y_fault_9, .int x_halt, .int x_isByte, .int y_atRegister_4, .int y_atPlace_5]))]) hP hD [0] [1, 2] rfl rfl (by decide) (by decide) hk1 hFc hP1 hD1
  have hP : va_P (dC, dI) vwCl [(mB, .inl (cY, 4096, .inl bf)), (mN, .inl (cN, 8, .inl nf2_6)), (m0, .inr (5, [.int x_thrown, .ref mB, .ref mR, .int x_flags, .ref mO, .int x_outCount, .int x_steps, .ref mN, .int x_nowFlags, .int x_writePlace, .int x_writeSize, .int x_writeValue, .int y_fault_9, .int x_halt, .int x_isByte, .int y_atRegister_4, .int y_atPlace_5]))] H := hP
  have hD : va_D A [(mB, .inl (cY, 4096, .inl bf)), (mN, .inl (cN, 8, .inl nf2_6)), (m0, .inr (5, [.int x_thrown, .ref mB, .ref mR, .int x_flags, .ref mO, .int x_outCount, .int x_steps, .ref mN, .int x_nowFlags, .int x_writePlace, .int x_writeSize, .int x_writeValue, .int y_fault_9, .int x_halt, .int x_isByte, .int y_atRegister_4, .int y_atPlace_5]))] := hD
  refine W.widen (k := 0) (n := 0) (by omega) (by omega) ?_
  try dsimp only at hw_11
  have hPc := hP.sub (ws' := [(m0, .inr (5, [.int x_thrown, .ref mB, .ref mR, .int x_flags, .ref mO, .int x_outCount, .int x_steps, .ref mN, .int x_nowFlags, .int x_writePlace, .int x_writeSize, .int x_writeValue, .int y_fault_9, .int x_halt, .int x_isByte, .int y_atRegister_4, .int y_atPlace_5]))]) [2] rfl
  have hDc := hD.sub (ws' := [(m0, .inr (5, [.int x_thrown, .ref mB, .ref mR, .int x_flags, .ref mO, .int x_outCount, .int x_steps, .ref mN, .int x_nowFlags, .int x_writePlace, .int x_writeSize, .int x_writeValue, .int y_fault_9, .int x_halt, .int x_isByte, .int y_atRegister_4, .int y_atPlace_5]))]) [2] (by decide) rfl
  have hKc := hK.sub (tys' := []) [] rfl
  have hFc := va_free (wc := [(m0, .inr (5, [.int x_thrown, .ref mB, .ref mR, .int x_flags, .ref mO, .int x_outCount, .int x_steps, .ref mN, .int x_nowFlags, .int x_writePlace, .int x_writeSize, .int x_writeValue, .int y_fault_9, .int x_halt, .int x_isByte, .int y_atRegister_4, .int y_atPlace_5]))]) hD hS hA [2] rfl
  refine va_callv (va_runV (C := RX5) (b := m0) (As := [.int (r_7 ^^^ (nf2_6 rr.toNatClampNeg)), .int 0, .int r_10]) (rest := []) ⟨hx, hb, hml, hown, hts⟩ (s_X5_setBy l dC dI H.size m0 (r_7 ^^^ (nf2_6 rr.toNatClampNeg)) (0 : Int32) r_10 x_thrown mB mR x_flags mO x_outCount x_steps mN x_nowFlags x_writePlace x_writeSize x_writeValue y_fault_9 x_halt x_isByte y_atRegister_4 y_atPlace_5) (cwV 3 hts gX5_either_X5_setBy rfl rfl rfl (by decide +kernel) ⟨Nat.le_of_ble_eq_true rfl, Nat.le_of_ble_eq_true rfl⟩) ⟨q_blind, va_recv hK hP (ci := 5) (q0 := 2) rfl rfl, fun U hU hW => ⟨rfl, q_pay hU hW hPc hKc hDc hN⟩⟩ rfl rfl hl.1 rfl (lv_room (Nat.le_of_ble_eq_true rfl)) dX5_either_32 ⟨show 0 + 0 ≤ 0 from by omega, show 0 + 0 ≤ 0 from by omega⟩) hS (fun q _ h => hFc q h) hFc (fun u9 t H locs ht hvm hw_13 hB hz1 hk1 hS => ?_)
  obtain ⟨y_nowFlags_14, rfl⟩ : ∃ z, z = u9 := ⟨_, rfl⟩
  obtain ⟨hP1, hK1, hD1⟩ := hB
  rw [ht] at hP1
  obtain ⟨hP, hD⟩ := va_join (wr := [(mB, .inl (cY, 4096, .inl bf)), (mN, .inl (cN, 8, .inl nf2_6))]) (w1 := [(m0, .inr (5, [.int x_thrown, .ref mB, .ref mR, .int x_flags, .ref mO, .int x_outCount, .int x_steps, .ref mN, .int y_nowFlags_14, .int x_writePlace, .int x_writeSize, .int x_writeValue, .int y_fault_9, .int x_halt, .int x_isByte, .int y_atRegister_4, .int y_atPlace_5]))]) hP hD [2] [0, 1] rfl rfl (by decide) (by decide) hk1 hFc hP1 hD1
  have hP : va_P (dC, dI) vwCl [(mB, .inl (cY, 4096, .inl bf)), (mN, .inl (cN, 8, .inl nf2_6)), (m0, .inr (5, [.int x_thrown, .ref mB, .ref mR, .int x_flags, .ref mO, .int x_outCount, .int x_steps, .ref mN, .int y_nowFlags_14, .int x_writePlace, .int x_writeSize, .int x_writeValue, .int y_fault_9, .int x_halt, .int x_isByte, .int y_atRegister_4, .int y_atPlace_5]))] H := hP
  have hD : va_D A [(mB, .inl (cY, 4096, .inl bf)), (mN, .inl (cN, 8, .inl nf2_6)), (m0, .inr (5, [.int x_thrown, .ref mB, .ref mR, .int x_flags, .ref mO, .int x_outCount, .int x_steps, .ref mN, .int y_nowFlags_14, .int x_writePlace, .int x_writeSize, .int x_writeValue, .int y_fault_9, .int x_halt, .int x_isByte, .int y_atRegister_4, .int y_atPlace_5]))] := hD
  refine W.widen (k := 0) (n := 0) (by omega) (by omega) ?_
  try dsimp only at hw_13
  refine lv_aload_n hx hb dX5_either_35 rfl (lv_at hl 2 rfl) ?_
  refine lv_iload hx hb dX5_either_36 (lv_at hl 0 rfl) ?_
  have hPc := hP.sub (ws' := [(m0, .inr (5, [.int x_thrown, .ref mB, .ref mR, .int x_flags, .ref mO, .int x_outCount, .int x_steps, .ref mN, .int y_nowFlags_14, .int x_writePlace, .int x_writeSize, .int x_writeValue, .int y_fault_9, .int x_halt, .int x_isByte, .int y_atRegister_4, .int y_atPlace_5])), (mB, .inl (cY, 4096, .inl bf)), (mN, .inl (cN, 8, .inl nf2_6))]) [2, 0, 1] rfl
  have hDc := hD.sub (ws' := [(m0, .inr (5, [.int x_thrown, .ref mB, .ref mR, .int x_flags, .ref mO, .int x_outCount, .int x_steps, .ref mN, .int y_nowFlags_14, .int x_writePlace, .int x_writeSize, .int x_writeValue, .int y_fault_9, .int x_halt, .int x_isByte, .int y_atRegister_4, .int y_atPlace_5])), (mB, .inl (cY, 4096, .inl bf)), (mN, .inl (cN, 8, .inl nf2_6))]) [2, 0, 1] (by decide) rfl
  have hKc := hK.sub (tys' := [(cY, .int), (cN, .int)]) [0, 1] rfl
  have hFc := va_free (wc := [(m0, .inr (5, [.int x_thrown, .ref mB, .ref mR, .int x_flags, .ref mO, .int x_outCount, .int x_steps, .ref mN, .int y_nowFlags_14, .int x_writePlace, .int x_writeSize, .int x_writeValue, .int y_fault_9, .int x_halt, .int x_isByte, .int y_atRegister_4, .int y_atPlace_5])), (mB, .inl (cY, 4096, .inl bf)), (mN, .inl (cN, 8, .inl nf2_6))]) hD hS hA [2, 0, 1] rfl
  refine va_callv (va_runV (C := RX5) (b := m0) (As := [.int (r_7 ^^^ (nf2_6 rr.toNatClampNeg))]) (rest := []) ⟨hx, hb, hml, hown, hts⟩ (s_X5_write l dC dI H.size m0 (r_7 ^^^ (nf2_6 rr.toNatClampNeg)) x_thrown mB mR x_flags mO x_outCount x_steps mN y_nowFlags_14 x_writePlace x_writeSize x_writeValue y_fault_9 x_halt x_isByte y_atRegister_4 y_atPlace_5 cY bf cN nf2_6 hw_8.1 (okN_mono hw_2.2.1 hw_8.2.1) (AT_mono hw_2.2.2.1 hw_8.2.1) hWR hB) (cwV 1 hts gX5_either_X5_write rfl rfl rfl (by decide +kernel) ⟨Nat.le_of_ble_eq_true rfl, Nat.le_of_ble_eq_true rfl⟩) ⟨q_blind, va_recv hK hP (ci := 5) (q0 := 2) rfl rfl, fun U hU hW => ⟨rfl, q_pay hU hW hPc hKc hDc hN⟩⟩ rfl rfl hl.1 rfl (lv_room (Nat.le_of_ble_eq_true rfl)) dX5_either_38 ⟨show 0 + 0 ≤ 0 from by omega, show 0 + 0 ≤ 0 from by omega⟩) hS (fun q _ h => hFc q h) hFc (fun u9 t H locs ht hvm hw_16 hB hz1 hk1 hS => ?_)
  obtain ⟨y_writePlace_17, y_writeSize_18, y_writeValue_19, y_fault_20, nf2_21⟩ := u9
  obtain ⟨hP1, hK1, hD1⟩ := hB
  rw [ht] at hP1
  obtain ⟨hP, hD⟩ := va_join (wr := []) (w1 := [(m0, .inr (5, [.int x_thrown, .ref mB, .ref mR, .int x_flags, .ref mO, .int x_outCount, .int x_steps, .ref mN, .int y_nowFlags_14, .int y_writePlace_17, .int y_writeSize_18, .int y_writeValue_19, .int y_fault_20, .int x_halt, .int x_isByte, .int y_atRegister_4, .int y_atPlace_5])), (mB, .inl (cY, 4096, .inl bf)), (mN, .inl (cN, 8, .inl nf2_21))]) hP hD [2, 0, 1] [] rfl rfl (by decide) (by decide) hk1 hFc hP1 hD1
  have hP : va_P (dC, dI) vwCl [(m0, .inr (5, [.int x_thrown, .ref mB, .ref mR, .int x_flags, .ref mO, .int x_outCount, .int x_steps, .ref mN, .int y_nowFlags_14, .int y_writePlace_17, .int y_writeSize_18, .int y_writeValue_19, .int y_fault_20, .int x_halt, .int x_isByte, .int y_atRegister_4, .int y_atPlace_5])), (mB, .inl (cY, 4096, .inl bf)), (mN, .inl (cN, 8, .inl nf2_21))] H := hP
  have hD : va_D A [(m0, .inr (5, [.int x_thrown, .ref mB, .ref mR, .int x_flags, .ref mO, .int x_outCount, .int x_steps, .ref mN, .int y_nowFlags_14, .int y_writePlace_17, .int y_writeSize_18, .int y_writeValue_19, .int y_fault_20, .int x_halt, .int x_isByte, .int y_atRegister_4, .int y_atPlace_5])), (mB, .inl (cY, 4096, .inl bf)), (mN, .inl (cN, 8, .inl nf2_21))] := hD
  refine W.widen (k := 0) (n := 0) (by omega) (by omega) ?_
  try dsimp only at hw_16
  have hP9 := hP.sub (ws' := [(m0, .inr (5, [.int x_thrown, .ref mB, .ref mR, .int x_flags, .ref mO, .int x_outCount, .int x_steps, .ref mN, .int y_nowFlags_14, .int y_writePlace_17, .int y_writeSize_18, .int y_writeValue_19, .int y_fault_20, .int x_halt, .int x_isByte, .int y_atRegister_4, .int y_atPlace_5])), (mB, .inl (cY, 4096, .inl bf)), (mN, .inl (cN, 8, .inl nf2_21))]) [0, 1, 2] rfl
  have hD9 := hD.sub (ws' := [(m0, .inr (5, [.int x_thrown, .ref mB, .ref mR, .int x_flags, .ref mO, .int x_outCount, .int x_steps, .ref mN, .int y_nowFlags_14, .int y_writePlace_17, .int y_writeSize_18, .int y_writeValue_19, .int y_fault_20, .int x_halt, .int x_isByte, .int y_atRegister_4, .int y_atPlace_5])), (mB, .inl (cY, 4096, .inl bf)), (mN, .inl (cN, 8, .inl nf2_21))]) [0, 1, 2] (by decide) rfl
  have hK9 := hK.sub (tys' := [(cY, .int), (cN, .int)]) [0, 1] rfl
  exact W.vret hx hb hr (fun t ht hW => ⟨⟨(y_nowFlags_14, y_writePlace_17, y_writeSize_18, y_writeValue_19, y_fault_20, y_atRegister_4, y_atPlace_5, nf2_21), rfl, ⟨hw_16.1, hw_16.2.1, hw_16.2.2⟩, by rw [ht]; exact hP9, va_K.moved hW.alike hK9, hD9⟩, hS.F ht⟩) hS.2.2 dX5_either_41
set_option maxHeartbeats 4000000 in
set_option maxRecDepth 100000 in
theorem s_X5_jump (l : Launch) (dC : Nat → ClassId) (dI : Nat → Nat → Nat) (sz : Nat) (m0 : Nat) (rr : Int32) (wd : Int32) (pt : Int32) (x_thrown : Int32) (mB : Nat) (mR : Nat) (x_flags : Int32) (mO : Nat) (x_outCount : Int32) (x_steps : Int32) (mN : Nat) (x_nowFlags : Int32) (x_writePlace : Int32) (x_writeSize : Int32) (x_writeValue : Int32) (x_fault : Int32) (x_halt : Int32) (x_isByte : Int32) (x_atRegister : Int32) (x_atPlace : Int32) (cY : ClassId) (bf : Nat → Int32) (cN : ClassId) (nf : Nat → Int32) (hF : okF x_fault) (hN9 : okN x_fault nf) (hWR : WR x_writeSize x_writePlace) (hB : okB bf) (hr9 : vp_in rr 8) : Met l yX5_jump wsX5_jump ({ frames := 4, cells := 0, slots := 0, locals := 89 }) (va_Pc [.ref m0, .int rr, .int wd, .int pt] (q_pre dC dI sz [(m0, .inr (5, [.int x_thrown, .ref mB, .ref mR, .int x_flags, .ref mO, .int x_outCount, .int x_steps, .ref mN, .int x_nowFlags, .int x_writePlace, .int x_writeSize, .int x_writeValue, .int x_fault, .int x_halt, .int x_isByte, .int x_atRegister, .int x_atPlace])), (mB, .inl (cY, 4096, .inl bf)), (mN, .inl (cN, 8, .inl nf))] [(cY, .int), (cN, .int)])) (va_Qv (fun (u9 : Int32 × Int32 × Int32 × Int32 × Int32 × Int32 × Int32 × (Nat → Int32)) => (okF u9.2.2.2.2.1) ∧ (okN u9.2.2.2.2.1 u9.2.2.2.2.2.2.2) ∧ (WR u9.2.2.1 u9.2.1)) (q_at dC dI (va_A [(m0, .inr (5, [.int x_thrown, .ref mB, .ref mR, .int x_flags, .ref mO, .int x_outCount, .int x_steps, .ref mN, .int x_nowFlags, .int x_writePlace, .int x_writeSize, .int x_writeValue, .int x_fault, .int x_halt, .int x_isByte, .int x_atRegister, .int x_atPlace])), (mB, .inl (cY, 4096, .inl bf)), (mN, .inl (cN, 8, .inl nf))] sz) (fun (u9 : Int32 × Int32 × Int32 × Int32 × Int32 × Int32 × Int32 × (Nat → Int32)) => [(cY, .int), (cN, .int)]) (fun (u9 : Int32 × Int32 × Int32 × Int32 × Int32 × Int32 × Int32 × (Nat → Int32)) => [(m0, .inr (5, [.int x_thrown, .ref mB, .ref mR, .int x_flags, .ref mO, .int x_outCount, .int x_steps, .ref mN, .int u9.1, .int u9.2.1, .int u9.2.2.1, .int u9.2.2.2.1, .int u9.2.2.2.2.1, .int x_halt, .int x_isByte, .int u9.2.2.2.2.2.1, .int u9.2.2.2.2.2.2.1])), (mB, .inl (cY, 4096, .inl bf)), (mN, .inl (cN, 8, .inl u9.2.2.2.2.2.2.2))])) (va_A [(m0, .inr (5, [.int x_thrown, .ref mB, .ref mR, .int x_flags, .ref mO, .int x_outCount, .int x_steps, .ref mN, .int x_nowFlags, .int x_writePlace, .int x_writeSize, .int x_writeValue, .int x_fault, .int x_halt, .int x_isByte, .int x_atRegister, .int x_atPlace])), (mB, .inl (cY, 4096, .inl bf)), (mN, .inl (cN, 8, .inl nf))] sz)) 0 0 (va_A [(m0, .inr (5, [.int x_thrown, .ref mB, .ref mR, .int x_flags, .ref mO, .int x_outCount, .int x_steps, .ref mN, .int x_nowFlags, .int x_writePlace, .int x_writeSize, .int x_writeValue, .int x_fault, .int x_halt, .int x_isByte, .int x_atRegister, .int x_atPlace])), (mB, .inl (cY, 4096, .inl bf)), (mN, .inl (cN, 8, .inl nf))] sz) := by
  refine Met.ofW (cc := cX5_jump) (maxL := 6) (ret := none) (by decide) rfl ?_
  intro p e s m args below meth c s₁ B hml hv
  obtain ⟨rfl, hsz, hP, hK, hD0, hN⟩ := hv
  have hx := B.exec
  have hb := B.bytes
  have hr := B.returns
  have hts := atoms_spec (ws := wsX5_jump) B.pre
  have hown : s.vm.findClass RX5 = some m.cls := findClass_of_methodNamed B.named
  have hlocks := B.notSynchronized
  subst hsz
  have hD := hD0.self (sz := s.heap.size)
  generalize hAe : va_A [(m0, .inr (5, [.int x_thrown, .ref mB, .ref mR, .int x_flags, .ref mO, .int x_outCount, .int x_steps, .ref mN, .int x_nowFlags, .int x_writePlace, .int x_writeSize, .int x_writeValue, .int x_fault, .int x_halt, .int x_isByte, .int x_atRegister, .int x_atPlace])), (mB, .inl (cY, 4096, .inl bf)), (mN, .inl (cN, 8, .inl nf))] s.heap.size = A at hD ⊢
  have hA : ∀ q : Nat, s.heap.size ≤ q → A q := fun q h => by rw [← hAe]; exact Or.inr h
  have hS : va_S A s.heap s.heap [] := va_S.rf
  have hP : va_P (dC, dI) vwCl [(m0, .inr (5, [.int x_thrown, .ref mB, .ref mR, .int x_flags, .ref mO, .int x_outCount, .int x_steps, .ref mN, .int x_nowFlags, .int x_writePlace, .int x_writeSize, .int x_writeValue, .int x_fault, .int x_halt, .int x_isByte, .int x_atRegister, .int x_atPlace])), (mB, .inl (cY, 4096, .inl bf)), (mN, .inl (cN, 8, .inl nf))] s.heap := hP
  have hl := lv_entry ([.ref m0, .int rr, .int wd, .int pt]) (n := 6) (Nat.le_of_ble_eq_true rfl)
  rw [lg_entry_eq]
  generalize (lg_sl ([.ref m0, .int rr, .int wd, .int pt]) ++ List.replicate (6 - (lg_sl ([.ref m0, .int rr, .int wd, .int pt])).length) Slot.unset).toArray = ls at hl ⊢
  have hl : lv_has ls 6 [(0, .ref m0), (1, .int rr), (2, .int wd), (3, .int pt)] := hl
  refine lv_iload_n hx hb dX5_jump_0 rfl (lv_at hl 2 rfl) ?_
  refine lv_iconst (v := 3) hx hb dX5_jump_1 (by decide) ?_
  refine lv_ishr hx hb dX5_jump_2 ?_
  refine lv_bipush (v := 7) hx hb dX5_jump_3 (by decide) ?_
  refine lv_iand hx hb dX5_jump_5 ?_
  refine lv_if_ne (tgt := 15) hx hb dX5_jump_6 (by decide) (fun c_1 => ?_) (fun c_1 => ?_)
  · refine lv_aload_n hx hb dX5_jump_15 rfl (lv_at hl 0 rfl) ?_
    refine lv_iload_n hx hb dX5_jump_16 rfl (lv_at hl 2 rfl) ?_
    refine lv_bipush (v := 63) hx hb dX5_jump_17 (by decide) ?_
    refine lv_iand hx hb dX5_jump_19 ?_
    have hPc := hP.sub (ws' := [(m0, .inr (5, [.int x_thrown, .ref mB, .ref mR, .int x_flags, .ref mO, .int x_outCount, .int x_steps, .ref mN, .int x_nowFlags, .int x_writePlace, .int x_writeSize, .int x_writeValue, .int x_fault, .int x_halt, .int x_isByte, .int x_atRegister, .int x_atPlace])), (mB, .inl (cY, 4096, .inl bf)), (mN, .inl (cN, 8, .inl nf))]) [0, 1, 2] rfl
    have hDc := hD.sub (ws' := [(m0, .inr (5, [.int x_thrown, .ref mB, .ref mR, .int x_flags, .ref mO, .int x_outCount, .int x_steps, .ref mN, .int x_nowFlags, .int x_writePlace, .int x_writeSize, .int x_writeValue, .int x_fault, .int x_halt, .int x_isByte, .int x_atRegister, .int x_atPlace])), (mB, .inl (cY, 4096, .inl bf)), (mN, .inl (cN, 8, .inl nf))]) [0, 1, 2] (by decide) rfl
    have hKc := hK.sub (tys' := [(cY, .int), (cN, .int)]) [0, 1] rfl
    have hFc := va_free (wc := [(m0, .inr (5, [.int x_thrown, .ref mB, .ref mR, .int x_flags, .ref mO, .int x_outCount, .int x_steps, .ref mN, .int x_nowFlags, .int x_writePlace, .int x_writeSize, .int x_writeValue, .int x_fault, .int x_halt, .int x_isByte, .int x_atRegister, .int x_atPlace])), (mB, .inl (cY, 4096, .inl bf)), (mN, .inl (cN, 8, .inl nf))]) hD hS hA [0, 1, 2] rfl
    refine va_callv (va_runV (C := RX5) (b := m0) (As := [.int (wd &&& 63)]) (rest := []) ⟨hx, hb, hml, hown, hts⟩ (s_X5_find l dC dI s.heap.size m0 (wd &&& 63) x_thrown mB mR x_flags mO x_outCount x_steps mN x_nowFlags x_writePlace x_writeSize x_writeValue x_fault x_halt x_isByte x_atRegister x_atPlace cY bf cN nf hF hN9 hB) (cwV 1 hts gX5_jump_X5_find rfl rfl rfl (by decide +kernel) ⟨Nat.le_of_ble_eq_true rfl, Nat.le_of_ble_eq_true rfl⟩) ⟨q_blind, va_recv hK hP (ci := 5) (q0 := 0) rfl rfl, fun U hU hW => ⟨rfl, q_pay hU hW hPc hKc hDc hN⟩⟩ rfl rfl hl.1 rfl (lv_room (Nat.le_of_ble_eq_true rfl)) dX5_jump_20 ⟨show 0 + 0 ≤ 0 from by omega, show 0 + 0 ≤ 0 from by omega⟩) hS (fun q _ h => hFc q h) hFc (fun u9 t H locs ht hvm hw_3 hB hz1 hk1 hS => ?_)
    obtain ⟨y_fault_4, y_atRegister_5, y_atPlace_6, nf2_7⟩ := u9
    obtain ⟨hP1, hK1, hD1⟩ := hB
    rw [ht] at hP1
    obtain ⟨hP, hD⟩ := va_join (wr := []) (w1 := [(m0, .inr (5, [.int x_thrown, .ref mB, .ref mR, .int x_flags, .ref mO, .int x_outCount, .int x_steps, .ref mN, .int x_nowFlags, .int x_writePlace, .int x_writeSize, .int x_writeValue, .int y_fault_4, .int x_halt, .int x_isByte, .int y_atRegister_5, .int y_atPlace_6])), (mB, .inl (cY, 4096, .inl bf)), (mN, .inl (cN, 8, .inl nf2_7))]) hP hD [0, 1, 2] [] rfl rfl (by decide) (by decide) hk1 hFc hP1 hD1
    have hP : va_P (dC, dI) vwCl [(m0, .inr (5, [.int x_thrown, .ref mB, .ref mR, .int x_flags, .ref mO, .int x_outCount, .int x_steps, .ref mN, .int x_nowFlags, .int x_writePlace, .int x_writeSize, .int x_writeValue, .int y_fault_4, .int x_halt, .int x_isByte, .int y_atRegister_5, .int y_atPlace_6])), (mB, .inl (cY, 4096, .inl bf)), (mN, .inl (cN, 8, .inl nf2_7))] H := hP
    have hD : va_D A [(m0, .inr (5, [.int x_thrown, .ref mB, .ref mR, .int x_flags, .ref mO, .int x_outCount, .int x_steps, .ref mN, .int x_nowFlags, .int x_writePlace, .int x_writeSize, .int x_writeValue, .int y_fault_4, .int x_halt, .int x_isByte, .int y_atRegister_5, .int y_atPlace_6])), (mB, .inl (cY, 4096, .inl bf)), (mN, .inl (cN, 8, .inl nf2_7))] := hD
    refine W.widen (k := 0) (n := 0) (by omega) (by omega) ?_
    try dsimp only at hw_3
    refine lv_aload_n hx hb dX5_jump_23 rfl (lv_at hl 0 rfl) ?_
    refine va_get (D := (dC, dI)) (ci := 5) (v := .int y_atPlace_6) (C := RX5) (T := TX5) (N := 17) hx hb hts (by decide +kernel) hown hK hP 0 rfl rfl 16 (by decide) (hts (.fieldLink RX5 66 "WordGuestModel" "atPlace" "I") (by decide +kernel)) (fun _ h9 => h9) rfl dX5_jump_24 ?_
    refine lv_istore (lv' := [(4, .int y_atPlace_6), (0, .ref m0), (1, .int rr), (2, .int wd), (3, .int pt)]) hx hb dX5_jump_27 hl (by decide) rfl (fun ls hl => ?_)
    refine lv_iload_n hx hb dX5_jump_29 rfl (lv_at hl 4 rfl) ?_
    refine lv_if_eq (tgt := 111) hx hb dX5_jump_30 (by decide) (fun c_8 => ?_) (fun c_8 => ?_)
    · refine lv_aload_n hx hb dX5_jump_111 rfl (lv_at hl 1 rfl) ?_
      refine va_get (D := (dC, dI)) (ci := 5) (v := .ref mN) (C := RX5) (T := TX5) (N := 17) hx hb hts (by decide +kernel) hown hK hP 0 rfl rfl 7 (by decide) (hts (.fieldLink RX5 19 "WordGuestModel" "now" "[I") (by decide +kernel)) (fun _ h9 => h9) rfl dX5_jump_112 ?_
      refine lv_bipush (v := 7) hx hb dX5_jump_115 (by decide) ?_
      refine lv_iload hx hb dX5_jump_117 (lv_at hl 0 rfl) ?_
      refine va_iast hx hb hK hP hD hS 2 1 rfl rfl (by unfold vp_in; decide) dX5_jump_119 (fun H locs hP hD hS => ?_)
      have hP : va_P (dC, dI) vwCl [(m0, .inr (5, [.int x_thrown, .ref mB, .ref mR, .int x_flags, .ref mO, .int x_outCount, .int x_steps, .ref mN, .int x_nowFlags, .int x_writePlace, .int x_writeSize, .int x_writeValue, .int y_fault_4, .int x_halt, .int x_isByte, .int y_atRegister_5, .int y_atPlace_6])), (mB, .inl (cY, 4096, .inl bf)), (mN, .inl (cN, 8, .inl (upd nf2_7 (7 : Int32).toNatClampNeg y_atPlace_6)))] H := hP
      have hD : va_D A [(m0, .inr (5, [.int x_thrown, .ref mB, .ref mR, .int x_flags, .ref mO, .int x_outCount, .int x_steps, .ref mN, .int x_nowFlags, .int x_writePlace, .int x_writeSize, .int x_writeValue, .int y_fault_4, .int x_halt, .int x_isByte, .int y_atRegister_5, .int y_atPlace_6])), (mB, .inl (cY, 4096, .inl bf)), (mN, .inl (cN, 8, .inl (upd nf2_7 (7 : Int32).toNatClampNeg y_atPlace_6)))] := hD
      have hN_9 : okN y_fault_4 (upd nf2_7 (7 : Int32).toNatClampNeg y_atPlace_6) := okN_or hw_3.2.1 (AT_pl hw_3.2.2.1 (hw_3.2.2.2 (by rw [way_eq]; exact c_1))) _
      generalize (upd nf2_7 (7 : Int32).toNatClampNeg y_atPlace_6) = g_10 at hP hD hN_9
      have hP9 := hP.sub (ws' := [(m0, .inr (5, [.int x_thrown, .ref mB, .ref mR, .int x_flags, .ref mO, .int x_outCount, .int x_steps, .ref mN, .int x_nowFlags, .int x_writePlace, .int x_writeSize, .int x_writeValue, .int y_fault_4, .int x_halt, .int x_isByte, .int y_atRegister_5, .int y_atPlace_6])), (mB, .inl (cY, 4096, .inl bf)), (mN, .inl (cN, 8, .inl g_10))]) [0, 1, 2] rfl
      have hD9 := hD.sub (ws' := [(m0, .inr (5, [.int x_thrown, .ref mB, .ref mR, .int x_flags, .ref mO, .int x_outCount, .int x_steps, .ref mN, .int x_nowFlags, .int x_writePlace, .int x_writeSize, .int x_writeValue, .int y_fault_4, .int x_halt, .int x_isByte, .int y_atRegister_5, .int y_atPlace_6])), (mB, .inl (cY, 4096, .inl bf)), (mN, .inl (cN, 8, .inl g_10))]) [0, 1, 2] (by decide) rfl
      have hK9 := hK.sub (tys' := [(cY, .int), (cN, .int)]) [0, 1] rfl
      exact W.vret hx hb hr (fun t ht hW => ⟨⟨(x_nowFlags, x_writePlace, x_writeSize, x_writeValue, y_fault_4, y_atRegister_5, y_atPlace_6, g_10), rfl, ⟨hw_3.1, hN_9, hWR⟩, by rw [ht]; exact hP9, va_K.moved hW.alike hK9, hD9⟩, hS.F ht⟩) hS.2.2 dX5_jump_120
    · refine lv_aload_n hx hb dX5_jump_33 rfl (lv_at hl 1 rfl) ?_
      refine va_get (D := (dC, dI)) (ci := 5) (v := .int y_fault_4) (C := RX5) (T := TX5) (N := 17) hx hb hts (by decide +kernel) hown hK hP 0 rfl rfl 12 (by decide) (hts (.fieldLink RX5 48 "WordGuestModel" "fault" "I") (by decide +kernel)) (fun _ h9 => h9) rfl dX5_jump_34 ?_
      refine lv_if_ne (tgt := 111) hx hb dX5_jump_37 (by decide) (fun c_11 => ?_) (fun c_11 => ?_)
      · refine lv_aload_n hx hb dX5_jump_111 rfl (lv_at hl 1 rfl) ?_
        refine va_get (D := (dC, dI)) (ci := 5) (v := .ref mN) (C := RX5) (T := TX5) (N := 17) hx hb hts (by decide +kernel) hown hK hP 0 rfl rfl 7 (by decide) (hts (.fieldLink RX5 19 "WordGuestModel" "now" "[I") (by decide +kernel)) (fun _ h9 => h9) rfl dX5_jump_112 ?_
        refine lv_bipush (v := 7) hx hb dX5_jump_115 (by decide) ?_
        refine lv_iload hx hb dX5_jump_117 (lv_at hl 0 rfl) ?_
        refine va_iast hx hb hK hP hD hS 2 1 rfl rfl (by unfold vp_in; decide) dX5_jump_119 (fun H locs hP hD hS => ?_)
        have hP : va_P (dC, dI) vwCl [(m0, .inr (5, [.int x_thrown, .ref mB, .ref mR, .int x_flags, .ref mO, .int x_outCount, .int x_steps, .ref mN, .int x_nowFlags, .int x_writePlace, .int x_writeSize, .int x_writeValue, .int y_fault_4, .int x_halt, .int x_isByte, .int y_atRegister_5, .int y_atPlace_6])), (mB, .inl (cY, 4096, .inl bf)), (mN, .inl (cN, 8, .inl (upd nf2_7 (7 : Int32).toNatClampNeg y_atPlace_6)))] H := hP
        have hD : va_D A [(m0, .inr (5, [.int x_thrown, .ref mB, .ref mR, .int x_flags, .ref mO, .int x_outCount, .int x_steps, .ref mN, .int x_nowFlags, .int x_writePlace, .int x_writeSize, .int x_writeValue, .int y_fault_4, .int x_halt, .int x_isByte, .int y_atRegister_5, .int y_atPlace_6])), (mB, .inl (cY, 4096, .inl bf)), (mN, .inl (cN, 8, .inl (upd nf2_7 (7 : Int32).toNatClampNeg y_atPlace_6)))] := hD
        have hN_12 : okN y_fault_4 (upd nf2_7 (7 : Int32).toNatClampNeg y_atPlace_6) := okN_or (Or.inl (okF_ne hw_3.1 c_11)) (AT_pl hw_3.2.2.1 (hw_3.2.2.2 (by rw [way_eq]; exact c_1))) _
        generalize (upd nf2_7 (7 : Int32).toNatClampNeg y_atPlace_6) = g_13 at hP hD hN_12
        have hP9 := hP.sub (ws' := [(m0, .inr (5, [.int x_thrown, .ref mB, .ref mR, .int x_flags, .ref mO, .int x_outCount, .int x_steps, .ref mN, .int x_nowFlags, .int x_writePlace, .int x_writeSize, .int x_writeValue, .int y_fault_4, .int x_halt, .int x_isByte, .int y_atRegister_5, .int y_atPlace_6])), (mB, .inl (cY, 4096, .inl bf)), (mN, .inl (cN, 8, .inl g_13))]) [0, 1, 2] rfl
        have hD9 := hD.sub (ws' := [(m0, .inr (5, [.int x_thrown, .ref mB, .ref mR, .int x_flags, .ref mO, .int x_outCount, .int x_steps, .ref mN, .int x_nowFlags, .int x_writePlace, .int x_writeSize, .int x_writeValue, .int y_fault_4, .int x_halt, .int x_isByte, .int y_atRegister_5, .int y_atPlace_6])), (mB, .inl (cY, 4096, .inl bf)), (mN, .inl (cN, 8, .inl g_13))]) [0, 1, 2] (by decide) rfl
        have hK9 := hK.sub (tys' := [(cY, .int), (cN, .int)]) [0, 1] rfl
        exact W.vret hx hb hr (fun t ht hW => ⟨⟨(x_nowFlags, x_writePlace, x_writeSize, x_writeValue, y_fault_4, y_atRegister_5, y_atPlace_6, g_13), rfl, ⟨hw_3.1, hN_12, hWR⟩, by rw [ht]; exact hP9, va_K.moved hW.alike hK9, hD9⟩, hS.F ht⟩) hS.2.2 dX5_jump_120
      · refine lv_aload_n hx hb dX5_jump_40 rfl (lv_at hl 1 rfl) ?_
        refine lv_bipush (v := 6) hx hb dX5_jump_41 (by decide) ?_
        refine lv_bipush (v := (-2)) hx hb dX5_jump_43 (by decide) ?_
        have hPc := hP.sub (ws' := [(m0, .inr (5, [.int x_thrown, .ref mB, .ref mR, .int x_flags, .ref mO, .int x_outCount, .int x_steps, .ref mN, .int x_nowFlags, .int x_writePlace, .int x_writeSize, .int x_writeValue, .int y_fault_4, .int x_halt, .int x_isByte, .int y_atRegister_5, .int y_atPlace_6])), (mN, .inl (cN, 8, .inl nf2_7))]) [0, 2] rfl
        have hDc := hD.sub (ws' := [(m0, .inr (5, [.int x_thrown, .ref mB, .ref mR, .int x_flags, .ref mO, .int x_outCount, .int x_steps, .ref mN, .int x_nowFlags, .int x_writePlace, .int x_writeSize, .int x_writeValue, .int y_fault_4, .int x_halt, .int x_isByte, .int y_atRegister_5, .int y_atPlace_6])), (mN, .inl (cN, 8, .inl nf2_7))]) [0, 2] (by decide) rfl
        have hKc := hK.sub (tys' := [(cN, .int)]) [1] rfl
        have hFc := va_free (wc := [(m0, .inr (5, [.int x_thrown, .ref mB, .ref mR, .int x_flags, .ref mO, .int x_outCount, .int x_steps, .ref mN, .int x_nowFlags, .int x_writePlace, .int x_writeSize, .int x_writeValue, .int y_fault_4, .int x_halt, .int x_isByte, .int y_atRegister_5, .int y_atPlace_6])), (mN, .inl (cN, 8, .inl nf2_7))]) hD hS hA [0, 2] rfl
        refine va_callv (va_runV (C := RX5) (b := m0) (As := [.int 6, .int (-2)]) (rest := []) ⟨hx, hb, hml, hown, hts⟩ (s_X5_move l dC dI H.size m0 (6 : Int32) ((-2) : Int32) x_thrown mB mR x_flags mO x_outCount x_steps mN x_nowFlags x_writePlace x_writeSize x_writeValue y_fault_4 x_halt x_isByte y_atRegister_5 y_atPlace_6 cN nf2_7 hw_3.2.1 (by unfold vp_in; decide)) (cwV 2 hts gX5_jump_X5_move rfl rfl rfl (by decide +kernel) ⟨Nat.le_of_ble_eq_true rfl, Nat.le_of_ble_eq_true rfl⟩) ⟨q_blind, va_recv hK hP (ci := 5) (q0 := 0) rfl rfl, fun U hU hW => ⟨rfl, q_pay hU hW hPc hKc hDc hN⟩⟩ rfl rfl hl.1 rfl (lv_room (Nat.le_of_ble_eq_true rfl)) dX5_jump_45 ⟨show 0 + 0 ≤ 0 from by omega, show 0 + 0 ≤ 0 from by omega⟩) hS (fun q _ h => hFc q h) hFc (fun u9 t H locs ht hvm hw_15 hB hz1 hk1 hS => ?_)
        obtain ⟨nf2_16, rfl⟩ : ∃ z, z = u9 := ⟨_, rfl⟩
        obtain ⟨hP1, hK1, hD1⟩ := hB
        rw [ht] at hP1
        obtain ⟨hP, hD⟩ := va_join (wr := [(mB, .inl (cY, 4096, .inl bf))]) (w1 := [(m0, .inr (5, [.int x_thrown, .ref mB, .ref mR, .int x_flags, .ref mO, .int x_outCount, .int x_steps, .ref mN, .int x_nowFlags, .int x_writePlace, .int x_writeSize, .int x_writeValue, .int y_fault_4, .int x_halt, .int x_isByte, .int y_atRegister_5, .int y_atPlace_6])), (mN, .inl (cN, 8, .inl nf2_16))]) hP hD [0, 2] [1] rfl rfl (by decide) (by decide) hk1 hFc hP1 hD1
        have hP : va_P (dC, dI) vwCl [(mB, .inl (cY, 4096, .inl bf)), (m0, .inr (5, [.int x_thrown, .ref mB, .ref mR, .int x_flags, .ref mO, .int x_outCount, .int x_steps, .ref mN, .int x_nowFlags, .int x_writePlace, .int x_writeSize, .int x_writeValue, .int y_fault_4, .int x_halt, .int x_isByte, .int y_atRegister_5, .int y_atPlace_6])), (mN, .inl (cN, 8, .inl nf2_16))] H := hP
        have hD : va_D A [(mB, .inl (cY, 4096, .inl bf)), (m0, .inr (5, [.int x_thrown, .ref mB, .ref mR, .int x_flags, .ref mO, .int x_outCount, .int x_steps, .ref mN, .int x_nowFlags, .int x_writePlace, .int x_writeSize, .int x_writeValue, .int y_fault_4, .int x_halt, .int x_isByte, .int y_atRegister_5, .int y_atPlace_6])), (mN, .inl (cN, 8, .inl nf2_16))] := hD
        refine W.widen (k := 0) (n := 0) (by omega) (by omega) ?_
        try dsimp only at hw_15
        refine lv_aload_n hx hb dX5_jump_48 rfl (lv_at hl 1 rfl) ?_
        refine va_get (D := (dC, dI)) (ci := 5) (v := .ref mN) (C := RX5) (T := TX5) (N := 17) hx hb hts (by decide +kernel) hown hK hP 1 rfl rfl 7 (by decide) (hts (.fieldLink RX5 19 "WordGuestModel" "now" "[I") (by decide +kernel)) (fun _ h9 => h9) rfl dX5_jump_49 ?_
        refine lv_iload_n hx hb dX5_jump_52 rfl (lv_at hl 2 rfl) ?_
        refine va_iald hx hb hK hP 2 1 rfl rfl hr9 dX5_jump_53 ?_
        have hw_17 : isW (nf2_16 rr.toNatClampNeg) := okN_at hw_15 (fz c_11) hr9
        refine lv_istore (lv' := [(5, .int (nf2_16 rr.toNatClampNeg)), (4, .int y_atPlace_6), (0, .ref m0), (1, .int rr), (2, .int wd), (3, .int pt)]) hx hb dX5_jump_54 hl (by decide) rfl (fun ls hl => ?_)
        refine lv_aload_n hx hb dX5_jump_56 rfl (lv_at hl 2 rfl) ?_
        refine lv_aload_n hx hb dX5_jump_57 rfl (lv_at hl 2 rfl) ?_
        refine va_get (D := (dC, dI)) (ci := 5) (v := .ref mN) (C := RX5) (T := TX5) (N := 17) hx hb hts (by decide +kernel) hown hK hP 1 rfl rfl 7 (by decide) (hts (.fieldLink RX5 19 "WordGuestModel" "now" "[I") (by decide +kernel)) (fun _ h9 => h9) rfl dX5_jump_58 ?_
        refine lv_bipush (v := 6) hx hb dX5_jump_61 (by decide) ?_
        refine va_iald hx hb hK hP 2 1 rfl rfl (by unfold vp_in; decide) dX5_jump_63 ?_
        have hw_18 : isW (nf2_16 (6 : Int32).toNatClampNeg) := okN_at hw_15 (fz c_11) (by unfold vp_in; decide)
        refine lv_iconst (v := 0) hx hb dX5_jump_64 (by decide) ?_
        have hPc := hP.sub (ws' := [(m0, .inr (5, [.int x_thrown, .ref mB, .ref mR, .int x_flags, .ref mO, .int x_outCount, .int x_steps, .ref mN, .int x_nowFlags, .int x_writePlace, .int x_writeSize, .int x_writeValue, .int y_fault_4, .int x_halt, .int x_isByte, .int y_atRegister_5, .int y_atPlace_6])), (mB, .inl (cY, 4096, .inl bf))]) [1, 0] rfl
        have hDc := hD.sub (ws' := [(m0, .inr (5, [.int x_thrown, .ref mB, .ref mR, .int x_flags, .ref mO, .int x_outCount, .int x_steps, .ref mN, .int x_nowFlags, .int x_writePlace, .int x_writeSize, .int x_writeValue, .int y_fault_4, .int x_halt, .int x_isByte, .int y_atRegister_5, .int y_atPlace_6])), (mB, .inl (cY, 4096, .inl bf))]) [1, 0] (by decide) rfl
        have hKc := hK.sub (tys' := [(cY, .int)]) [0] rfl
        have hFc := va_free (wc := [(m0, .inr (5, [.int x_thrown, .ref mB, .ref mR, .int x_flags, .ref mO, .int x_outCount, .int x_steps, .ref mN, .int x_nowFlags, .int x_writePlace, .int x_writeSize, .int x_writeValue, .int y_fault_4, .int x_halt, .int x_isByte, .int y_atRegister_5, .int y_atPlace_6])), (mB, .inl (cY, 4096, .inl bf))]) hD hS hA [1, 0] rfl
        refine va_calli (va_runV (C := RX5) (b := m0) (As := [.int (nf2_16 (6 : Int32).toNatClampNeg), .int 0]) (rest := []) ⟨hx, hb, hml, hown, hts⟩ (s_X5_read l dC dI H.size m0 (nf2_16 (6 : Int32).toNatClampNeg) (0 : Int32) x_thrown mB mR x_flags mO x_outCount x_steps mN x_nowFlags x_writePlace x_writeSize x_writeValue y_fault_4 x_halt x_isByte y_atRegister_5 y_atPlace_6 cY bf hw_3.1 hB (Or.inr hw_18)) (cwV 2 hts gX5_jump_X5_read rfl rfl rfl (by decide +kernel) ⟨Nat.le_of_ble_eq_true rfl, Nat.le_of_ble_eq_true rfl⟩) ⟨q_blind, va_recv hK hP (ci := 5) (q0 := 1) rfl rfl, fun U hU hW => ⟨rfl, q_pay hU hW hPc hKc hDc hN⟩⟩ rfl rfl hl.1 rfl (lv_room (Nat.le_of_ble_eq_true rfl)) dX5_jump_65 ⟨show 0 + 0 ≤ 0 from by omega, show 0 + 0 ≤ 0 from by omega⟩) hS (fun q _ h => hFc q h) hFc (fun r_19 u9 t H locs ht hvm hw_20 hB hz1 hk1 hS => ?_)
        obtain ⟨y_fault_21, rfl⟩ : ∃ z, z = u9 := ⟨_, rfl⟩
        obtain ⟨hP1, hK1, hD1⟩ := hB
        rw [ht] at hP1
        obtain ⟨hP, hD⟩ := va_join (wr := [(mN, .inl (cN, 8, .inl nf2_16))]) (w1 := [(m0, .inr (5, [.int x_thrown, .ref mB, .ref mR, .int x_flags, .ref mO, .int x_outCount, .int x_steps, .ref mN, .int x_nowFlags, .int x_writePlace, .int x_writeSize, .int x_writeValue, .int y_fault_21, .int x_halt, .int x_isByte, .int y_atRegister_5, .int y_atPlace_6])), (mB, .inl (cY, 4096, .inl bf))]) hP hD [1, 0] [2] rfl rfl (by decide) (by decide) hk1 hFc hP1 hD1
        have hP : va_P (dC, dI) vwCl [(mN, .inl (cN, 8, .inl nf2_16)), (m0, .inr (5, [.int x_thrown, .ref mB, .ref mR, .int x_flags, .ref mO, .int x_outCount, .int x_steps, .ref mN, .int x_nowFlags, .int x_writePlace, .int x_writeSize, .int x_writeValue, .int y_fault_21, .int x_halt, .int x_isByte, .int y_atRegister_5, .int y_atPlace_6])), (mB, .inl (cY, 4096, .inl bf))] H := hP
        have hD : va_D A [(mN, .inl (cN, 8, .inl nf2_16)), (m0, .inr (5, [.int x_thrown, .ref mB, .ref mR, .int x_flags, .ref mO, .int x_outCount, .int x_steps, .ref mN, .int x_nowFlags, .int x_writePlace, .int x_writeSize, .int x_writeValue, .int y_fault_21, .int x_halt, .int x_isByte, .int y_atRegister_5, .int y_atPlace_6])), (mB, .inl (cY, 4096, .inl bf))] := hD
        refine W.widen (k := 0) (n := 0) (by omega) (by omega) ?_
        try dsimp only at hw_20
        refine lv_pop hx hb dX5_jump_68 rfl ?_
        refine lv_aload_n hx hb dX5_jump_69 rfl (lv_at hl 2 rfl) ?_
        refine va_get (D := (dC, dI)) (ci := 5) (v := .int y_fault_21) (C := RX5) (T := TX5) (N := 17) hx hb hts (by decide +kernel) hown hK hP 1 rfl rfl 12 (by decide) (hts (.fieldLink RX5 48 "WordGuestModel" "fault" "I") (by decide +kernel)) (fun _ h9 => h9) rfl dX5_jump_70 ?_
        refine lv_if_ne (tgt := 98) hx hb dX5_jump_73 (by decide) (fun c_22 => ?_) (fun c_22 => ?_)
        · refine lv_aload_n hx hb dX5_jump_98 rfl (lv_at hl 2 rfl) ?_
          refine va_get (D := (dC, dI)) (ci := 5) (v := .ref mN) (C := RX5) (T := TX5) (N := 17) hx hb hts (by decide +kernel) hown hK hP 1 rfl rfl 7 (by decide) (hts (.fieldLink RX5 19 "WordGuestModel" "now" "[I") (by decide +kernel)) (fun _ h9 => h9) rfl dX5_jump_99 ?_
          refine lv_iload_n hx hb dX5_jump_102 rfl (lv_at hl 3 rfl) ?_
          refine lv_aload_n hx hb dX5_jump_103 rfl (lv_at hl 2 rfl) ?_
          refine va_get (D := (dC, dI)) (ci := 5) (v := .ref mN) (C := RX5) (T := TX5) (N := 17) hx hb hts (by decide +kernel) hown hK hP 1 rfl rfl 7 (by decide) (hts (.fieldLink RX5 19 "WordGuestModel" "now" "[I") (by decide +kernel)) (fun _ h9 => h9) rfl dX5_jump_104 ?_
          refine lv_bipush (v := 7) hx hb dX5_jump_107 (by decide) ?_
          refine va_iald hx hb hK hP 0 1 rfl rfl (by unfold vp_in; decide) dX5_jump_109 ?_
          refine va_iast hx hb hK hP hD hS 0 1 rfl rfl hr9 dX5_jump_110 (fun H locs hP hD hS => ?_)
          have hP : va_P (dC, dI) vwCl [(mN, .inl (cN, 8, .inl (upd nf2_16 rr.toNatClampNeg (nf2_16 (7 : Int32).toNatClampNeg)))), (m0, .inr (5, [.int x_thrown, .ref mB, .ref mR, .int x_flags, .ref mO, .int x_outCount, .int x_steps, .ref mN, .int x_nowFlags, .int x_writePlace, .int x_writeSize, .int x_writeValue, .int y_fault_21, .int x_halt, .int x_isByte, .int y_atRegister_5, .int y_atPlace_6])), (mB, .inl (cY, 4096, .inl bf))] H := hP
          have hD : va_D A [(mN, .inl (cN, 8, .inl (upd nf2_16 rr.toNatClampNeg (nf2_16 (7 : Int32).toNatClampNeg)))), (m0, .inr (5, [.int x_thrown, .ref mB, .ref mR, .int x_flags, .ref mO, .int x_outCount, .int x_steps, .ref mN, .int x_nowFlags, .int x_writePlace, .int x_writeSize, .int x_writeValue, .int y_fault_21, .int x_halt, .int x_isByte, .int y_atRegister_5, .int y_atPlace_6])), (mB, .inl (cY, 4096, .inl bf))] := hD
          have hN_23 : okN y_fault_21 (upd nf2_16 rr.toNatClampNeg (nf2_16 (7 : Int32).toNatClampNeg)) := Or.inl (okF_ne hw_20.1 c_22)
          generalize (upd nf2_16 rr.toNatClampNeg (nf2_16 (7 : Int32).toNatClampNeg)) = g_24 at hP hD hN_23
          refine lv_aload_n hx hb dX5_jump_111 rfl (lv_at hl 2 rfl) ?_
          refine va_get (D := (dC, dI)) (ci := 5) (v := .ref mN) (C := RX5) (T := TX5) (N := 17) hx hb hts (by decide +kernel) hown hK hP 1 rfl rfl 7 (by decide) (hts (.fieldLink RX5 19 "WordGuestModel" "now" "[I") (by decide +kernel)) (fun _ h9 => h9) rfl dX5_jump_112 ?_
          refine lv_bipush (v := 7) hx hb dX5_jump_115 (by decide) ?_
          refine lv_iload hx hb dX5_jump_117 (lv_at hl 1 rfl) ?_
          refine va_iast hx hb hK hP hD hS 0 1 rfl rfl (by unfold vp_in; decide) dX5_jump_119 (fun H locs hP hD hS => ?_)
          have hP : va_P (dC, dI) vwCl [(mN, .inl (cN, 8, .inl (upd g_24 (7 : Int32).toNatClampNeg y_atPlace_6))), (m0, .inr (5, [.int x_thrown, .ref mB, .ref mR, .int x_flags, .ref mO, .int x_outCount, .int x_steps, .ref mN, .int x_nowFlags, .int x_writePlace, .int x_writeSize, .int x_writeValue, .int y_fault_21, .int x_halt, .int x_isByte, .int y_atRegister_5, .int y_atPlace_6])), (mB, .inl (cY, 4096, .inl bf))] H := hP
          have hD : va_D A [(mN, .inl (cN, 8, .inl (upd g_24 (7 : Int32).toNatClampNeg y_atPlace_6))), (m0, .inr (5, [.int x_thrown, .ref mB, .ref mR, .int x_flags, .ref mO, .int x_outCount, .int x_steps, .ref mN, .int x_nowFlags, .int x_writePlace, .int x_writeSize, .int x_writeValue, .int y_fault_21, .int x_halt, .int x_isByte, .int y_atRegister_5, .int y_atPlace_6])), (mB, .inl (cY, 4096, .inl bf))] := hD
          have hN_25 : okN y_fault_21 (upd g_24 (7 : Int32).toNatClampNeg y_atPlace_6) := okN_or hN_23 (or_mono (AT_pl hw_3.2.2.1 (hw_3.2.2.2 (by rw [way_eq]; exact c_1))) hw_20.2.1) _
          generalize (upd g_24 (7 : Int32).toNatClampNeg y_atPlace_6) = g_26 at hP hD hN_25
          have hP9 := hP.sub (ws' := [(m0, .inr (5, [.int x_thrown, .ref mB, .ref mR, .int x_flags, .ref mO, .int x_outCount, .int x_steps, .ref mN, .int x_nowFlags, .int x_writePlace, .int x_writeSize, .int x_writeValue, .int y_fault_21, .int x_halt, .int x_isByte, .int y_atRegister_5, .int y_atPlace_6])), (mB, .inl (cY, 4096, .inl bf)), (mN, .inl (cN, 8, .inl g_26))]) [1, 2, 0] rfl
          have hD9 := hD.sub (ws' := [(m0, .inr (5, [.int x_thrown, .ref mB, .ref mR, .int x_flags, .ref mO, .int x_outCount, .int x_steps, .ref mN, .int x_nowFlags, .int x_writePlace, .int x_writeSize, .int x_writeValue, .int y_fault_21, .int x_halt, .int x_isByte, .int y_atRegister_5, .int y_atPlace_6])), (mB, .inl (cY, 4096, .inl bf)), (mN, .inl (cN, 8, .inl g_26))]) [1, 2, 0] (by decide) rfl
          have hK9 := hK.sub (tys' := [(cY, .int), (cN, .int)]) [0, 1] rfl
          exact W.vret hx hb hr (fun t ht hW => ⟨⟨(x_nowFlags, x_writePlace, x_writeSize, x_writeValue, y_fault_21, y_atRegister_5, y_atPlace_6, g_26), rfl, ⟨hw_20.1, hN_25, hWR⟩, by rw [ht]; exact hP9, va_K.moved hW.alike hK9, hD9⟩, hS.F ht⟩) hS.2.2 dX5_jump_120
        · refine lv_aload_n hx hb dX5_jump_76 rfl (lv_at hl 2 rfl) ?_
          refine lv_aload_n hx hb dX5_jump_77 rfl (lv_at hl 2 rfl) ?_
          refine va_get (D := (dC, dI)) (ci := 5) (v := .ref mN) (C := RX5) (T := TX5) (N := 17) hx hb hts (by decide +kernel) hown hK hP 1 rfl rfl 7 (by decide) (hts (.fieldLink RX5 19 "WordGuestModel" "now" "[I") (by decide +kernel)) (fun _ h9 => h9) rfl dX5_jump_78 ?_
          refine lv_bipush (v := 6) hx hb dX5_jump_81 (by decide) ?_
          refine va_iald hx hb hK hP 0 1 rfl rfl (by unfold vp_in; decide) dX5_jump_83 ?_
          have hw_27 : isW (nf2_16 (6 : Int32).toNatClampNeg) := okN_at (okN_mono hw_15 hw_20.2.1) (fz c_22) (by unfold vp_in; decide)
          refine va_put (D := (dC, dI)) (ci := 5) (v := .int (nf2_16 (6 : Int32).toNatClampNeg)) (ty := .int) (C := RX5) (T := TX5) (N := 17) hx hb hts (by decide +kernel) tyX5 tyX5_ok nmX5 hown hK hP hD hS 1 rfl rfl 9 (by decide) (hts (.fieldLink RX5 77 "WordGuestModel" "writePlace" "I") (by decide +kernel)) (fun _ h9 => h9) rfl (by decide +kernel) rfl rfl (Nat.le_of_ble_eq_true rfl) dX5_jump_84 (fun H locs hP hD hS => ?_)
          have hP : va_P (dC, dI) vwCl [(mN, .inl (cN, 8, .inl nf2_16)), (m0, .inr (5, [.int x_thrown, .ref mB, .ref mR, .int x_flags, .ref mO, .int x_outCount, .int x_steps, .ref mN, .int x_nowFlags, .int (nf2_16 (6 : Int32).toNatClampNeg), .int x_writeSize, .int x_writeValue, .int y_fault_21, .int x_halt, .int x_isByte, .int y_atRegister_5, .int y_atPlace_6])), (mB, .inl (cY, 4096, .inl bf))] H := hP
          have hD : va_D A [(mN, .inl (cN, 8, .inl nf2_16)), (m0, .inr (5, [.int x_thrown, .ref mB, .ref mR, .int x_flags, .ref mO, .int x_outCount, .int x_steps, .ref mN, .int x_nowFlags, .int (nf2_16 (6 : Int32).toNatClampNeg), .int x_writeSize, .int x_writeValue, .int y_fault_21, .int x_halt, .int x_isByte, .int y_atRegister_5, .int y_atPlace_6])), (mB, .inl (cY, 4096, .inl bf))] := hD
          refine lv_aload_n hx hb dX5_jump_87 rfl (lv_at hl 2 rfl) ?_
          refine lv_iconst (v := 2) hx hb dX5_jump_88 (by decide) ?_
          refine va_put (D := (dC, dI)) (ci := 5) (v := .int 2) (ty := .int) (C := RX5) (T := TX5) (N := 17) hx hb hts (by decide +kernel) tyX5 tyX5_ok nmX5 hown hK hP hD hS 1 rfl rfl 10 (by decide) (hts (.fieldLink RX5 80 "WordGuestModel" "writeSize" "I") (by decide +kernel)) (fun _ h9 => h9) rfl (by decide +kernel) rfl rfl (Nat.le_of_ble_eq_true rfl) dX5_jump_89 (fun H locs hP hD hS => ?_)
          have hP : va_P (dC, dI) vwCl [(mN, .inl (cN, 8, .inl nf2_16)), (m0, .inr (5, [.int x_thrown, .ref mB, .ref mR, .int x_flags, .ref mO, .int x_outCount, .int x_steps, .ref mN, .int x_nowFlags, .int (nf2_16 (6 : Int32).toNatClampNeg), .int 2, .int x_writeValue, .int y_fault_21, .int x_halt, .int x_isByte, .int y_atRegister_5, .int y_atPlace_6])), (mB, .inl (cY, 4096, .inl bf))] H := hP
          have hD : va_D A [(mN, .inl (cN, 8, .inl nf2_16)), (m0, .inr (5, [.int x_thrown, .ref mB, .ref mR, .int x_flags, .ref mO, .int x_outCount, .int x_steps, .ref mN, .int x_nowFlags, .int (nf2_16 (6 : Int32).toNatClampNeg), .int 2, .int x_writeValue, .int y_fault_21, .int x_halt, .int x_isByte, .int y_atRegister_5, .int y_atPlace_6])), (mB, .inl (cY, 4096, .inl bf))] := hD
          refine lv_aload_n hx hb dX5_jump_92 rfl (lv_at hl 2 rfl) ?_
          refine lv_iload hx hb dX5_jump_93 (lv_at hl 0 rfl) ?_
          refine va_put (D := (dC, dI)) (ci := 5) (v := .int (nf2_16 rr.toNatClampNeg)) (ty := .int) (C := RX5) (T := TX5) (N := 17) hx hb hts (by decide +kernel) tyX5 tyX5_ok nmX5 hown hK hP hD hS 1 rfl rfl 11 (by decide) (hts (.fieldLink RX5 83 "WordGuestModel" "writeValue" "I") (by decide +kernel)) (fun _ h9 => h9) rfl (by decide +kernel) rfl rfl (Nat.le_of_ble_eq_true rfl) dX5_jump_95 (fun H locs hP hD hS => ?_)
          have hP : va_P (dC, dI) vwCl [(mN, .inl (cN, 8, .inl nf2_16)), (m0, .inr (5, [.int x_thrown, .ref mB, .ref mR, .int x_flags, .ref mO, .int x_outCount, .int x_steps, .ref mN, .int x_nowFlags, .int (nf2_16 (6 : Int32).toNatClampNeg), .int 2, .int (nf2_16 rr.toNatClampNeg), .int y_fault_21, .int x_halt, .int x_isByte, .int y_atRegister_5, .int y_atPlace_6])), (mB, .inl (cY, 4096, .inl bf))] H := hP
          have hD : va_D A [(mN, .inl (cN, 8, .inl nf2_16)), (m0, .inr (5, [.int x_thrown, .ref mB, .ref mR, .int x_flags, .ref mO, .int x_outCount, .int x_steps, .ref mN, .int x_nowFlags, .int (nf2_16 (6 : Int32).toNatClampNeg), .int 2, .int (nf2_16 rr.toNatClampNeg), .int y_fault_21, .int x_halt, .int x_isByte, .int y_atRegister_5, .int y_atPlace_6])), (mB, .inl (cY, 4096, .inl bf))] := hD
          refine lv_aload_n hx hb dX5_jump_98 rfl (lv_at hl 2 rfl) ?_
          refine va_get (D := (dC, dI)) (ci := 5) (v := .ref mN) (C := RX5) (T := TX5) (N := 17) hx hb hts (by decide +kernel) hown hK hP 1 rfl rfl 7 (by decide) (hts (.fieldLink RX5 19 "WordGuestModel" "now" "[I") (by decide +kernel)) (fun _ h9 => h9) rfl dX5_jump_99 ?_
          refine lv_iload_n hx hb dX5_jump_102 rfl (lv_at hl 3 rfl) ?_
          refine lv_aload_n hx hb dX5_jump_103 rfl (lv_at hl 2 rfl) ?_
          refine va_get (D := (dC, dI)) (ci := 5) (v := .ref mN) (C := RX5) (T := TX5) (N := 17) hx hb hts (by decide +kernel) hown hK hP 1 rfl rfl 7 (by decide) (hts (.fieldLink RX5 19 "WordGuestModel" "now" "[I") (by decide +kernel)) (fun _ h9 => h9) rfl dX5_jump_104 ?_
          refine lv_bipush (v := 7) hx hb dX5_jump_107 (by decide) ?_
          refine va_iald hx hb hK hP 0 1 rfl rfl (by unfold vp_in; decide) dX5_jump_109 ?_
          have hw_28 : isW (nf2_16 (7 : Int32).toNatClampNeg) := okN_at (okN_mono hw_15 hw_20.2.1) (fz c_22) (by unfold vp_in; decide)
          refine va_iast hx hb hK hP hD hS 0 1 rfl rfl hr9 dX5_jump_110 (fun H locs hP hD hS => ?_)
          have hP : va_P (dC, dI) vwCl [(mN, .inl (cN, 8, .inl (upd nf2_16 rr.toNatClampNeg (nf2_16 (7 : Int32).toNatClampNeg)))), (m0, .inr (5, [.int x_thrown, .ref mB, .ref mR, .int x_flags, .ref mO, .int x_outCount, .int x_steps, .ref mN, .int x_nowFlags, .int (nf2_16 (6 : Int32).toNatClampNeg), .int 2, .int (nf2_16 rr.toNatClampNeg), .int y_fault_21, .int x_halt, .int x_isByte, .int y_atRegister_5, .int y_atPlace_6])), (mB, .inl (cY, 4096, .inl bf))] H := hP
          have hD : va_D A [(mN, .inl (cN, 8, .inl (upd nf2_16 rr.toNatClampNeg (nf2_16 (7 : Int32).toNatClampNeg)))), (m0, .inr (5, [.int x_thrown, .ref mB, .ref mR, .int x_flags, .ref mO, .int x_outCount, .int x_steps, .ref mN, .int x_nowFlags, .int (nf2_16 (6 : Int32).toNatClampNeg), .int 2, .int (nf2_16 rr.toNatClampNeg), .int y_fault_21, .int x_halt, .int x_isByte, .int y_atRegister_5, .int y_atPlace_6])), (mB, .inl (cY, 4096, .inl bf))] := hD
          have hN_29 : okN y_fault_21 (upd nf2_16 rr.toNatClampNeg (nf2_16 (7 : Int32).toNatClampNeg)) := okN_upd (okN_mono hw_15 hw_20.2.1) hw_28 _
          generalize (upd nf2_16 rr.toNatClampNeg (nf2_16 (7 : Int32).toNatClampNeg)) = g_30 at hP hD hN_29
          refine lv_aload_n hx hb dX5_jump_111 rfl (lv_at hl 2 rfl) ?_
          refine va_get (D := (dC, dI)) (ci := 5) (v := .ref mN) (C := RX5) (T := TX5) (N := 17) hx hb hts (by decide +kernel) hown hK hP 1 rfl rfl 7 (by decide) (hts (.fieldLink RX5 19 "WordGuestModel" "now" "[I") (by decide +kernel)) (fun _ h9 => h9) rfl dX5_jump_112 ?_
          refine lv_bipush (v := 7) hx hb dX5_jump_115 (by decide) ?_
          refine lv_iload hx hb dX5_jump_117 (lv_at hl 1 rfl) ?_
          refine va_iast hx hb hK hP hD hS 0 1 rfl rfl (by unfold vp_in; decide) dX5_jump_119 (fun H locs hP hD hS => ?_)
          have hP : va_P (dC, dI) vwCl [(mN, .inl (cN, 8, .inl (upd g_30 (7 : Int32).toNatClampNeg y_atPlace_6))), (m0, .inr (5, [.int x_thrown, .ref mB, .ref mR, .int x_flags, .ref mO, .int x_outCount, .int x_steps, .ref mN, .int x_nowFlags, .int (nf2_16 (6 : Int32).toNatClampNeg), .int 2, .int (nf2_16 rr.toNatClampNeg), .int y_fault_21, .int x_halt, .int x_isByte, .int y_atRegister_5, .int y_atPlace_6])), (mB, .inl (cY, 4096, .inl bf))] H := hP
          have hD : va_D A [(mN, .inl (cN, 8, .inl (upd g_30 (7 : Int32).toNatClampNeg y_atPlace_6))), (m0, .inr (5, [.int x_thrown, .ref mB, .ref mR, .int x_flags, .ref mO, .int x_outCount, .int x_steps, .ref mN, .int x_nowFlags, .int (nf2_16 (6 : Int32).toNatClampNeg), .int 2, .int (nf2_16 rr.toNatClampNeg), .int y_fault_21, .int x_halt, .int x_isByte, .int y_atRegister_5, .int y_atPlace_6])), (mB, .inl (cY, 4096, .inl bf))] := hD
          have hN_31 : okN y_fault_21 (upd g_30 (7 : Int32).toNatClampNeg y_atPlace_6) := okN_or hN_29 (or_mono (AT_pl hw_3.2.2.1 (hw_3.2.2.2 (by rw [way_eq]; exact c_1))) hw_20.2.1) _
          generalize (upd g_30 (7 : Int32).toNatClampNeg y_atPlace_6) = g_32 at hP hD hN_31
          have hP9 := hP.sub (ws' := [(m0, .inr (5, [.int x_thrown, .ref mB, .ref mR, .int x_flags, .ref mO, .int x_outCount, .int x_steps, .ref mN, .int x_nowFlags, .int (nf2_16 (6 : Int32).toNatClampNeg), .int 2, .int (nf2_16 rr.toNatClampNeg), .int y_fault_21, .int x_halt, .int x_isByte, .int y_atRegister_5, .int y_atPlace_6])), (mB, .inl (cY, 4096, .inl bf)), (mN, .inl (cN, 8, .inl g_32))]) [1, 2, 0] rfl
          have hD9 := hD.sub (ws' := [(m0, .inr (5, [.int x_thrown, .ref mB, .ref mR, .int x_flags, .ref mO, .int x_outCount, .int x_steps, .ref mN, .int x_nowFlags, .int (nf2_16 (6 : Int32).toNatClampNeg), .int 2, .int (nf2_16 rr.toNatClampNeg), .int y_fault_21, .int x_halt, .int x_isByte, .int y_atRegister_5, .int y_atPlace_6])), (mB, .inl (cY, 4096, .inl bf)), (mN, .inl (cN, 8, .inl g_32))]) [1, 2, 0] (by decide) rfl
          have hK9 := hK.sub (tys' := [(cY, .int), (cN, .int)]) [0, 1] rfl
          exact W.vret hx hb hr (fun t ht hW => ⟨⟨(x_nowFlags, nf2_16 (6 : Int32).toNatClampNeg, 2, nf2_16 rr.toNatClampNeg, y_fault_21, y_atRegister_5, y_atPlace_6, g_32), rfl, ⟨hw_20.1, hN_31, (Or.inr (Or.inr ⟨rfl, (hw_20.2.2.2.1 (fz c_22)).1, (hw_20.2.2.2.1 (fz c_22)).2 rfl⟩))⟩, by rw [ht]; exact hP9, va_K.moved hW.alike hK9, hD9⟩, hS.F ht⟩) hS.2.2 dX5_jump_120
  · refine lv_aload_n hx hb dX5_jump_9 rfl (lv_at hl 0 rfl) ?_
    refine lv_iconst (v := 4) hx hb dX5_jump_10 (by decide) ?_
    have hPc := hP.sub (ws' := [(m0, .inr (5, [.int x_thrown, .ref mB, .ref mR, .int x_flags, .ref mO, .int x_outCount, .int x_steps, .ref mN, .int x_nowFlags, .int x_writePlace, .int x_writeSize, .int x_writeValue, .int x_fault, .int x_halt, .int x_isByte, .int x_atRegister, .int x_atPlace]))]) [0] rfl
    have hDc := hD.sub (ws' := [(m0, .inr (5, [.int x_thrown, .ref mB, .ref mR, .int x_flags, .ref mO, .int x_outCount, .int x_steps, .ref mN, .int x_nowFlags, .int x_writePlace, .int x_writeSize, .int x_writeValue, .int x_fault, .int x_halt, .int x_isByte, .int x_atRegister, .int x_atPlace]))]) [0] (by decide) rfl
    have hKc := hK.sub (tys' := []) [] rfl
    have hFc := va_free (wc := [(m0, .inr (5, [.int x_thrown, .ref mB, .ref mR, .int x_flags, .ref mO, .int x_outCount, .int x_steps, .ref mN, .int x_nowFlags, .int x_writePlace, .int x_writeSize, .int x_writeValue, .int x_fault, .int x_halt, .int x_isByte, .int x_atRegister, .int x_atPlace]))]) hD hS hA [0] rfl
    refine va_callv (va_runV (C := RX5) (b := m0) (As := [.int 4]) (rest := []) ⟨hx, hb, hml, hown, hts⟩ (s_X5_fail l dC dI s.heap.size m0 (4 : Int32) x_thrown mB mR x_flags mO x_outCount x_steps mN x_nowFlags x_writePlace x_writeSize x_writeValue x_fault x_halt x_isByte x_atRegister x_atPlace hF (by decide)) (cwV 1 hts gX5_jump_X5_fail rfl rfl rfl (by decide +kernel) ⟨Nat.le_of_ble_eq_true rfl, Nat.le_of_ble_eq_true rfl⟩) ⟨q_blind, va_recv hK hP (ci := 5) (q0 := 0) rfl rfl, fun U hU hW => ⟨rfl, q_pay hU hW hPc hKc hDc hN⟩⟩ rfl rfl hl.1 rfl (lv_room (Nat.le_of_ble_eq_true rfl)) dX5_jump_11 ⟨show 0 + 0 ≤ 0 from by omega, show 0 + 0 ≤ 0 from by omega⟩) hS (fun q _ h => hFc q h) hFc (fun u9 t H locs ht hvm hw_34 hB hz1 hk1 hS => ?_)
    obtain ⟨y_fault_35, rfl⟩ : ∃ z, z = u9 := ⟨_, rfl⟩
    obtain ⟨hP1, hK1, hD1⟩ := hB
    rw [ht] at hP1
    obtain ⟨hP, hD⟩ := va_join (wr := [(mB, .inl (cY, 4096, .inl bf)), (mN, .inl (cN, 8, .inl nf))]) (w1 := [(m0, .inr (5, [.int x_thrown, .ref mB, .ref mR, .int x_flags, .ref mO, .int x_outCount, .int x_steps, .ref mN, .int x_nowFlags, .int x_writePlace, .int x_writeSize, .int x_writeValue, .int y_fault_35, .int x_halt, .int x_isByte, .int x_atRegister, .int x_atPlace]))]) hP hD [0] [1, 2] rfl rfl (by decide) (by decide) hk1 hFc hP1 hD1
    have hP : va_P (dC, dI) vwCl [(mB, .inl (cY, 4096, .inl bf)), (mN, .inl (cN, 8, .inl nf)), (m0, .inr (5, [.int x_thrown, .ref mB, .ref mR, .int x_flags, .ref mO, .int x_outCount, .int x_steps, .ref mN, .int x_nowFlags, .int x_writePlace, .int x_writeSize, .int x_writeValue, .int y_fault_35, .int x_halt, .int x_isByte, .int x_atRegister, .int x_atPlace]))] H := hP
    have hD : va_D A [(mB, .inl (cY, 4096, .inl bf)), (mN, .inl (cN, 8, .inl nf)), (m0, .inr (5, [.int x_thrown, .ref mB, .ref mR, .int x_flags, .ref mO, .int x_outCount, .int x_steps, .ref mN, .int x_nowFlags, .int x_writePlace, .int x_writeSize, .int x_writeValue, .int y_fault_35, .int x_halt, .int x_isByte, .int x_atRegister, .int x_atPlace]))] := hD
    refine W.widen (k := 0) (n := 0) (by omega) (by omega) ?_
    try dsimp only at hw_34
    have hP9 := hP.sub (ws' := [(m0, .inr (5, [.int x_thrown, .ref mB, .ref mR, .int x_flags, .ref mO, .int x_outCount, .int x_steps, .ref mN, .int x_nowFlags, .int x_writePlace, .int x_writeSize, .int x_writeValue, .int y_fault_35, .int x_halt, .int x_isByte, .int x_atRegister, .int x_atPlace])), (mB, .inl (cY, 4096, .inl bf)), (mN, .inl (cN, 8, .inl nf))]) [2, 0, 1] rfl
    have hD9 := hD.sub (ws' := [(m0, .inr (5, [.int x_thrown, .ref mB, .ref mR, .int x_flags, .ref mO, .int x_outCount, .int x_steps, .ref mN, .int x_nowFlags, .int x_writePlace, .int x_writeSize, .int x_writeValue, .int y_fault_35, .int x_halt, .int x_isByte, .int x_atRegister, .int x_atPlace])), (mB, .inl (cY, 4096, .inl bf)), (mN, .inl (cN, 8, .inl nf))]) [2, 0, 1] (by decide) rfl
    have hK9 := hK.sub (tys' := [(cY, .int), (cN, .int)]) [0, 1] rfl
    exact W.vret hx hb hr (fun t ht hW => ⟨⟨(x_nowFlags, x_writePlace, x_writeSize, x_writeValue, y_fault_35, x_atRegister, x_atPlace, nf), rfl, ⟨(Or.inr hw_34), (okN_mono hN9 (fun _ => hw_34)), hWR⟩, by rw [ht]; exact hP9, va_K.moved hW.alike hK9, hD9⟩, hS.F ht⟩) hS.2.2 dX5_jump_14
set_option maxHeartbeats 4000000 in
set_option maxRecDepth 100000 in
theorem s_X5_back (l : Launch) (dC : Nat → ClassId) (dI : Nat → Nat → Nat) (sz : Nat) (m0 : Nat) (rr : Int32) (x_thrown : Int32) (mB : Nat) (mR : Nat) (x_flags : Int32) (mO : Nat) (x_outCount : Int32) (x_steps : Int32) (mN : Nat) (x_nowFlags : Int32) (x_writePlace : Int32) (x_writeSize : Int32) (x_writeValue : Int32) (x_fault : Int32) (x_halt : Int32) (x_isByte : Int32) (x_atRegister : Int32) (x_atPlace : Int32) (cY : ClassId) (bf : Nat → Int32) (cN : ClassId) (nf : Nat → Int32) (hF : okF x_fault) (hN9 : okN x_fault nf) (hWR : WR x_writeSize x_writePlace) (hB : okB bf) (hr9 : vp_in rr 8) : Met l yX5_back wsX5_back ({ frames := 2, cells := 0, slots := 0, locals := 43 }) (va_Pc [.ref m0, .int rr] (q_pre dC dI sz [(m0, .inr (5, [.int x_thrown, .ref mB, .ref mR, .int x_flags, .ref mO, .int x_outCount, .int x_steps, .ref mN, .int x_nowFlags, .int x_writePlace, .int x_writeSize, .int x_writeValue, .int x_fault, .int x_halt, .int x_isByte, .int x_atRegister, .int x_atPlace])), (mB, .inl (cY, 4096, .inl bf)), (mN, .inl (cN, 8, .inl nf))] [(cY, .int), (cN, .int)])) (va_Qv (fun (u9 : Int32 × Int32 × Int32 × Int32 × Int32 × Int32 × Int32 × (Nat → Int32)) => (okF u9.2.2.2.2.1) ∧ (okN u9.2.2.2.2.1 u9.2.2.2.2.2.2.2) ∧ (WR u9.2.2.1 u9.2.1)) (q_at dC dI (va_A [(m0, .inr (5, [.int x_thrown, .ref mB, .ref mR, .int x_flags, .ref mO, .int x_outCount, .int x_steps, .ref mN, .int x_nowFlags, .int x_writePlace, .int x_writeSize, .int x_writeValue, .int x_fault, .int x_halt, .int x_isByte, .int x_atRegister, .int x_atPlace])), (mB, .inl (cY, 4096, .inl bf)), (mN, .inl (cN, 8, .inl nf))] sz) (fun (u9 : Int32 × Int32 × Int32 × Int32 × Int32 × Int32 × Int32 × (Nat → Int32)) => [(cY, .int), (cN, .int)]) (fun (u9 : Int32 × Int32 × Int32 × Int32 × Int32 × Int32 × Int32 × (Nat → Int32)) => [(m0, .inr (5, [.int x_thrown, .ref mB, .ref mR, .int x_flags, .ref mO, .int x_outCount, .int x_steps, .ref mN, .int u9.1, .int u9.2.1, .int u9.2.2.1, .int u9.2.2.2.1, .int u9.2.2.2.2.1, .int x_halt, .int x_isByte, .int u9.2.2.2.2.2.1, .int u9.2.2.2.2.2.2.1])), (mB, .inl (cY, 4096, .inl bf)), (mN, .inl (cN, 8, .inl u9.2.2.2.2.2.2.2))])) (va_A [(m0, .inr (5, [.int x_thrown, .ref mB, .ref mR, .int x_flags, .ref mO, .int x_outCount, .int x_steps, .ref mN, .int x_nowFlags, .int x_writePlace, .int x_writeSize, .int x_writeValue, .int x_fault, .int x_halt, .int x_isByte, .int x_atRegister, .int x_atPlace])), (mB, .inl (cY, 4096, .inl bf)), (mN, .inl (cN, 8, .inl nf))] sz)) 0 0 (va_A [(m0, .inr (5, [.int x_thrown, .ref mB, .ref mR, .int x_flags, .ref mO, .int x_outCount, .int x_steps, .ref mN, .int x_nowFlags, .int x_writePlace, .int x_writeSize, .int x_writeValue, .int x_fault, .int x_halt, .int x_isByte, .int x_atRegister, .int x_atPlace])), (mB, .inl (cY, 4096, .inl bf)), (mN, .inl (cN, 8, .inl nf))] sz) := by
  refine Met.ofW (cc := cX5_back) (maxL := 3) (ret := none) (by decide) rfl ?_
  intro p e s m args below meth c s₁ B hml hv
  obtain ⟨rfl, hsz, hP, hK, hD0, hN⟩ := hv
  have hx := B.exec
  have hb := B.bytes
  have hr := B.returns
  have hts := atoms_spec (ws := wsX5_back) B.pre
  have hown : s.vm.findClass RX5 = some m.cls := findClass_of_methodNamed B.named
  have hlocks := B.notSynchronized
  subst hsz
  have hD := hD0.self (sz := s.heap.size)
  generalize hAe : va_A [(m0, .inr (5, [.int x_thrown, .ref mB, .ref mR, .int x_flags, .ref mO, .int x_outCount, .int x_steps, .ref mN, .int x_nowFlags, .int x_writePlace, .int x_writeSize, .int x_writeValue, .int x_fault, .int x_halt, .int x_isByte, .int x_atRegister, .int x_atPlace])), (mB, .inl (cY, 4096, .inl bf)), (mN, .inl (cN, 8, .inl nf))] s.heap.size = A at hD ⊢
  have hA : ∀ q : Nat, s.heap.size ≤ q → A q := fun q h => by rw [← hAe]; exact Or.inr h
  have hS : va_S A s.heap s.heap [] := va_S.rf
  have hP : va_P (dC, dI) vwCl [(m0, .inr (5, [.int x_thrown, .ref mB, .ref mR, .int x_flags, .ref mO, .int x_outCount, .int x_steps, .ref mN, .int x_nowFlags, .int x_writePlace, .int x_writeSize, .int x_writeValue, .int x_fault, .int x_halt, .int x_isByte, .int x_atRegister, .int x_atPlace])), (mB, .inl (cY, 4096, .inl bf)), (mN, .inl (cN, 8, .inl nf))] s.heap := hP
  have hl := lv_entry ([.ref m0, .int rr]) (n := 3) (Nat.le_of_ble_eq_true rfl)
  rw [lg_entry_eq]
  generalize (lg_sl ([.ref m0, .int rr]) ++ List.replicate (3 - (lg_sl ([.ref m0, .int rr])).length) Slot.unset).toArray = ls at hl ⊢
  have hl : lv_has ls 3 [(0, .ref m0), (1, .int rr)] := hl
  refine lv_aload_n hx hb dX5_back_0 rfl (lv_at hl 0 rfl) ?_
  refine va_get (D := (dC, dI)) (ci := 5) (v := .ref mN) (C := RX5) (T := TX5) (N := 17) hx hb hts (by decide +kernel) hown hK hP 0 rfl rfl 7 (by decide) (hts (.fieldLink RX5 19 "WordGuestModel" "now" "[I") (by decide +kernel)) (fun _ h9 => h9) rfl dX5_back_1 ?_
  refine lv_bipush (v := 7) hx hb dX5_back_4 (by decide) ?_
  refine lv_aload_n hx hb dX5_back_6 rfl (lv_at hl 0 rfl) ?_
  refine va_get (D := (dC, dI)) (ci := 5) (v := .ref mN) (C := RX5) (T := TX5) (N := 17) hx hb hts (by decide +kernel) hown hK hP 0 rfl rfl 7 (by decide) (hts (.fieldLink RX5 19 "WordGuestModel" "now" "[I") (by decide +kernel)) (fun _ h9 => h9) rfl dX5_back_7 ?_
  refine lv_iload_n hx hb dX5_back_10 rfl (lv_at hl 1 rfl) ?_
  refine va_iald hx hb hK hP 2 1 rfl rfl hr9 dX5_back_11 ?_
  refine va_iast hx hb hK hP hD hS 2 1 rfl rfl (by unfold vp_in; decide) dX5_back_12 (fun H locs hP hD hS => ?_)
  have hP : va_P (dC, dI) vwCl [(m0, .inr (5, [.int x_thrown, .ref mB, .ref mR, .int x_flags, .ref mO, .int x_outCount, .int x_steps, .ref mN, .int x_nowFlags, .int x_writePlace, .int x_writeSize, .int x_writeValue, .int x_fault, .int x_halt, .int x_isByte, .int x_atRegister, .int x_atPlace])), (mB, .inl (cY, 4096, .inl bf)), (mN, .inl (cN, 8, .inl (upd nf (7 : Int32).toNatClampNeg (nf rr.toNatClampNeg))))] H := hP
  have hD : va_D A [(m0, .inr (5, [.int x_thrown, .ref mB, .ref mR, .int x_flags, .ref mO, .int x_outCount, .int x_steps, .ref mN, .int x_nowFlags, .int x_writePlace, .int x_writeSize, .int x_writeValue, .int x_fault, .int x_halt, .int x_isByte, .int x_atRegister, .int x_atPlace])), (mB, .inl (cY, 4096, .inl bf)), (mN, .inl (cN, 8, .inl (upd nf (7 : Int32).toNatClampNeg (nf rr.toNatClampNeg))))] := hD
  have hN_1 : okN x_fault (upd nf (7 : Int32).toNatClampNeg (nf rr.toNatClampNeg)) := okN_cp hN9 hr9 _
  generalize (upd nf (7 : Int32).toNatClampNeg (nf rr.toNatClampNeg)) = g_2 at hP hD hN_1
  refine lv_aload_n hx hb dX5_back_13 rfl (lv_at hl 0 rfl) ?_
  refine lv_aload_n hx hb dX5_back_14 rfl (lv_at hl 0 rfl) ?_
  refine va_get (D := (dC, dI)) (ci := 5) (v := .ref mN) (C := RX5) (T := TX5) (N := 17) hx hb hts (by decide +kernel) hown hK hP 0 rfl rfl 7 (by decide) (hts (.fieldLink RX5 19 "WordGuestModel" "now" "[I") (by decide +kernel)) (fun _ h9 => h9) rfl dX5_back_15 ?_
  refine lv_bipush (v := 6) hx hb dX5_back_18 (by decide) ?_
  refine va_iald hx hb hK hP 2 1 rfl rfl (by unfold vp_in; decide) dX5_back_20 ?_
  refine lv_iconst (v := 0) hx hb dX5_back_21 (by decide) ?_
  have hPc := hP.sub (ws' := [(m0, .inr (5, [.int x_thrown, .ref mB, .ref mR, .int x_flags, .ref mO, .int x_outCount, .int x_steps, .ref mN, .int x_nowFlags, .int x_writePlace, .int x_writeSize, .int x_writeValue, .int x_fault, .int x_halt, .int x_isByte, .int x_atRegister, .int x_atPlace])), (mB, .inl (cY, 4096, .inl bf))]) [0, 1] rfl
  have hDc := hD.sub (ws' := [(m0, .inr (5, [.int x_thrown, .ref mB, .ref mR, .int x_flags, .ref mO, .int x_outCount, .int x_steps, .ref mN, .int x_nowFlags, .int x_writePlace, .int x_writeSize, .int x_writeValue, .int x_fault, .int x_halt, .int x_isByte, .int x_atRegister, .int x_atPlace])), (mB, .inl (cY, 4096, .inl bf))]) [0, 1] (by decide) rfl
  have hKc := hK.sub (tys' := [(cY, .int)]) [0] rfl
  have hFc := va_free (wc := [(m0, .inr (5, [.int x_thrown, .ref mB, .ref mR, .int x_flags, .ref mO, .int x_outCount, .int x_steps, .ref mN, .int x_nowFlags, .int x_writePlace, .int x_writeSize, .int x_writeValue, .int x_fault, .int x_halt, .int x_isByte, .int x_atRegister, .int x_atPlace])), (mB, .inl (cY, 4096, .inl bf))]) hD hS hA [0, 1] rfl
  refine va_calli (va_runV (C := RX5) (b := m0) (As := [.int (g_2 (6 : Int32).toNatClampNeg), .int 0]) (rest := []) ⟨hx, hb, hml, hown, hts⟩ (s_X5_read l dC dI H.size m0 (g_2 (6 : Int32).toNatClampNeg) (0 : Int32) x_thrown mB mR x_flags mO x_outCount x_steps mN x_nowFlags x_writePlace x_writeSize x_writeValue x_fault x_halt x_isByte x_atRegister x_atPlace cY bf hF hB (okN_el hN_1 (by unfold vp_in; decide))) (cwV 2 hts gX5_back_X5_read rfl rfl rfl (by decide +kernel) ⟨Nat.le_of_ble_eq_true rfl, Nat.le_of_ble_eq_true rfl⟩) ⟨q_blind, va_recv hK hP (ci := 5) (q0 := 0) rfl rfl, fun U hU hW => ⟨rfl, q_pay hU hW hPc hKc hDc hN⟩⟩ rfl rfl hl.1 rfl (lv_room (Nat.le_of_ble_eq_true rfl)) dX5_back_22 ⟨show 0 + 0 ≤ 0 from by omega, show 0 + 0 ≤ 0 from by omega⟩) hS (fun q _ h => hFc q h) hFc (fun r_3 u9 t H locs ht hvm hw_4 hB hz1 hk1 hS => ?_)
  obtain ⟨y_fault_5, rfl⟩ : ∃ z, z = u9 := ⟨_, rfl⟩
  obtain ⟨hP1, hK1, hD1⟩ := hB
  rw [ht] at hP1
  obtain ⟨hP, hD⟩ := va_join (wr := [(mN, .inl (cN, 8, .inl g_2))]) (w1 := [(m0, .inr (5, [.int x_thrown, .ref mB, .ref mR, .int x_flags, .ref mO, .int x_outCount, .int x_steps, .ref mN, .int x_nowFlags, .int x_writePlace, .int x_writeSize, .int x_writeValue, .int y_fault_5, .int x_halt, .int x_isByte, .int x_atRegister, .int x_atPlace])), (mB, .inl (cY, 4096, .inl bf))]) hP hD [0, 1] [2] rfl rfl (by decide) (by decide) hk1 hFc hP1 hD1
  have hP : va_P (dC, dI) vwCl [(mN, .inl (cN, 8, .inl g_2)), (m0, .inr (5, [.int x_thrown, .ref mB, .ref mR, .int x_flags, .ref mO, .int x_outCount, .int x_steps, .ref mN, .int x_nowFlags, .int x_writePlace, .int x_writeSize, .int x_writeValue, .int y_fault_5, .int x_halt, .int x_isByte, .int x_atRegister, .int x_atPlace])), (mB, .inl (cY, 4096, .inl bf))] H := hP
  have hD : va_D A [(mN, .inl (cN, 8, .inl g_2)), (m0, .inr (5, [.int x_thrown, .ref mB, .ref mR, .int x_flags, .ref mO, .int x_outCount, .int x_steps, .ref mN, .int x_nowFlags, .int x_writePlace, .int x_writeSize, .int x_writeValue, .int y_fault_5, .int x_halt, .int x_isByte, .int x_atRegister, .int x_atPlace])), (mB, .inl (cY, 4096, .inl bf))] := hD
  refine W.widen (k := 0) (n := 0) (by omega) (by omega) ?_
  try dsimp only at hw_4
  refine lv_istore_n (lv' := [(2, .int r_3), (0, .ref m0), (1, .int rr)]) hx hb dX5_back_25 rfl hl (by decide) rfl (fun ls hl => ?_)
  refine lv_aload_n hx hb dX5_back_26 rfl (lv_at hl 1 rfl) ?_
  refine lv_bipush (v := 6) hx hb dX5_back_27 (by decide) ?_
  refine lv_iconst (v := 2) hx hb dX5_back_29 (by decide) ?_
  have hPc := hP.sub (ws' := [(m0, .inr (5, [.int x_thrown, .ref mB, .ref mR, .int x_flags, .ref mO, .int x_outCount, .int x_steps, .ref mN, .int x_nowFlags, .int x_writePlace, .int x_writeSize, .int x_writeValue, .int y_fault_5, .int x_halt, .int x_isByte, .int x_atRegister, .int x_atPlace])), (mN, .inl (cN, 8, .inl g_2))]) [1, 0] rfl
  have hDc := hD.sub (ws' := [(m0, .inr (5, [.int x_thrown, .ref mB, .ref mR, .int x_flags, .ref mO, .int x_outCount, .int x_steps, .ref mN, .int x_nowFlags, .int x_writePlace, .int x_writeSize, .int x_writeValue, .int y_fault_5, .int x_halt, .int x_isByte, .int x_atRegister, .int x_atPlace])), (mN, .inl (cN, 8, .inl g_2))]) [1, 0] (by decide) rfl
  have hKc := hK.sub (tys' := [(cN, .int)]) [1] rfl
  have hFc := va_free (wc := [(m0, .inr (5, [.int x_thrown, .ref mB, .ref mR, .int x_flags, .ref mO, .int x_outCount, .int x_steps, .ref mN, .int x_nowFlags, .int x_writePlace, .int x_writeSize, .int x_writeValue, .int y_fault_5, .int x_halt, .int x_isByte, .int x_atRegister, .int x_atPlace])), (mN, .inl (cN, 8, .inl g_2))]) hD hS hA [1, 0] rfl
  refine va_callv (va_runV (C := RX5) (b := m0) (As := [.int 6, .int 2]) (rest := []) ⟨hx, hb, hml, hown, hts⟩ (s_X5_move l dC dI H.size m0 (6 : Int32) (2 : Int32) x_thrown mB mR x_flags mO x_outCount x_steps mN x_nowFlags x_writePlace x_writeSize x_writeValue y_fault_5 x_halt x_isByte x_atRegister x_atPlace cN g_2 (okN_mono hN_1 hw_4.2.1) (by unfold vp_in; decide)) (cwV 2 hts gX5_back_X5_move rfl rfl rfl (by decide +kernel) ⟨Nat.le_of_ble_eq_true rfl, Nat.le_of_ble_eq_true rfl⟩) ⟨q_blind, va_recv hK hP (ci := 5) (q0 := 1) rfl rfl, fun U hU hW => ⟨rfl, q_pay hU hW hPc hKc hDc hN⟩⟩ rfl rfl hl.1 rfl (lv_room (Nat.le_of_ble_eq_true rfl)) dX5_back_30 ⟨show 0 + 0 ≤ 0 from by omega, show 0 + 0 ≤ 0 from by omega⟩) hS (fun q _ h => hFc q h) hFc (fun u9 t H locs ht hvm hw_7 hB hz1 hk1 hS => ?_)
  obtain ⟨nf2_8, rfl⟩ : ∃ z, z = u9 := ⟨_, rfl⟩
  obtain ⟨hP1, hK1, hD1⟩ := hB
  rw [ht] at hP1
  obtain ⟨hP, hD⟩ := va_join (wr := [(mB, .inl (cY, 4096, .inl bf))]) (w1 := [(m0, .inr (5, [.int x_thrown, .ref mB, .ref mR, .int x_flags, .ref mO, .int x_outCount, .int x_steps, .ref mN, .int x_nowFlags, .int x_writePlace, .int x_writeSize, .int x_writeValue, .int y_fault_5, .int x_halt, .int x_isByte, .int x_atRegister, .int x_atPlace])), (mN, .inl (cN, 8, .inl nf2_8))]) hP hD [1, 0] [2] rfl rfl (by decide) (by decide) hk1 hFc hP1 hD1
  have hP : va_P (dC, dI) vwCl [(mB, .inl (cY, 4096, .inl bf)), (m0, .inr (5, [.int x_thrown, .ref mB, .ref mR, .int x_flags, .ref mO, .int x_outCount, .int x_steps, .ref mN, .int x_nowFlags, .int x_writePlace, .int x_writeSize, .int x_writeValue, .int y_fault_5, .int x_halt, .int x_isByte, .int x_atRegister, .int x_atPlace])), (mN, .inl (cN, 8, .inl nf2_8))] H := hP
  have hD : va_D A [(mB, .inl (cY, 4096, .inl bf)), (m0, .inr (5, [.int x_thrown, .ref mB, .ref mR, .int x_flags, .ref mO, .int x_outCount, .int x_steps, .ref mN, .int x_nowFlags, .int x_writePlace, .int x_writeSize, .int x_writeValue, .int y_fault_5, .int x_halt, .int x_isByte, .int x_atRegister, .int x_atPlace])), (mN, .inl (cN, 8, .inl nf2_8))] := hD
  refine W.widen (k := 0) (n := 0) (by omega) (by omega) ?_
  try dsimp only at hw_7
  refine lv_aload_n hx hb dX5_back_33 rfl (lv_at hl 1 rfl) ?_
  refine va_get (D := (dC, dI)) (ci := 5) (v := .ref mN) (C := RX5) (T := TX5) (N := 17) hx hb hts (by decide +kernel) hown hK hP 1 rfl rfl 7 (by decide) (hts (.fieldLink RX5 19 "WordGuestModel" "now" "[I") (by decide +kernel)) (fun _ h9 => h9) rfl dX5_back_34 ?_
  refine lv_iload_n hx hb dX5_back_37 rfl (lv_at hl 2 rfl) ?_
  refine lv_iload_n hx hb dX5_back_38 rfl (lv_at hl 0 rfl) ?_
  refine va_iast hx hb hK hP hD hS 2 1 rfl rfl hr9 dX5_back_39 (fun H locs hP hD hS => ?_)
  have hP : va_P (dC, dI) vwCl [(mB, .inl (cY, 4096, .inl bf)), (m0, .inr (5, [.int x_thrown, .ref mB, .ref mR, .int x_flags, .ref mO, .int x_outCount, .int x_steps, .ref mN, .int x_nowFlags, .int x_writePlace, .int x_writeSize, .int x_writeValue, .int y_fault_5, .int x_halt, .int x_isByte, .int x_atRegister, .int x_atPlace])), (mN, .inl (cN, 8, .inl (upd nf2_8 rr.toNatClampNeg r_3)))] H := hP
  have hD : va_D A [(mB, .inl (cY, 4096, .inl bf)), (m0, .inr (5, [.int x_thrown, .ref mB, .ref mR, .int x_flags, .ref mO, .int x_outCount, .int x_steps, .ref mN, .int x_nowFlags, .int x_writePlace, .int x_writeSize, .int x_writeValue, .int y_fault_5, .int x_halt, .int x_isByte, .int x_atRegister, .int x_atPlace])), (mN, .inl (cN, 8, .inl (upd nf2_8 rr.toNatClampNeg r_3)))] := hD
  have hN_9 : okN y_fault_5 (upd nf2_8 rr.toNatClampNeg r_3) := okN_upd hw_7 hw_4.2.2.1 _
  generalize (upd nf2_8 rr.toNatClampNeg r_3) = g_10 at hP hD hN_9
  have hP9 := hP.sub (ws' := [(m0, .inr (5, [.int x_thrown, .ref mB, .ref mR, .int x_flags, .ref mO, .int x_outCount, .int x_steps, .ref mN, .int x_nowFlags, .int x_writePlace, .int x_writeSize, .int x_writeValue, .int y_fault_5, .int x_halt, .int x_isByte, .int x_atRegister, .int x_atPlace])), (mB, .inl (cY, 4096, .inl bf)), (mN, .inl (cN, 8, .inl g_10))]) [1, 0, 2] rfl
  have hD9 := hD.sub (ws' := [(m0, .inr (5, [.int x_thrown, .ref mB, .ref mR, .int x_flags, .ref mO, .int x_outCount, .int x_steps, .ref mN, .int x_nowFlags, .int x_writePlace, .int x_writeSize, .int x_writeValue, .int y_fault_5, .int x_halt, .int x_isByte, .int x_atRegister, .int x_atPlace])), (mB, .inl (cY, 4096, .inl bf)), (mN, .inl (cN, 8, .inl g_10))]) [1, 0, 2] (by decide) rfl
  have hK9 := hK.sub (tys' := [(cY, .int), (cN, .int)]) [0, 1] rfl
  exact W.vret hx hb hr (fun t ht hW => ⟨⟨(x_nowFlags, x_writePlace, x_writeSize, x_writeValue, y_fault_5, x_atRegister, x_atPlace, g_10), rfl, ⟨hw_4.1, hN_9, hWR⟩, by rw [ht]; exact hP9, va_K.moved hW.alike hK9, hD9⟩, hS.F ht⟩) hS.2.2 dX5_back_40
