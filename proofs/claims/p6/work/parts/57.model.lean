theorem sh_le {j : Nat} (hj : j < 64) (c : nI j ≤ 31) : j ≤ 31 := by
  rw [Int32.le_iff_toInt_le, nI_toInt (by omega), show (31 : Int32).toInt = 31 from rfl] at c
  omega
theorem sh_gt {j : Nat} (hj : j < 64) (c : ¬ nI j ≤ 31) : 32 ≤ j := by
  rw [Int32.le_iff_toInt_le, nI_toInt (by omega), show (31 : Int32).toInt = 31 from rfl] at c
  omega
theorem sh_sub {a : Nat} (h : a ≤ 64) : (nI a - 64).toInt = (a : Int) - 64 := pk_sub_toInt (a := a) (b := 64) (by omega) (by decide)
theorem sh_le0 {a : Nat} (h : a ≤ 64) : nI a - 64 ≤ 0 := by
  rw [Int32.le_iff_toInt_le, sh_sub h, show (0 : Int32).toInt = 0 from rfl]
  omega
theorem sh_neg {a : Nat} (h : a < 64) : ¬ 0 ≤ nI a - 64 := by
  rw [Int32.le_iff_toInt_le, sh_sub (by omega), show (0 : Int32).toInt = 0 from rfl]
  omega
theorem sh_nn {a : Nat} (h : a < 64) : 0 ≤ nI a := by
  rw [Int32.le_iff_toInt_le, nI_toInt (by omega), show (0 : Int32).toInt = 0 from rfl]
  omega
theorem sh_s (a : Nat) : nI a - 64 + 1 = nI (a + 1) - 64 := by
  rw [← nI_1 a, Int32.sub_eq_add_neg, Int32.sub_eq_add_neg, Int32.add_assoc, Int32.add_assoc, Int32.add_comm (-64) 1]
set_option maxHeartbeats 4000000 in
set_option maxRecDepth 100000 in
theorem s_X5_shift (l : Launch) (dC : Nat → ClassId) (dI : Nat → Nat → Nat) (sz : Nat) (m0 : Nat) (rr : Int32) (wd : Int32) (x_thrown : Int32) (mB : Nat) (mR : Nat) (x_flags : Int32) (mO : Nat) (x_outCount : Int32) (x_steps : Int32) (mN : Nat) (x_nowFlags : Int32) (x_writePlace : Int32) (x_writeSize : Int32) (x_writeValue : Int32) (x_fault : Int32) (x_halt : Int32) (x_isByte : Int32) (x_atRegister : Int32) (x_atPlace : Int32) (cY : ClassId) (bf : Nat → Int32) (cN : ClassId) (nf : Nat → Int32) (hF : okF x_fault) (hN9 : okN x_fault nf) (hWR : WR x_writeSize x_writePlace) (hB : okB bf) (hr9 : vp_in rr 8) : Met l yX5_shift wsX5_shift ({ frames := 4, cells := 0, slots := 0, locals := 89 }) (va_Pc [.ref m0, .int rr, .int wd] (q_pre dC dI sz [(m0, .inr (5, [.int x_thrown, .ref mB, .ref mR, .int x_flags, .ref mO, .int x_outCount, .int x_steps, .ref mN, .int x_nowFlags, .int x_writePlace, .int x_writeSize, .int x_writeValue, .int x_fault, .int x_halt, .int x_isByte, .int x_atRegister, .int x_atPlace])), (mB, .inl (cY, 4096, .inl bf)), (mN, .inl (cN, 8, .inl nf))] [(cY, .int), (cN, .int)])) (va_Qv (fun (u9 : Int32 × Int32 × Int32 × Int32 × Int32 × Int32 × Int32 × (Nat → Int32)) => (okF u9.2.2.2.2.1) ∧ (okN u9.2.2.2.2.1 u9.2.2.2.2.2.2.2) ∧ (WR u9.2.2.1 u9.2.1)) (q_at dC dI (va_A [(m0, .inr (5, [.int x_thrown, .ref mB, .ref mR, .int x_flags, .ref mO, .int x_outCount, .int x_steps, .ref mN, .int x_nowFlags, .int x_writePlace, .int x_writeSize, .int x_writeValue, .int x_fault, .int x_halt, .int x_isByte, .int x_atRegister, .int x_atPlace])), (mB, .inl (cY, 4096, .inl bf)), (mN, .inl (cN, 8, .inl nf))] sz) (fun (u9 : Int32 × Int32 × Int32 × Int32 × Int32 × Int32 × Int32 × (Nat → Int32)) => [(cY, .int), (cN, .int)]) (fun (u9 : Int32 × Int32 × Int32 × Int32 × Int32 × Int32 × Int32 × (Nat → Int32)) => [(m0, .inr (5, [.int x_thrown, .ref mB, .ref mR, .int x_flags, .ref mO, .int x_outCount, .int x_steps, .ref mN, .int u9.1, .int u9.2.1, .int u9.2.2.1, .int u9.2.2.2.1, .int u9.2.2.2.2.1, .int x_halt, .int x_isByte, .int u9.2.2.2.2.2.1, .int u9.2.2.2.2.2.2.1])), (mB, .inl (cY, 4096, .inl bf)), (mN, .inl (cN, 8, .inl u9.2.2.2.2.2.2.2))])) (va_A [(m0, .inr (5, [.int x_thrown, .ref mB, .ref mR, .int x_flags, .ref mO, .int x_outCount, .int x_steps, .ref mN, .int x_nowFlags, .int x_writePlace, .int x_writeSize, .int x_writeValue, .int x_fault, .int x_halt, .int x_isByte, .int x_atRegister, .int x_atPlace])), (mB, .inl (cY, 4096, .inl bf)), (mN, .inl (cN, 8, .inl nf))] sz)) 0 0 (va_A [(m0, .inr (5, [.int x_thrown, .ref mB, .ref mR, .int x_flags, .ref mO, .int x_outCount, .int x_steps, .ref mN, .int x_nowFlags, .int x_writePlace, .int x_writeSize, .int x_writeValue, .int x_fault, .int x_halt, .int x_isByte, .int x_atRegister, .int x_atPlace])), (mB, .inl (cY, 4096, .inl bf)), (mN, .inl (cN, 8, .inl nf))] sz) := by
  refine Met.ofW (cc := cX5_shift) (maxL := 10) (ret := none) (by decide) rfl ?_
  intro p e s m args below meth c s₁ B hml hv
  obtain ⟨rfl, hsz, hP, hK, hD0, hN⟩ := hv
  have hx := B.exec
  have hb := B.bytes
  have hr := B.returns
  have hts := atoms_spec (ws := wsX5_shift) B.pre
  have hown : s.vm.findClass RX5 = some m.cls := findClass_of_methodNamed B.named
  have hlocks := B.notSynchronized
  subst hsz
  have hD := hD0.self (sz := s.heap.size)
  generalize hAe : va_A [(m0, .inr (5, [.int x_thrown, .ref mB, .ref mR, .int x_flags, .ref mO, .int x_outCount, .int x_steps, .ref mN, .int x_nowFlags, .int x_writePlace, .int x_writeSize, .int x_writeValue, .int x_fault, .int x_halt, .int x_isByte, .int x_atRegister, .int x_atPlace])), (mB, .inl (cY, 4096, .inl bf)), (mN, .inl (cN, 8, .inl nf))] s.heap.size = A at hD ⊢
  have hA : ∀ q : Nat, s.heap.size ≤ q → A q := fun q h => by rw [← hAe]; exact Or.inr h
  have hS : va_S A s.heap s.heap [] := va_S.rf
  have hP : va_P (dC, dI) vwCl [(m0, .inr (5, [.int x_thrown, .ref mB, .ref mR, .int x_flags, .ref mO, .int x_outCount, .int x_steps, .ref mN, .int x_nowFlags, .int x_writePlace, .int x_writeSize, .int x_writeValue, .int x_fault, .int x_halt, .int x_isByte, .int x_atRegister, .int x_atPlace])), (mB, .inl (cY, 4096, .inl bf)), (mN, .inl (cN, 8, .inl nf))] s.heap := hP
  have hl := lv_entry ([.ref m0, .int rr, .int wd]) (n := 10) (Nat.le_of_ble_eq_true rfl)
  rw [lg_entry_eq]
  generalize (lg_sl ([.ref m0, .int rr, .int wd]) ++ List.replicate (10 - (lg_sl ([.ref m0, .int rr, .int wd])).length) Slot.unset).toArray = ls at hl ⊢
  have hl : lv_has ls 10 [(0, .ref m0), (1, .int rr), (2, .int wd)] := hl
  refine lv_aload_n hx hb dX5_shift_0 rfl (lv_at hl 0 rfl) ?_
  refine lv_iload_n hx hb dX5_shift_1 rfl (lv_at hl 2 rfl) ?_
  refine lv_bipush (v := 63) hx hb dX5_shift_2 (by decide) ?_
  refine lv_iand hx hb dX5_shift_4 ?_
  have hPc := hP.sub (ws' := [(m0, .inr (5, [.int x_thrown, .ref mB, .ref mR, .int x_flags, .ref mO, .int x_outCount, .int x_steps, .ref mN, .int x_nowFlags, .int x_writePlace, .int x_writeSize, .int x_writeValue, .int x_fault, .int x_halt, .int x_isByte, .int x_atRegister, .int x_atPlace])), (mB, .inl (cY, 4096, .inl bf)), (mN, .inl (cN, 8, .inl nf))]) [0, 1, 2] rfl
  have hDc := hD.sub (ws' := [(m0, .inr (5, [.int x_thrown, .ref mB, .ref mR, .int x_flags, .ref mO, .int x_outCount, .int x_steps, .ref mN, .int x_nowFlags, .int x_writePlace, .int x_writeSize, .int x_writeValue, .int x_fault, .int x_halt, .int x_isByte, .int x_atRegister, .int x_atPlace])), (mB, .inl (cY, 4096, .inl bf)), (mN, .inl (cN, 8, .inl nf))]) [0, 1, 2] (by decide) rfl
  have hKc := hK.sub (tys' := [(cY, .int), (cN, .int)]) [0, 1] rfl
  have hFc := va_free (wc := [(m0, .inr (5, [.int x_thrown, .ref mB, .ref mR, .int x_flags, .ref mO, .int x_outCount, .int x_steps, .ref mN, .int x_nowFlags, .int x_writePlace, .int x_writeSize, .int x_writeValue, .int x_fault, .int x_halt, .int x_isByte, .int x_atRegister, .int x_atPlace])), (mB, .inl (cY, 4096, .inl bf)), (mN, .inl (cN, 8, .inl nf))]) hD hS hA [0, 1, 2] rfl
  refine va_callv (va_runV (C := RX5) (b := m0) (As := [.int (wd &&& 63)]) (rest := []) ⟨hx, hb, hml, hown, hts⟩ (s_X5_find l dC dI s.heap.size m0 (wd &&& 63) x_thrown mB mR x_flags mO x_outCount x_steps mN x_nowFlags x_writePlace x_writeSize x_writeValue x_fault x_halt x_isByte x_atRegister x_atPlace cY bf cN nf hF hN9 hB) (cwV 1 hts gX5_shift_X5_find rfl rfl rfl (by decide +kernel) ⟨Nat.le_of_ble_eq_true rfl, Nat.le_of_ble_eq_true rfl⟩) ⟨q_blind, va_recv hK hP (ci := 5) (q0 := 0) rfl rfl, fun U hU hW => ⟨rfl, q_pay hU hW hPc hKc hDc hN⟩⟩ rfl rfl hl.1 rfl (lv_room (Nat.le_of_ble_eq_true rfl)) dX5_shift_5 ⟨show 0 + 0 ≤ 0 from by omega, show 0 + 0 ≤ 0 from by omega⟩) hS (fun q _ h => hFc q h) hFc (fun u9 t H locs ht hvm hw_2 hB hz1 hk1 hS => ?_)
  obtain ⟨y_fault_3, y_atRegister_4, y_atPlace_5, nf2_6⟩ := u9
  obtain ⟨hP1, hK1, hD1⟩ := hB
  rw [ht] at hP1
  obtain ⟨hP, hD⟩ := va_join (wr := []) (w1 := [(m0, .inr (5, [.int x_thrown, .ref mB, .ref mR, .int x_flags, .ref mO, .int x_outCount, .int x_steps, .ref mN, .int x_nowFlags, .int x_writePlace, .int x_writeSize, .int x_writeValue, .int y_fault_3, .int x_halt, .int x_isByte, .int y_atRegister_4, .int y_atPlace_5])), (mB, .inl (cY, 4096, .inl bf)), (mN, .inl (cN, 8, .inl nf2_6))]) hP hD [0, 1, 2] [] rfl rfl (by decide) (by decide) hk1 hFc hP1 hD1
  have hP : va_P (dC, dI) vwCl [(m0, .inr (5, [.int x_thrown, .ref mB, .ref mR, .int x_flags, .ref mO, .int x_outCount, .int x_steps, .ref mN, .int x_nowFlags, .int x_writePlace, .int x_writeSize, .int x_writeValue, .int y_fault_3, .int x_halt, .int x_isByte, .int y_atRegister_4, .int y_atPlace_5])), (mB, .inl (cY, 4096, .inl bf)), (mN, .inl (cN, 8, .inl nf2_6))] H := hP
  have hD : va_D A [(m0, .inr (5, [.int x_thrown, .ref mB, .ref mR, .int x_flags, .ref mO, .int x_outCount, .int x_steps, .ref mN, .int x_nowFlags, .int x_writePlace, .int x_writeSize, .int x_writeValue, .int y_fault_3, .int x_halt, .int x_isByte, .int y_atRegister_4, .int y_atPlace_5])), (mB, .inl (cY, 4096, .inl bf)), (mN, .inl (cN, 8, .inl nf2_6))] := hD
  refine W.widen (k := 0) (n := 0) (by omega) (by omega) ?_
  try dsimp only at hw_2
  refine lv_aload_n hx hb dX5_shift_8 rfl (lv_at hl 0 rfl) ?_
  have hPc := hP.sub (ws' := [(m0, .inr (5, [.int x_thrown, .ref mB, .ref mR, .int x_flags, .ref mO, .int x_outCount, .int x_steps, .ref mN, .int x_nowFlags, .int x_writePlace, .int x_writeSize, .int x_writeValue, .int y_fault_3, .int x_halt, .int x_isByte, .int y_atRegister_4, .int y_atPlace_5])), (mB, .inl (cY, 4096, .inl bf)), (mN, .inl (cN, 8, .inl nf2_6))]) [0, 1, 2] rfl
  have hDc := hD.sub (ws' := [(m0, .inr (5, [.int x_thrown, .ref mB, .ref mR, .int x_flags, .ref mO, .int x_outCount, .int x_steps, .ref mN, .int x_nowFlags, .int x_writePlace, .int x_writeSize, .int x_writeValue, .int y_fault_3, .int x_halt, .int x_isByte, .int y_atRegister_4, .int y_atPlace_5])), (mB, .inl (cY, 4096, .inl bf)), (mN, .inl (cN, 8, .inl nf2_6))]) [0, 1, 2] (by decide) rfl
  have hKc := hK.sub (tys' := [(cY, .int), (cN, .int)]) [0, 1] rfl
  have hFc := va_free (wc := [(m0, .inr (5, [.int x_thrown, .ref mB, .ref mR, .int x_flags, .ref mO, .int x_outCount, .int x_steps, .ref mN, .int x_nowFlags, .int x_writePlace, .int x_writeSize, .int x_writeValue, .int y_fault_3, .int x_halt, .int x_isByte, .int y_atRegister_4, .int y_atPlace_5])), (mB, .inl (cY, 4096, .inl bf)), (mN, .inl (cN, 8, .inl nf2_6))]) hD hS hA [0, 1, 2] rfl
  refine va_calli (va_runV (C := RX5) (b := m0) (As := []) (rest := []) ⟨hx, hb, hml, hown, hts⟩ (s_X5_get l dC dI H.size m0 x_thrown mB mR x_flags mO x_outCount x_steps mN x_nowFlags x_writePlace x_writeSize x_writeValue y_fault_3 x_halt x_isByte y_atRegister_4 y_atPlace_5 cY bf cN nf2_6 hw_2.1 hw_2.2.1 hw_2.2.2.1 hB) (cwV 0 hts gX5_shift_X5_get rfl rfl rfl (by decide +kernel) ⟨Nat.le_of_ble_eq_true rfl, Nat.le_of_ble_eq_true rfl⟩) ⟨q_blind, va_recv hK hP (ci := 5) (q0 := 0) rfl rfl, fun U hU hW => ⟨rfl, q_pay hU hW hPc hKc hDc hN⟩⟩ rfl rfl hl.1 rfl (lv_room (Nat.le_of_ble_eq_true rfl)) dX5_shift_9 ⟨show 0 + 0 ≤ 0 from by omega, show 0 + 0 ≤ 0 from by omega⟩) hS (fun q _ h => hFc q h) hFc (fun r_7 u9 t H locs ht hvm hw_8 hB hz1 hk1 hS => ?_)
  obtain ⟨y_fault_9, rfl⟩ : ∃ z, z = u9 := ⟨_, rfl⟩
  obtain ⟨hP1, hK1, hD1⟩ := hB
  rw [ht] at hP1
  obtain ⟨hP, hD⟩ := va_join (wr := []) (w1 := [(m0, .inr (5, [.int x_thrown, .ref mB, .ref mR, .int x_flags, .ref mO, .int x_outCount, .int x_steps, .ref mN, .int x_nowFlags, .int x_writePlace, .int x_writeSize, .int x_writeValue, .int y_fault_9, .int x_halt, .int x_isByte, .int y_atRegister_4, .int y_atPlace_5])), (mB, .inl (cY, 4096, .inl bf)), (mN, .inl (cN, 8, .inl nf2_6))]) hP hD [0, 1, 2] [] rfl rfl (by decide) (by decide) hk1 hFc hP1 hD1
  have hP : va_P (dC, dI) vwCl [(m0, .inr (5, [.int x_thrown, .ref mB, .ref mR, .int x_flags, .ref mO, .int x_outCount, .int x_steps, .ref mN, .int x_nowFlags, .int x_writePlace, .int x_writeSize, .int x_writeValue, .int y_fault_9, .int x_halt, .int x_isByte, .int y_atRegister_4, .int y_atPlace_5])), (mB, .inl (cY, 4096, .inl bf)), (mN, .inl (cN, 8, .inl nf2_6))] H := hP
  have hD : va_D A [(m0, .inr (5, [.int x_thrown, .ref mB, .ref mR, .int x_flags, .ref mO, .int x_outCount, .int x_steps, .ref mN, .int x_nowFlags, .int x_writePlace, .int x_writeSize, .int x_writeValue, .int y_fault_9, .int x_halt, .int x_isByte, .int y_atRegister_4, .int y_atPlace_5])), (mB, .inl (cY, 4096, .inl bf)), (mN, .inl (cN, 8, .inl nf2_6))] := hD
  refine W.widen (k := 0) (n := 0) (by omega) (by omega) ?_
  try dsimp only at hw_8
  refine lv_bipush (v := 63) hx hb dX5_shift_12 (by decide) ?_
  refine lv_iand hx hb dX5_shift_14 ?_
  obtain ⟨j9, hj9, ej9⟩ := pk_andE r_7 (m := 63) 6 (by decide)
  refine q_toc (y := nI j9) ej9 ?_
  refine lv_istore_n (lv' := [(3, .int (nI j9)), (0, .ref m0), (1, .int rr), (2, .int wd)]) hx hb dX5_shift_15 rfl hl (by decide) rfl (fun ls hl => ?_)
  refine lv_iload_n hx hb dX5_shift_16 rfl (lv_at hl 0 rfl) ?_
  refine lv_bipush (v := 31) hx hb dX5_shift_17 (by decide) ?_
  refine lv_icmp_le (tgt := 29) hx hb dX5_shift_19 (by decide) (fun c_10 => ?_) (fun c_10 => ?_)
  · refine lv_iload_n hx hb dX5_shift_29 rfl (lv_at hl 0 rfl) ?_
    refine lv_istore (lv' := [(4, .int (nI j9)), (3, .int (nI j9)), (0, .ref m0), (1, .int rr), (2, .int wd)]) hx hb dX5_shift_30 hl (by decide) rfl (fun ls hl => ?_)
    refine lv_aload_n hx hb dX5_shift_32 rfl (lv_at hl 2 rfl) ?_
    refine va_get (D := (dC, dI)) (ci := 5) (v := .ref mN) (C := RX5) (T := TX5) (N := 17) hx hb hts (by decide +kernel) hown hK hP 0 rfl rfl 7 (by decide) (hts (.fieldLink RX5 19 "WordGuestModel" "now" "[I") (by decide +kernel)) (fun _ h9 => h9) rfl dX5_shift_33 ?_
    refine lv_iload_n hx hb dX5_shift_36 rfl (lv_at hl 3 rfl) ?_
    refine va_iald hx hb hK hP 2 1 rfl rfl hr9 dX5_shift_37 ?_
    refine lv_istore (lv' := [(5, .int (nf2_6 rr.toNatClampNeg)), (4, .int (nI j9)), (3, .int (nI j9)), (0, .ref m0), (1, .int rr), (2, .int wd)]) hx hb dX5_shift_38 hl (by decide) rfl (fun ls hl => ?_)
    refine lv_iload hx hb dX5_shift_40 (lv_at hl 0 rfl) ?_
    refine lv_sipush (v := 32767) hx hb dX5_shift_42 (by decide) ?_
    refine q_bool (ls := ls) 53 [] (fun b_12 hb_13 => ?_) (fun jn => ?_)
    · refine lv_istore (lv' := [(6, .int b_12), (5, .int (nf2_6 rr.toNatClampNeg)), (4, .int (nI j9)), (3, .int (nI j9)), (0, .ref m0), (1, .int rr), (2, .int wd)]) hx hb dX5_shift_53 hl (by decide) rfl (fun ls hl => ?_)
      refine lv_iconst (v := 0) hx hb dX5_shift_55 (by decide) ?_
      refine lv_istore (lv' := [(7, .int 0), (6, .int b_12), (5, .int (nf2_6 rr.toNatClampNeg)), (4, .int (nI j9)), (3, .int (nI j9)), (0, .ref m0), (1, .int rr), (2, .int wd)]) hx hb dX5_shift_56 hl (by decide) rfl (fun ls hl => ?_)
      refine lv_iconst (v := 0) hx hb dX5_shift_58 (by decide) ?_
      refine lv_istore (lv' := [(8, .int 0), (7, .int 0), (6, .int b_12), (5, .int (nf2_6 rr.toNatClampNeg)), (4, .int (nI j9)), (3, .int (nI j9)), (0, .ref m0), (1, .int rr), (2, .int wd)]) hx hb dX5_shift_59 hl (by decide) rfl (fun ls hl => ?_)
      refine lv_iconst (v := 0) hx hb dX5_shift_61 (by decide) ?_
      refine lv_istore (lv' := [(9, .int 0), (8, .int 0), (7, .int 0), (6, .int b_12), (5, .int (nf2_6 rr.toNatClampNeg)), (4, .int (nI j9)), (3, .int (nI j9)), (0, .ref m0), (1, .int rr), (2, .int wd)]) hx hb dX5_shift_62 hl (by decide) rfl (fun ls hl => ?_)
      refine q_loop (fun n9 H locs ls => ∃ (i9 : Nat) (v9 o9 t9 : Int32), i9 + n9 = j9 ∧ (0 < y_fault_9 ∨ isW v9) ∧ va_P (dC, dI) vwCl [(m0, .inr (5, [.int x_thrown, .ref mB, .ref mR, .int x_flags, .ref mO, .int x_outCount, .int x_steps, .ref mN, .int x_nowFlags, .int x_writePlace, .int x_writeSize, .int x_writeValue, .int y_fault_9, .int x_halt, .int x_isByte, .int y_atRegister_4, .int y_atPlace_5])), (mB, .inl (cY, 4096, .inl bf)), (mN, .inl (cN, 8, .inl nf2_6))] H ∧ va_D A [(m0, .inr (5, [.int x_thrown, .ref mB, .ref mR, .int x_flags, .ref mO, .int x_outCount, .int x_steps, .ref mN, .int x_nowFlags, .int x_writePlace, .int x_writeSize, .int x_writeValue, .int y_fault_9, .int x_halt, .int x_isByte, .int y_atRegister_4, .int y_atPlace_5])), (mB, .inl (cY, 4096, .inl bf)), (mN, .inl (cN, 8, .inl nf2_6))] ∧ va_S A s.heap H locs ∧ lv_has ls 10 [(9, .int (nI i9)), (5, .int v9), (7, .int o9), (8, .int t9), (0, .ref m0), (1, .int rr), (2, .int wd), (3, .int (nI j9)), (4, .int (nI j9)), (6, .int b_12)]) 64 (fun H locs ls hJ => ?_) (fun n9 ih H locs ls hJ => ?_) (j9 - 0) _ _ _ ⟨0, nf2_6 rr.toNatClampNeg, 0, 0, by omega, (okN_el (okN_mono hw_2.2.1 hw_8.2.1) hr9), hP, hD, hS, lv_sub hl [0, 4, 2, 1, 7, 8, 9, 6, 5, 3] rfl⟩
      · obtain ⟨i9, v9, o9, t9, he9, hv9, hP, hD, hS, hl⟩ := hJ
        have hi9 : i9 = j9 := by omega
        refine lv_iload hx hb dX5_shift_64 (lv_at hl 0 rfl) ?_
        refine lv_iload hx hb dX5_shift_66 (lv_at hl 8 rfl) ?_
        refine lv_icmp_ge (tgt := 131) hx hb dX5_shift_68 (by decide) (fun c_14 => ?_) (fun c9 => absurd (by rw [hi9]; exact Int32.le_refl _) c9)
        refine lv_iload hx hb dX5_shift_131 (lv_at hl 8 rfl) ?_
        refine lv_istore (lv' := [(9, .int (nI j9)), (5, .int v9), (7, .int o9), (8, .int t9), (0, .ref m0), (1, .int rr), (2, .int wd), (3, .int (nI j9)), (4, .int (nI j9)), (6, .int b_12)]) hx hb dX5_shift_133 hl (by decide) rfl (fun ls hl => ?_)
        refine lv_iload hx hb dX5_shift_135 (lv_at hl 0 rfl) ?_
        refine lv_if_ge (tgt := 173) hx hb dX5_shift_137 (by decide) (fun c_15 => ?_) (fun c9 => absurd (sh_nn hj9) c9)
        refine lv_aload_n hx hb dX5_shift_173 rfl (lv_at hl 4 rfl) ?_
        refine va_get (D := (dC, dI)) (ci := 5) (v := .ref mN) (C := RX5) (T := TX5) (N := 17) hx hb hts (by decide +kernel) hown hK hP 0 rfl rfl 7 (by decide) (hts (.fieldLink RX5 19 "WordGuestModel" "now" "[I") (by decide +kernel)) (fun _ h9 => h9) rfl dX5_shift_174 ?_
        refine lv_iload_n hx hb dX5_shift_177 rfl (lv_at hl 5 rfl) ?_
        refine lv_iload hx hb dX5_shift_178 (lv_at hl 1 rfl) ?_
        refine va_iast hx hb hK hP hD hS 2 1 rfl rfl hr9 dX5_shift_180 (fun H locs hP hD hS => ?_)
        have hP : va_P (dC, dI) vwCl [(m0, .inr (5, [.int x_thrown, .ref mB, .ref mR, .int x_flags, .ref mO, .int x_outCount, .int x_steps, .ref mN, .int x_nowFlags, .int x_writePlace, .int x_writeSize, .int x_writeValue, .int y_fault_9, .int x_halt, .int x_isByte, .int y_atRegister_4, .int y_atPlace_5])), (mB, .inl (cY, 4096, .inl bf)), (mN, .inl (cN, 8, .inl (upd nf2_6 rr.toNatClampNeg v9)))] H := hP
        have hD : va_D A [(m0, .inr (5, [.int x_thrown, .ref mB, .ref mR, .int x_flags, .ref mO, .int x_outCount, .int x_steps, .ref mN, .int x_nowFlags, .int x_writePlace, .int x_writeSize, .int x_writeValue, .int y_fault_9, .int x_halt, .int x_isByte, .int y_atRegister_4, .int y_atPlace_5])), (mB, .inl (cY, 4096, .inl bf)), (mN, .inl (cN, 8, .inl (upd nf2_6 rr.toNatClampNeg v9)))] := hD
        have hN_16 : okN y_fault_9 (upd nf2_6 rr.toNatClampNeg v9) := okN_or (okN_mono hw_2.2.1 hw_8.2.1) hv9 _
        generalize (upd nf2_6 rr.toNatClampNeg v9) = g_17 at hP hD hN_16
        refine lv_aload_n hx hb dX5_shift_181 rfl (lv_at hl 4 rfl) ?_
        refine lv_iload hx hb dX5_shift_182 (lv_at hl 1 rfl) ?_
        refine lv_sipush (v := 32767) hx hb dX5_shift_184 (by decide) ?_
        refine q_bool (ls := ls) 195 [.ref m0] (fun b_19 hb_20 => ?_) (fun jn => ?_)
        · refine lv_iload hx hb dX5_shift_195 (lv_at hl 1 rfl) ?_
          refine q_bool (ls := ls) 205 [.int b_19, .ref m0] (fun b_22 hb_23 => ?_) (fun jn => ?_)
          · refine lv_iload hx hb dX5_shift_205 (lv_at hl 1 rfl) ?_
            refine lv_sipush (v := 32767) hx hb dX5_shift_207 (by decide) ?_
            refine q_bool (ls := ls) 218 [.int b_22, .int b_19, .ref m0] (fun b_25 hb_26 => ?_) (fun jn => ?_)
            · refine lv_iload hx hb dX5_shift_218 (lv_at hl 9 rfl) ?_
              refine q_bool (ls := ls) 228 [.int b_22, .int b_19, .ref m0] (fun b_28 hb_29 => ?_) (fun jn => ?_)
              · refine lv_iload hx hb dX5_shift_228 (lv_at hl 2 rfl) ?_
                have hPc := hP.sub (ws' := [(m0, .inr (5, [.int x_thrown, .ref mB, .ref mR, .int x_flags, .ref mO, .int x_outCount, .int x_steps, .ref mN, .int x_nowFlags, .int x_writePlace, .int x_writeSize, .int x_writeValue, .int y_fault_9, .int x_halt, .int x_isByte, .int y_atRegister_4, .int y_atPlace_5]))]) [0] rfl
                have hDc := hD.sub (ws' := [(m0, .inr (5, [.int x_thrown, .ref mB, .ref mR, .int x_flags, .ref mO, .int x_outCount, .int x_steps, .ref mN, .int x_nowFlags, .int x_writePlace, .int x_writeSize, .int x_writeValue, .int y_fault_9, .int x_halt, .int x_isByte, .int y_atRegister_4, .int y_atPlace_5]))]) [0] (by decide) rfl
                have hKc := hK.sub (tys' := []) [] rfl
                have hFc := va_free (wc := [(m0, .inr (5, [.int x_thrown, .ref mB, .ref mR, .int x_flags, .ref mO, .int x_outCount, .int x_steps, .ref mN, .int x_nowFlags, .int x_writePlace, .int x_writeSize, .int x_writeValue, .int y_fault_9, .int x_halt, .int x_isByte, .int y_atRegister_4, .int y_atPlace_5]))]) hD hS hA [0] rfl
                refine va_callv (va_runV (C := RX5) (b := m0) (As := [.int b_19, .int b_22, .int b_28, .int o9]) (rest := []) ⟨hx, hb, hml, hown, hts⟩ (s_X5_set l dC dI H.size m0 b_19 b_22 b_28 o9 x_thrown mB mR x_flags mO x_outCount x_steps mN x_nowFlags x_writePlace x_writeSize x_writeValue y_fault_9 x_halt x_isByte y_atRegister_4 y_atPlace_5) (cwV 4 hts gX5_shift_X5_set rfl rfl rfl (by decide +kernel) ⟨Nat.le_of_ble_eq_true rfl, Nat.le_of_ble_eq_true rfl⟩) ⟨q_blind, va_recv hK hP (ci := 5) (q0 := 0) rfl rfl, fun U hU hW => ⟨rfl, q_pay hU hW hPc hKc hDc hN⟩⟩ rfl rfl hl.1 rfl (lv_room (Nat.le_of_ble_eq_true rfl)) dX5_shift_230 ⟨show 0 + 0 ≤ 0 from by omega, show 0 + 0 ≤ 0 from by omega⟩) hS (fun q _ h => hFc q h) hFc (fun u9 t H locs ht hvm hw_31 hB hz1 hk1 hS => ?_)
                obtain ⟨y_nowFlags_32, rfl⟩ : ∃ z, z = u9 := ⟨_, rfl⟩
                obtain ⟨hP1, hK1, hD1⟩ := hB
                rw [ht] at hP1
                obtain ⟨hP, hD⟩ := va_join (wr := [(mB, .inl (cY, 4096, .inl bf)), (mN, .inl (cN, 8, .inl g_17))]) (w1 := [(m0, .inr (5, [.int x_thrown, .ref mB, .ref mR, .int x_flags, .ref mO, .int x_outCount, .int x_steps, .ref mN, .int y_nowFlags_32, .int x_writePlace, .int x_writeSize, .int x_writeValue, .int y_fault_9, .int x_halt, .int x_isByte, .int y_atRegister_4, .int y_atPlace_5]))]) hP hD [0] [1, 2] rfl rfl (by decide) (by decide) hk1 hFc hP1 hD1
                have hP : va_P (dC, dI) vwCl [(mB, .inl (cY, 4096, .inl bf)), (mN, .inl (cN, 8, .inl g_17)), (m0, .inr (5, [.int x_thrown, .ref mB, .ref mR, .int x_flags, .ref mO, .int x_outCount, .int x_steps, .ref mN, .int y_nowFlags_32, .int x_writePlace, .int x_writeSize, .int x_writeValue, .int y_fault_9, .int x_halt, .int x_isByte, .int y_atRegister_4, .int y_atPlace_5]))] H := hP
                have hD : va_D A [(mB, .inl (cY, 4096, .inl bf)), (mN, .inl (cN, 8, .inl g_17)), (m0, .inr (5, [.int x_thrown, .ref mB, .ref mR, .int x_flags, .ref mO, .int x_outCount, .int x_steps, .ref mN, .int y_nowFlags_32, .int x_writePlace, .int x_writeSize, .int x_writeValue, .int y_fault_9, .int x_halt, .int x_isByte, .int y_atRegister_4, .int y_atPlace_5]))] := hD
                refine W.widen (k := 0) (n := 0) (by omega) (by omega) ?_
                try dsimp only at hw_31
                have hP9 := hP.sub (ws' := [(m0, .inr (5, [.int x_thrown, .ref mB, .ref mR, .int x_flags, .ref mO, .int x_outCount, .int x_steps, .ref mN, .int y_nowFlags_32, .int x_writePlace, .int x_writeSize, .int x_writeValue, .int y_fault_9, .int x_halt, .int x_isByte, .int y_atRegister_4, .int y_atPlace_5])), (mB, .inl (cY, 4096, .inl bf)), (mN, .inl (cN, 8, .inl g_17))]) [2, 0, 1] rfl
                have hD9 := hD.sub (ws' := [(m0, .inr (5, [.int x_thrown, .ref mB, .ref mR, .int x_flags, .ref mO, .int x_outCount, .int x_steps, .ref mN, .int y_nowFlags_32, .int x_writePlace, .int x_writeSize, .int x_writeValue, .int y_fault_9, .int x_halt, .int x_isByte, .int y_atRegister_4, .int y_atPlace_5])), (mB, .inl (cY, 4096, .inl bf)), (mN, .inl (cN, 8, .inl g_17))]) [2, 0, 1] (by decide) rfl
                have hK9 := hK.sub (tys' := [(cY, .int), (cN, .int)]) [0, 1] rfl
                exact W.vret hx hb hr (fun t ht hW => ⟨⟨(y_nowFlags_32, x_writePlace, x_writeSize, x_writeValue, y_fault_9, y_atRegister_4, y_atPlace_5, g_17), rfl, ⟨hw_8.1, hN_16, hWR⟩, by rw [ht]; exact hP9, va_K.moved hW.alike hK9, hD9⟩, hS.F ht⟩) hS.2.2 dX5_shift_233
              refine lv_icmp_eq (tgt := 227) hx hb dX5_shift_220 (by decide) (fun c_27 => ?_) (fun c_27 => ?_)
              · refine lv_iconst (v := 0) hx hb dX5_shift_227 (by decide) ?_
                exact jn _ (Or.inl rfl)
              · refine lv_iconst (v := 1) hx hb dX5_shift_223 (by decide) ?_
                refine lv_goto (tgt := 228) hx hb dX5_shift_224 (by decide) ?_
                exact jn _ (Or.inr rfl)
            refine lv_icmp_le (tgt := 217) hx hb dX5_shift_210 (by decide) (fun c_24 => ?_) (fun c_24 => ?_)
            · refine lv_iconst (v := 0) hx hb dX5_shift_217 (by decide) ?_
              exact jn _ (Or.inl rfl)
            · refine lv_iconst (v := 1) hx hb dX5_shift_213 (by decide) ?_
              refine lv_goto (tgt := 218) hx hb dX5_shift_214 (by decide) ?_
              exact jn _ (Or.inr rfl)
          refine lv_if_ne (tgt := 204) hx hb dX5_shift_197 (by decide) (fun c_21 => ?_) (fun c_21 => ?_)
          · refine lv_iconst (v := 0) hx hb dX5_shift_204 (by decide) ?_
            exact jn _ (Or.inl rfl)
          · refine lv_iconst (v := 1) hx hb dX5_shift_200 (by decide) ?_
            refine lv_goto (tgt := 205) hx hb dX5_shift_201 (by decide) ?_
            exact jn _ (Or.inr rfl)
        refine lv_icmp_le (tgt := 194) hx hb dX5_shift_187 (by decide) (fun c_18 => ?_) (fun c_18 => ?_)
        · refine lv_iconst (v := 0) hx hb dX5_shift_194 (by decide) ?_
          exact jn _ (Or.inl rfl)
        · refine lv_iconst (v := 1) hx hb dX5_shift_190 (by decide) ?_
          refine lv_goto (tgt := 195) hx hb dX5_shift_191 (by decide) ?_
          exact jn _ (Or.inr rfl)
      · obtain ⟨i9, v9, o9, t9, he9, hv9, hP, hD, hS, hl⟩ := hJ
        have hi9 : i9 < j9 := by omega
        refine lv_iload hx hb dX5_shift_64 (lv_at hl 0 rfl) ?_
        refine lv_iload hx hb dX5_shift_66 (lv_at hl 8 rfl) ?_
        refine lv_icmp_ge (tgt := 131) hx hb dX5_shift_68 (by decide) (fun c9 => absurd c9 (nI_ge (b := j9) hi9 (by omega))) (fun c_33 => ?_)
        refine lv_iload hx hb dX5_shift_71 (lv_at hl 1 rfl) ?_
        refine lv_sipush (v := 32767) hx hb dX5_shift_73 (by decide) ?_
        refine q_bool (ls := ls) 84 [] (fun b_35 hb_36 => ?_) (fun jn => ?_)
        · refine lv_istore (lv' := [(7, .int b_35), (9, .int (nI i9)), (5, .int v9), (8, .int t9), (0, .ref m0), (1, .int rr), (2, .int wd), (3, .int (nI j9)), (4, .int (nI j9)), (6, .int b_12)]) hx hb dX5_shift_84 hl (by decide) rfl (fun ls hl => ?_)
          refine lv_iload hx hb dX5_shift_86 (lv_at hl 2 rfl) ?_
          refine lv_iconst (v := 1) hx hb dX5_shift_88 (by decide) ?_
          refine lv_ishl hx hb dX5_shift_89 ?_
          refine lv_ldc (v := 65535) hx hb hown (hts (.constant RX5 30 (65535)) (by decide +kernel)) dX5_shift_90 ?_
          refine lv_iand hx hb dX5_shift_92 ?_
          refine lv_istore (lv' := [(5, .int ((v9 <<< (1 &&& 31)) &&& 65535)), (7, .int b_35), (9, .int (nI i9)), (8, .int t9), (0, .ref m0), (1, .int rr), (2, .int wd), (3, .int (nI j9)), (4, .int (nI j9)), (6, .int b_12)]) hx hb dX5_shift_93 hl (by decide) rfl (fun ls hl => ?_)
          refine lv_iload hx hb dX5_shift_95 (lv_at hl 3 rfl) ?_
          refine lv_if_ne (tgt := 118) hx hb dX5_shift_97 (by decide) (fun c_37 => ?_) (fun c_37 => ?_)
          · refine lv_iconst (v := 1) hx hb dX5_shift_118 (by decide) ?_
            refine lv_goto (tgt := 123) hx hb dX5_shift_119 (by decide) ?_
            refine lv_istore (lv' := [(8, .int 1), (5, .int ((v9 <<< (1 &&& 31)) &&& 65535)), (7, .int b_35), (9, .int (nI i9)), (0, .ref m0), (1, .int rr), (2, .int wd), (3, .int (nI j9)), (4, .int (nI j9)), (6, .int b_12)]) hx hb dX5_shift_123 hl (by decide) rfl (fun ls hl => ?_)
            refine lv_iinc (v := nI (i9 + 1)) (lv' := [(9, .int (nI (i9 + 1))), (8, .int 1), (5, .int ((v9 <<< (1 &&& 31)) &&& 65535)), (7, .int b_35), (0, .ref m0), (1, .int rr), (2, .int wd), (3, .int (nI j9)), (4, .int (nI j9)), (6, .int b_12)]) hx hb dX5_shift_125 hl (k := 3) rfl (nI_1 i9) (by decide) rfl (fun ls hl => ?_)
            refine lv_goto (tgt := 64) hx hb dX5_shift_128 (by decide) ?_
            exact ih _ _ _ ⟨i9 + 1, (v9 <<< (1 &&& 31)) &&& 65535, b_35, 1, by omega, Or.inr (isW_and _), hP, hD, hS, lv_sub hl [0, 2, 3, 1, 4, 5, 6, 7, 8, 9] rfl⟩
          · refine lv_iload hx hb dX5_shift_100 (lv_at hl 0 rfl) ?_
            refine lv_sipush (v := 32767) hx hb dX5_shift_102 (by decide) ?_
            refine q_bool (ls := ls) 113 [] (fun b_39 hb_40 => ?_) (fun jn => ?_)
            · refine lv_iload hx hb dX5_shift_113 (lv_at hl 9 rfl) ?_
              refine q_bool (ls := ls) 123 [] (fun b_42 hb_43 => ?_) (fun jn => ?_)
              · refine lv_istore (lv' := [(8, .int b_42), (5, .int ((v9 <<< (1 &&& 31)) &&& 65535)), (7, .int b_35), (9, .int (nI i9)), (0, .ref m0), (1, .int rr), (2, .int wd), (3, .int (nI j9)), (4, .int (nI j9)), (6, .int b_12)]) hx hb dX5_shift_123 hl (by decide) rfl (fun ls hl => ?_)
                refine lv_iinc (v := nI (i9 + 1)) (lv' := [(9, .int (nI (i9 + 1))), (8, .int b_42), (5, .int ((v9 <<< (1 &&& 31)) &&& 65535)), (7, .int b_35), (0, .ref m0), (1, .int rr), (2, .int wd), (3, .int (nI j9)), (4, .int (nI j9)), (6, .int b_12)]) hx hb dX5_shift_125 hl (k := 3) rfl (nI_1 i9) (by decide) rfl (fun ls hl => ?_)
                refine lv_goto (tgt := 64) hx hb dX5_shift_128 (by decide) ?_
                exact ih _ _ _ ⟨i9 + 1, (v9 <<< (1 &&& 31)) &&& 65535, b_35, b_42, by omega, Or.inr (isW_and _), hP, hD, hS, lv_sub hl [0, 2, 3, 1, 4, 5, 6, 7, 8, 9] rfl⟩
              refine lv_icmp_eq (tgt := 122) hx hb dX5_shift_115 (by decide) (fun c_41 => ?_) (fun c_41 => ?_)
              · refine lv_iconst (v := 0) hx hb dX5_shift_122 (by decide) ?_
                exact jn _ (Or.inl rfl)
              · refine lv_iconst (v := 1) hx hb dX5_shift_118 (by decide) ?_
                refine lv_goto (tgt := 123) hx hb dX5_shift_119 (by decide) ?_
                exact jn _ (Or.inr rfl)
            refine lv_icmp_le (tgt := 112) hx hb dX5_shift_105 (by decide) (fun c_38 => ?_) (fun c_38 => ?_)
            · refine lv_iconst (v := 0) hx hb dX5_shift_112 (by decide) ?_
              exact jn _ (Or.inl rfl)
            · refine lv_iconst (v := 1) hx hb dX5_shift_108 (by decide) ?_
              refine lv_goto (tgt := 113) hx hb dX5_shift_109 (by decide) ?_
              exact jn _ (Or.inr rfl)
        refine lv_icmp_le (tgt := 83) hx hb dX5_shift_76 (by decide) (fun c_34 => ?_) (fun c_34 => ?_)
        · refine lv_iconst (v := 0) hx hb dX5_shift_83 (by decide) ?_
          exact jn _ (Or.inl rfl)
        · refine lv_iconst (v := 1) hx hb dX5_shift_79 (by decide) ?_
          refine lv_goto (tgt := 84) hx hb dX5_shift_80 (by decide) ?_
          exact jn _ (Or.inr rfl)
    refine lv_icmp_le (tgt := 52) hx hb dX5_shift_45 (by decide) (fun c_11 => ?_) (fun c_11 => ?_)
    · refine lv_iconst (v := 0) hx hb dX5_shift_52 (by decide) ?_
      exact jn _ (Or.inl rfl)
    · refine lv_iconst (v := 1) hx hb dX5_shift_48 (by decide) ?_
      refine lv_goto (tgt := 53) hx hb dX5_shift_49 (by decide) ?_
      exact jn _ (Or.inr rfl)
  · refine lv_iload_n hx hb dX5_shift_22 rfl (lv_at hl 0 rfl) ?_
    refine lv_bipush (v := 64) hx hb dX5_shift_23 (by decide) ?_
    refine lv_isub hx hb dX5_shift_25 ?_
    refine lv_goto (tgt := 30) hx hb dX5_shift_26 (by decide) ?_
    refine lv_istore (lv' := [(4, .int ((nI j9) - 64)), (3, .int (nI j9)), (0, .ref m0), (1, .int rr), (2, .int wd)]) hx hb dX5_shift_30 hl (by decide) rfl (fun ls hl => ?_)
    refine lv_aload_n hx hb dX5_shift_32 rfl (lv_at hl 2 rfl) ?_
    refine va_get (D := (dC, dI)) (ci := 5) (v := .ref mN) (C := RX5) (T := TX5) (N := 17) hx hb hts (by decide +kernel) hown hK hP 0 rfl rfl 7 (by decide) (hts (.fieldLink RX5 19 "WordGuestModel" "now" "[I") (by decide +kernel)) (fun _ h9 => h9) rfl dX5_shift_33 ?_
    refine lv_iload_n hx hb dX5_shift_36 rfl (lv_at hl 3 rfl) ?_
    refine va_iald hx hb hK hP 2 1 rfl rfl hr9 dX5_shift_37 ?_
    refine lv_istore (lv' := [(5, .int (nf2_6 rr.toNatClampNeg)), (4, .int ((nI j9) - 64)), (3, .int (nI j9)), (0, .ref m0), (1, .int rr), (2, .int wd)]) hx hb dX5_shift_38 hl (by decide) rfl (fun ls hl => ?_)
    refine lv_iload hx hb dX5_shift_40 (lv_at hl 0 rfl) ?_
    refine lv_sipush (v := 32767) hx hb dX5_shift_42 (by decide) ?_
    refine q_bool (ls := ls) 53 [] (fun b_45 hb_46 => ?_) (fun jn => ?_)
    · refine lv_istore (lv' := [(6, .int b_45), (5, .int (nf2_6 rr.toNatClampNeg)), (4, .int ((nI j9) - 64)), (3, .int (nI j9)), (0, .ref m0), (1, .int rr), (2, .int wd)]) hx hb dX5_shift_53 hl (by decide) rfl (fun ls hl => ?_)
      refine lv_iconst (v := 0) hx hb dX5_shift_55 (by decide) ?_
      refine lv_istore (lv' := [(7, .int 0), (6, .int b_45), (5, .int (nf2_6 rr.toNatClampNeg)), (4, .int ((nI j9) - 64)), (3, .int (nI j9)), (0, .ref m0), (1, .int rr), (2, .int wd)]) hx hb dX5_shift_56 hl (by decide) rfl (fun ls hl => ?_)
      refine lv_iconst (v := 0) hx hb dX5_shift_58 (by decide) ?_
      refine lv_istore (lv' := [(8, .int 0), (7, .int 0), (6, .int b_45), (5, .int (nf2_6 rr.toNatClampNeg)), (4, .int ((nI j9) - 64)), (3, .int (nI j9)), (0, .ref m0), (1, .int rr), (2, .int wd)]) hx hb dX5_shift_59 hl (by decide) rfl (fun ls hl => ?_)
      refine lv_iconst (v := 0) hx hb dX5_shift_61 (by decide) ?_
      refine lv_istore (lv' := [(9, .int 0), (8, .int 0), (7, .int 0), (6, .int b_45), (5, .int (nf2_6 rr.toNatClampNeg)), (4, .int ((nI j9) - 64)), (3, .int (nI j9)), (0, .ref m0), (1, .int rr), (2, .int wd)]) hx hb dX5_shift_62 hl (by decide) rfl (fun ls hl => ?_)
      have hj8 : 32 ≤ j9 := sh_gt hj9 c_10
      refine lv_iload hx hb dX5_shift_64 (lv_at hl 0 rfl) ?_
      refine lv_iload hx hb dX5_shift_66 (lv_at hl 5 rfl) ?_
      refine lv_icmp_ge (tgt := 131) hx hb dX5_shift_68 (by decide) (fun c_47 => ?_) (fun c9 => absurd (sh_le0 (by omega)) c9)
      refine lv_iload hx hb dX5_shift_131 (lv_at hl 5 rfl) ?_
      refine lv_istore (lv' := [(9, .int ((nI j9) - 64)), (8, .int 0), (7, .int 0), (6, .int b_45), (5, .int (nf2_6 rr.toNatClampNeg)), (4, .int ((nI j9) - 64)), (3, .int (nI j9)), (0, .ref m0), (1, .int rr), (2, .int wd)]) hx hb dX5_shift_133 hl (by decide) rfl (fun ls hl => ?_)
      refine q_loop (fun n9 H locs ls => ∃ (i9 : Nat) (v9 o9 t9 : Int32), i9 + n9 = 64 ∧ (0 < y_fault_9 ∨ isW v9) ∧ va_P (dC, dI) vwCl [(m0, .inr (5, [.int x_thrown, .ref mB, .ref mR, .int x_flags, .ref mO, .int x_outCount, .int x_steps, .ref mN, .int x_nowFlags, .int x_writePlace, .int x_writeSize, .int x_writeValue, .int y_fault_9, .int x_halt, .int x_isByte, .int y_atRegister_4, .int y_atPlace_5])), (mB, .inl (cY, 4096, .inl bf)), (mN, .inl (cN, 8, .inl nf2_6))] H ∧ va_D A [(m0, .inr (5, [.int x_thrown, .ref mB, .ref mR, .int x_flags, .ref mO, .int x_outCount, .int x_steps, .ref mN, .int x_nowFlags, .int x_writePlace, .int x_writeSize, .int x_writeValue, .int y_fault_9, .int x_halt, .int x_isByte, .int y_atRegister_4, .int y_atPlace_5])), (mB, .inl (cY, 4096, .inl bf)), (mN, .inl (cN, 8, .inl nf2_6))] ∧ va_S A s.heap H locs ∧ lv_has ls 10 [(9, .int (nI i9 - 64)), (5, .int v9), (7, .int o9), (8, .int t9), (0, .ref m0), (1, .int rr), (2, .int wd), (3, .int (nI j9)), (4, .int ((nI j9) - 64)), (6, .int b_45)]) 135 (fun H locs ls hJ => ?_) (fun n9 ih H locs ls hJ => ?_) (64 - j9) _ _ _ ⟨j9, nf2_6 rr.toNatClampNeg, 0, 0, by omega, (okN_el (okN_mono hw_2.2.1 hw_8.2.1) hr9), hP, hD, hS, lv_sub hl [0, 4, 2, 1, 7, 8, 9, 6, 5, 3] rfl⟩
      · obtain ⟨i9, v9, o9, t9, he9, hv9, hP, hD, hS, hl⟩ := hJ
        have hi9 : i9 = 64 := by omega
        refine lv_iload hx hb dX5_shift_135 (lv_at hl 0 rfl) ?_
        refine lv_if_ge (tgt := 173) hx hb dX5_shift_137 (by decide) (fun c_48 => ?_) (fun c9 => absurd (by rw [hi9]; decide) c9)
        refine lv_aload_n hx hb dX5_shift_173 rfl (lv_at hl 4 rfl) ?_
        refine va_get (D := (dC, dI)) (ci := 5) (v := .ref mN) (C := RX5) (T := TX5) (N := 17) hx hb hts (by decide +kernel) hown hK hP 0 rfl rfl 7 (by decide) (hts (.fieldLink RX5 19 "WordGuestModel" "now" "[I") (by decide +kernel)) (fun _ h9 => h9) rfl dX5_shift_174 ?_
        refine lv_iload_n hx hb dX5_shift_177 rfl (lv_at hl 5 rfl) ?_
        refine lv_iload hx hb dX5_shift_178 (lv_at hl 1 rfl) ?_
        refine va_iast hx hb hK hP hD hS 2 1 rfl rfl hr9 dX5_shift_180 (fun H locs hP hD hS => ?_)
        have hP : va_P (dC, dI) vwCl [(m0, .inr (5, [.int x_thrown, .ref mB, .ref mR, .int x_flags, .ref mO, .int x_outCount, .int x_steps, .ref mN, .int x_nowFlags, .int x_writePlace, .int x_writeSize, .int x_writeValue, .int y_fault_9, .int x_halt, .int x_isByte, .int y_atRegister_4, .int y_atPlace_5])), (mB, .inl (cY, 4096, .inl bf)), (mN, .inl (cN, 8, .inl (upd nf2_6 rr.toNatClampNeg v9)))] H := hP
        have hD : va_D A [(m0, .inr (5, [.int x_thrown, .ref mB, .ref mR, .int x_flags, .ref mO, .int x_outCount, .int x_steps, .ref mN, .int x_nowFlags, .int x_writePlace, .int x_writeSize, .int x_writeValue, .int y_fault_9, .int x_halt, .int x_isByte, .int y_atRegister_4, .int y_atPlace_5])), (mB, .inl (cY, 4096, .inl bf)), (mN, .inl (cN, 8, .inl (upd nf2_6 rr.toNatClampNeg v9)))] := hD
        have hN_49 : okN y_fault_9 (upd nf2_6 rr.toNatClampNeg v9) := okN_or (okN_mono hw_2.2.1 hw_8.2.1) hv9 _
        generalize (upd nf2_6 rr.toNatClampNeg v9) = g_50 at hP hD hN_49
        refine lv_aload_n hx hb dX5_shift_181 rfl (lv_at hl 4 rfl) ?_
        refine lv_iload hx hb dX5_shift_182 (lv_at hl 1 rfl) ?_
        refine lv_sipush (v := 32767) hx hb dX5_shift_184 (by decide) ?_
        refine q_bool (ls := ls) 195 [.ref m0] (fun b_52 hb_53 => ?_) (fun jn => ?_)
        · refine lv_iload hx hb dX5_shift_195 (lv_at hl 1 rfl) ?_
          refine q_bool (ls := ls) 205 [.int b_52, .ref m0] (fun b_55 hb_56 => ?_) (fun jn => ?_)
          · refine lv_iload hx hb dX5_shift_205 (lv_at hl 1 rfl) ?_
            refine lv_sipush (v := 32767) hx hb dX5_shift_207 (by decide) ?_
            refine q_bool (ls := ls) 218 [.int b_55, .int b_52, .ref m0] (fun b_58 hb_59 => ?_) (fun jn => ?_)
            · refine lv_iload hx hb dX5_shift_218 (lv_at hl 9 rfl) ?_
              refine q_bool (ls := ls) 228 [.int b_55, .int b_52, .ref m0] (fun b_61 hb_62 => ?_) (fun jn => ?_)
              · refine lv_iload hx hb dX5_shift_228 (lv_at hl 2 rfl) ?_
                have hPc := hP.sub (ws' := [(m0, .inr (5, [.int x_thrown, .ref mB, .ref mR, .int x_flags, .ref mO, .int x_outCount, .int x_steps, .ref mN, .int x_nowFlags, .int x_writePlace, .int x_writeSize, .int x_writeValue, .int y_fault_9, .int x_halt, .int x_isByte, .int y_atRegister_4, .int y_atPlace_5]))]) [0] rfl
                have hDc := hD.sub (ws' := [(m0, .inr (5, [.int x_thrown, .ref mB, .ref mR, .int x_flags, .ref mO, .int x_outCount, .int x_steps, .ref mN, .int x_nowFlags, .int x_writePlace, .int x_writeSize, .int x_writeValue, .int y_fault_9, .int x_halt, .int x_isByte, .int y_atRegister_4, .int y_atPlace_5]))]) [0] (by decide) rfl
                have hKc := hK.sub (tys' := []) [] rfl
                have hFc := va_free (wc := [(m0, .inr (5, [.int x_thrown, .ref mB, .ref mR, .int x_flags, .ref mO, .int x_outCount, .int x_steps, .ref mN, .int x_nowFlags, .int x_writePlace, .int x_writeSize, .int x_writeValue, .int y_fault_9, .int x_halt, .int x_isByte, .int y_atRegister_4, .int y_atPlace_5]))]) hD hS hA [0] rfl
                refine va_callv (va_runV (C := RX5) (b := m0) (As := [.int b_52, .int b_55, .int b_61, .int o9]) (rest := []) ⟨hx, hb, hml, hown, hts⟩ (s_X5_set l dC dI H.size m0 b_52 b_55 b_61 o9 x_thrown mB mR x_flags mO x_outCount x_steps mN x_nowFlags x_writePlace x_writeSize x_writeValue y_fault_9 x_halt x_isByte y_atRegister_4 y_atPlace_5) (cwV 4 hts gX5_shift_X5_set rfl rfl rfl (by decide +kernel) ⟨Nat.le_of_ble_eq_true rfl, Nat.le_of_ble_eq_true rfl⟩) ⟨q_blind, va_recv hK hP (ci := 5) (q0 := 0) rfl rfl, fun U hU hW => ⟨rfl, q_pay hU hW hPc hKc hDc hN⟩⟩ rfl rfl hl.1 rfl (lv_room (Nat.le_of_ble_eq_true rfl)) dX5_shift_230 ⟨show 0 + 0 ≤ 0 from by omega, show 0 + 0 ≤ 0 from by omega⟩) hS (fun q _ h => hFc q h) hFc (fun u9 t H locs ht hvm hw_64 hB hz1 hk1 hS => ?_)
                obtain ⟨y_nowFlags_65, rfl⟩ : ∃ z, z = u9 := ⟨_, rfl⟩
                obtain ⟨hP1, hK1, hD1⟩ := hB
                rw [ht] at hP1
                obtain ⟨hP, hD⟩ := va_join (wr := [(mB, .inl (cY, 4096, .inl bf)), (mN, .inl (cN, 8, .inl g_50))]) (w1 := [(m0, .inr (5, [.int x_thrown, .ref mB, .ref mR, .int x_flags, .ref mO, .int x_outCount, .int x_steps, .ref mN, .int y_nowFlags_65, .int x_writePlace, .int x_writeSize, .int x_writeValue, .int y_fault_9, .int x_halt, .int x_isByte, .int y_atRegister_4, .int y_atPlace_5]))]) hP hD [0] [1, 2] rfl rfl (by decide) (by decide) hk1 hFc hP1 hD1
                have hP : va_P (dC, dI) vwCl [(mB, .inl (cY, 4096, .inl bf)), (mN, .inl (cN, 8, .inl g_50)), (m0, .inr (5, [.int x_thrown, .ref mB, .ref mR, .int x_flags, .ref mO, .int x_outCount, .int x_steps, .ref mN, .int y_nowFlags_65, .int x_writePlace, .int x_writeSize, .int x_writeValue, .int y_fault_9, .int x_halt, .int x_isByte, .int y_atRegister_4, .int y_atPlace_5]))] H := hP
                have hD : va_D A [(mB, .inl (cY, 4096, .inl bf)), (mN, .inl (cN, 8, .inl g_50)), (m0, .inr (5, [.int x_thrown, .ref mB, .ref mR, .int x_flags, .ref mO, .int x_outCount, .int x_steps, .ref mN, .int y_nowFlags_65, .int x_writePlace, .int x_writeSize, .int x_writeValue, .int y_fault_9, .int x_halt, .int x_isByte, .int y_atRegister_4, .int y_atPlace_5]))] := hD
                refine W.widen (k := 0) (n := 0) (by omega) (by omega) ?_
                try dsimp only at hw_64
                have hP9 := hP.sub (ws' := [(m0, .inr (5, [.int x_thrown, .ref mB, .ref mR, .int x_flags, .ref mO, .int x_outCount, .int x_steps, .ref mN, .int y_nowFlags_65, .int x_writePlace, .int x_writeSize, .int x_writeValue, .int y_fault_9, .int x_halt, .int x_isByte, .int y_atRegister_4, .int y_atPlace_5])), (mB, .inl (cY, 4096, .inl bf)), (mN, .inl (cN, 8, .inl g_50))]) [2, 0, 1] rfl
                have hD9 := hD.sub (ws' := [(m0, .inr (5, [.int x_thrown, .ref mB, .ref mR, .int x_flags, .ref mO, .int x_outCount, .int x_steps, .ref mN, .int y_nowFlags_65, .int x_writePlace, .int x_writeSize, .int x_writeValue, .int y_fault_9, .int x_halt, .int x_isByte, .int y_atRegister_4, .int y_atPlace_5])), (mB, .inl (cY, 4096, .inl bf)), (mN, .inl (cN, 8, .inl g_50))]) [2, 0, 1] (by decide) rfl
                have hK9 := hK.sub (tys' := [(cY, .int), (cN, .int)]) [0, 1] rfl
                exact W.vret hx hb hr (fun t ht hW => ⟨⟨(y_nowFlags_65, x_writePlace, x_writeSize, x_writeValue, y_fault_9, y_atRegister_4, y_atPlace_5, g_50), rfl, ⟨hw_8.1, hN_49, hWR⟩, by rw [ht]; exact hP9, va_K.moved hW.alike hK9, hD9⟩, hS.F ht⟩) hS.2.2 dX5_shift_233
              refine lv_icmp_eq (tgt := 227) hx hb dX5_shift_220 (by decide) (fun c_60 => ?_) (fun c_60 => ?_)
              · refine lv_iconst (v := 0) hx hb dX5_shift_227 (by decide) ?_
                exact jn _ (Or.inl rfl)
              · refine lv_iconst (v := 1) hx hb dX5_shift_223 (by decide) ?_
                refine lv_goto (tgt := 228) hx hb dX5_shift_224 (by decide) ?_
                exact jn _ (Or.inr rfl)
            refine lv_icmp_le (tgt := 217) hx hb dX5_shift_210 (by decide) (fun c_57 => ?_) (fun c_57 => ?_)
            · refine lv_iconst (v := 0) hx hb dX5_shift_217 (by decide) ?_
              exact jn _ (Or.inl rfl)
            · refine lv_iconst (v := 1) hx hb dX5_shift_213 (by decide) ?_
              refine lv_goto (tgt := 218) hx hb dX5_shift_214 (by decide) ?_
              exact jn _ (Or.inr rfl)
          refine lv_if_ne (tgt := 204) hx hb dX5_shift_197 (by decide) (fun c_54 => ?_) (fun c_54 => ?_)
          · refine lv_iconst (v := 0) hx hb dX5_shift_204 (by decide) ?_
            exact jn _ (Or.inl rfl)
          · refine lv_iconst (v := 1) hx hb dX5_shift_200 (by decide) ?_
            refine lv_goto (tgt := 205) hx hb dX5_shift_201 (by decide) ?_
            exact jn _ (Or.inr rfl)
        refine lv_icmp_le (tgt := 194) hx hb dX5_shift_187 (by decide) (fun c_51 => ?_) (fun c_51 => ?_)
        · refine lv_iconst (v := 0) hx hb dX5_shift_194 (by decide) ?_
          exact jn _ (Or.inl rfl)
        · refine lv_iconst (v := 1) hx hb dX5_shift_190 (by decide) ?_
          refine lv_goto (tgt := 195) hx hb dX5_shift_191 (by decide) ?_
          exact jn _ (Or.inr rfl)
      · obtain ⟨i9, v9, o9, t9, he9, hv9, hP, hD, hS, hl⟩ := hJ
        have hi9 : i9 < 64 := by omega
        refine lv_iload hx hb dX5_shift_135 (lv_at hl 0 rfl) ?_
        refine lv_if_ge (tgt := 173) hx hb dX5_shift_137 (by decide) (fun c9 => absurd c9 (sh_neg hi9)) (fun c_66 => ?_)
        refine lv_iload hx hb dX5_shift_140 (lv_at hl 1 rfl) ?_
        refine lv_iconst (v := 1) hx hb dX5_shift_142 (by decide) ?_
        refine lv_iand hx hb dX5_shift_143 ?_
        refine lv_iconst (v := 1) hx hb dX5_shift_144 (by decide) ?_
        refine q_bool (ls := ls) 153 [] (fun b_68 hb_69 => ?_) (fun jn => ?_)
        · refine lv_istore (lv' := [(7, .int b_68), (9, .int (nI i9 - 64)), (5, .int v9), (8, .int t9), (0, .ref m0), (1, .int rr), (2, .int wd), (3, .int (nI j9)), (4, .int ((nI j9) - 64)), (6, .int b_45)]) hx hb dX5_shift_153 hl (by decide) rfl (fun ls hl => ?_)
          refine lv_iload hx hb dX5_shift_155 (lv_at hl 2 rfl) ?_
          refine lv_iconst (v := 1) hx hb dX5_shift_157 (by decide) ?_
          refine lv_ishr hx hb dX5_shift_158 ?_
          refine lv_iload hx hb dX5_shift_159 (lv_at hl 2 rfl) ?_
          refine lv_ldc (v := 32768) hx hb hown (hts (.constant RX5 86 (32768)) (by decide +kernel)) dX5_shift_161 ?_
          refine lv_iand hx hb dX5_shift_163 ?_
          refine lv_ior hx hb dX5_shift_164 ?_
          refine lv_istore (lv' := [(5, .int ((v9 >>> (1 &&& 31)) ||| (v9 &&& 32768))), (7, .int b_68), (9, .int (nI i9 - 64)), (8, .int t9), (0, .ref m0), (1, .int rr), (2, .int wd), (3, .int (nI j9)), (4, .int ((nI j9) - 64)), (6, .int b_45)]) hx hb dX5_shift_165 hl (by decide) rfl (fun ls hl => ?_)
          refine lv_iinc (v := (nI i9 - 64) + 1) (lv' := [(9, .int ((nI i9 - 64) + 1)), (5, .int ((v9 >>> (1 &&& 31)) ||| (v9 &&& 32768))), (7, .int b_68), (8, .int t9), (0, .ref m0), (1, .int rr), (2, .int wd), (3, .int (nI j9)), (4, .int ((nI j9) - 64)), (6, .int b_45)]) hx hb dX5_shift_167 hl (k := 2) rfl (by rfl) (by decide) rfl (fun ls hl => ?_)
          refine lv_goto (tgt := 135) hx hb dX5_shift_170 (by decide) ?_
          rw [sh_s i9] at hl
          exact ih _ _ _ ⟨i9 + 1, (v9 >>> (1 &&& 31)) ||| (v9 &&& 32768), b_68, t9, by omega, or_sar hv9, hP, hD, hS, lv_sub hl [0, 1, 2, 3, 4, 5, 6, 7, 8, 9] rfl⟩
        refine lv_icmp_ne (tgt := 152) hx hb dX5_shift_145 (by decide) (fun c_67 => ?_) (fun c_67 => ?_)
        · refine lv_iconst (v := 0) hx hb dX5_shift_152 (by decide) ?_
          exact jn _ (Or.inl rfl)
        · refine lv_iconst (v := 1) hx hb dX5_shift_148 (by decide) ?_
          refine lv_goto (tgt := 153) hx hb dX5_shift_149 (by decide) ?_
          exact jn _ (Or.inr rfl)
    refine lv_icmp_le (tgt := 52) hx hb dX5_shift_45 (by decide) (fun c_44 => ?_) (fun c_44 => ?_)
    · refine lv_iconst (v := 0) hx hb dX5_shift_52 (by decide) ?_
      exact jn _ (Or.inl rfl)
    · refine lv_iconst (v := 1) hx hb dX5_shift_48 (by decide) ?_
      refine lv_goto (tgt := 53) hx hb dX5_shift_49 (by decide) ?_
      exact jn _ (Or.inr rfl)
