theorem okN_el {ft : Int32} {f : Nat → Int32} (h : okN ft f) {x : Int32} (hx : vp_in x 8) : 0 < ft ∨ isW (f x.toNatClampNeg) := h.elim Or.inl (fun q => Or.inr (q _ (in_lt hx)))
set_option maxHeartbeats 4000000 in
set_option maxRecDepth 100000 in
theorem s_X5_fail (l : Launch) (dC : Nat → ClassId) (dI : Nat → Nat → Nat) (sz : Nat) (m0 : Nat) (wh : Int32) (x_thrown : Int32) (mB : Nat) (mR : Nat) (x_flags : Int32) (mO : Nat) (x_outCount : Int32) (x_steps : Int32) (mN : Nat) (x_nowFlags : Int32) (x_writePlace : Int32) (x_writeSize : Int32) (x_writeValue : Int32) (x_fault : Int32) (x_halt : Int32) (x_isByte : Int32) (x_atRegister : Int32) (x_atPlace : Int32) (hF : okF x_fault) (hw9 : 0 < wh) : Met l yX5_fail wsX5_fail ({ frames := 0, cells := 0, slots := 0, locals := 0 }) (va_Pc [.ref m0, .int wh] (q_pre dC dI sz [(m0, .inr (5, [.int x_thrown, .ref mB, .ref mR, .int x_flags, .ref mO, .int x_outCount, .int x_steps, .ref mN, .int x_nowFlags, .int x_writePlace, .int x_writeSize, .int x_writeValue, .int x_fault, .int x_halt, .int x_isByte, .int x_atRegister, .int x_atPlace]))] [])) (va_Qv (fun (u9 : Int32) => 0 < u9) (q_at dC dI (va_A [(m0, .inr (5, [.int x_thrown, .ref mB, .ref mR, .int x_flags, .ref mO, .int x_outCount, .int x_steps, .ref mN, .int x_nowFlags, .int x_writePlace, .int x_writeSize, .int x_writeValue, .int x_fault, .int x_halt, .int x_isByte, .int x_atRegister, .int x_atPlace]))] sz) (fun (u9 : Int32) => []) (fun (u9 : Int32) => [(m0, .inr (5, [.int x_thrown, .ref mB, .ref mR, .int x_flags, .ref mO, .int x_outCount, .int x_steps, .ref mN, .int x_nowFlags, .int x_writePlace, .int x_writeSize, .int x_writeValue, .int u9, .int x_halt, .int x_isByte, .int x_atRegister, .int x_atPlace]))])) (va_A [(m0, .inr (5, [.int x_thrown, .ref mB, .ref mR, .int x_flags, .ref mO, .int x_outCount, .int x_steps, .ref mN, .int x_nowFlags, .int x_writePlace, .int x_writeSize, .int x_writeValue, .int x_fault, .int x_halt, .int x_isByte, .int x_atRegister, .int x_atPlace]))] sz)) 0 0 (va_A [(m0, .inr (5, [.int x_thrown, .ref mB, .ref mR, .int x_flags, .ref mO, .int x_outCount, .int x_steps, .ref mN, .int x_nowFlags, .int x_writePlace, .int x_writeSize, .int x_writeValue, .int x_fault, .int x_halt, .int x_isByte, .int x_atRegister, .int x_atPlace]))] sz) := by
  refine Met.ofW (cc := cX5_fail) (maxL := 2) (ret := none) (by decide) rfl ?_
  intro p e s m args below meth c s₁ B hml hv
  obtain ⟨rfl, hsz, hP, hK, hD0, hN⟩ := hv
  have hx := B.exec
  have hb := B.bytes
  have hr := B.returns
  have hts := atoms_spec (ws := wsX5_fail) B.pre
  have hown : s.vm.findClass RX5 = some m.cls := findClass_of_methodNamed B.named
  have hlocks := B.notSynchronized
  subst hsz
  have hD := hD0.self (sz := s.heap.size)
  generalize hAe : va_A [(m0, .inr (5, [.int x_thrown, .ref mB, .ref mR, .int x_flags, .ref mO, .int x_outCount, .int x_steps, .ref mN, .int x_nowFlags, .int x_writePlace, .int x_writeSize, .int x_writeValue, .int x_fault, .int x_halt, .int x_isByte, .int x_atRegister, .int x_atPlace]))] s.heap.size = A at hD ⊢
  have hA : ∀ q : Nat, s.heap.size ≤ q → A q := fun q h => by rw [← hAe]; exact Or.inr h
  have hS : va_S A s.heap s.heap [] := va_S.rf
  have hP : va_P (dC, dI) vwCl [(m0, .inr (5, [.int x_thrown, .ref mB, .ref mR, .int x_flags, .ref mO, .int x_outCount, .int x_steps, .ref mN, .int x_nowFlags, .int x_writePlace, .int x_writeSize, .int x_writeValue, .int x_fault, .int x_halt, .int x_isByte, .int x_atRegister, .int x_atPlace]))] s.heap := hP
  have hl := lv_entry ([.ref m0, .int wh]) (n := 2) (Nat.le_of_ble_eq_true rfl)
  rw [lg_entry_eq]
  generalize (lg_sl ([.ref m0, .int wh]) ++ List.replicate (2 - (lg_sl ([.ref m0, .int wh])).length) Slot.unset).toArray = ls at hl ⊢
  have hl : lv_has ls 2 [(0, .ref m0), (1, .int wh)] := hl
  refine lv_aload_n hx hb dX5_fail_0 rfl (lv_at hl 0 rfl) ?_
  refine lv_aload_n hx hb dX5_fail_1 rfl (lv_at hl 0 rfl) ?_
  refine va_get (D := (dC, dI)) (ci := 5) (v := .int x_fault) (C := RX5) (T := TX5) (N := 17) hx hb hts (by decide +kernel) hown hK hP 0 rfl rfl 12 (by decide) (hts (.fieldLink RX5 48 "WordGuestModel" "fault" "I") (by decide +kernel)) (fun _ h9 => h9) rfl dX5_fail_2 ?_
  refine lv_if_ne (tgt := 12) hx hb dX5_fail_5 (by decide) (fun c_1 => ?_) (fun c_1 => ?_)
  · refine lv_aload_n hx hb dX5_fail_12 rfl (lv_at hl 0 rfl) ?_
    refine va_get (D := (dC, dI)) (ci := 5) (v := .int x_fault) (C := RX5) (T := TX5) (N := 17) hx hb hts (by decide +kernel) hown hK hP 0 rfl rfl 12 (by decide) (hts (.fieldLink RX5 48 "WordGuestModel" "fault" "I") (by decide +kernel)) (fun _ h9 => h9) rfl dX5_fail_13 ?_
    refine va_put (D := (dC, dI)) (ci := 5) (v := .int x_fault) (ty := .int) (C := RX5) (T := TX5) (N := 17) hx hb hts (by decide +kernel) tyX5 tyX5_ok nmX5 hown hK hP hD hS 0 rfl rfl 12 (by decide) (hts (.fieldLink RX5 48 "WordGuestModel" "fault" "I") (by decide +kernel)) (fun _ h9 => h9) rfl (by decide +kernel) rfl rfl (Nat.le_of_ble_eq_true rfl) dX5_fail_16 (fun H locs hP hD hS => ?_)
    have hP : va_P (dC, dI) vwCl [(m0, .inr (5, [.int x_thrown, .ref mB, .ref mR, .int x_flags, .ref mO, .int x_outCount, .int x_steps, .ref mN, .int x_nowFlags, .int x_writePlace, .int x_writeSize, .int x_writeValue, .int x_fault, .int x_halt, .int x_isByte, .int x_atRegister, .int x_atPlace]))] H := hP
    have hD : va_D A [(m0, .inr (5, [.int x_thrown, .ref mB, .ref mR, .int x_flags, .ref mO, .int x_outCount, .int x_steps, .ref mN, .int x_nowFlags, .int x_writePlace, .int x_writeSize, .int x_writeValue, .int x_fault, .int x_halt, .int x_isByte, .int x_atRegister, .int x_atPlace]))] := hD
    have hP9 := hP.sub (ws' := [(m0, .inr (5, [.int x_thrown, .ref mB, .ref mR, .int x_flags, .ref mO, .int x_outCount, .int x_steps, .ref mN, .int x_nowFlags, .int x_writePlace, .int x_writeSize, .int x_writeValue, .int x_fault, .int x_halt, .int x_isByte, .int x_atRegister, .int x_atPlace]))]) [0] rfl
    have hD9 := hD.sub (ws' := [(m0, .inr (5, [.int x_thrown, .ref mB, .ref mR, .int x_flags, .ref mO, .int x_outCount, .int x_steps, .ref mN, .int x_nowFlags, .int x_writePlace, .int x_writeSize, .int x_writeValue, .int x_fault, .int x_halt, .int x_isByte, .int x_atRegister, .int x_atPlace]))]) [0] (by decide) rfl
    have hK9 := hK.sub (tys' := []) [] rfl
    exact W.vret hx hb hr (fun t ht hW => ⟨⟨x_fault, rfl, (okF_ne hF c_1), by rw [ht]; exact hP9, va_K.moved hW.alike hK9, hD9⟩, hS.F ht⟩) hS.2.2 dX5_fail_19
  · refine lv_iload_n hx hb dX5_fail_8 rfl (lv_at hl 1 rfl) ?_
    refine lv_goto (tgt := 16) hx hb dX5_fail_9 (by decide) ?_
    refine va_put (D := (dC, dI)) (ci := 5) (v := .int wh) (ty := .int) (C := RX5) (T := TX5) (N := 17) hx hb hts (by decide +kernel) tyX5 tyX5_ok nmX5 hown hK hP hD hS 0 rfl rfl 12 (by decide) (hts (.fieldLink RX5 48 "WordGuestModel" "fault" "I") (by decide +kernel)) (fun _ h9 => h9) rfl (by decide +kernel) rfl rfl (Nat.le_of_ble_eq_true rfl) dX5_fail_16 (fun H locs hP hD hS => ?_)
    have hP : va_P (dC, dI) vwCl [(m0, .inr (5, [.int x_thrown, .ref mB, .ref mR, .int x_flags, .ref mO, .int x_outCount, .int x_steps, .ref mN, .int x_nowFlags, .int x_writePlace, .int x_writeSize, .int x_writeValue, .int wh, .int x_halt, .int x_isByte, .int x_atRegister, .int x_atPlace]))] H := hP
    have hD : va_D A [(m0, .inr (5, [.int x_thrown, .ref mB, .ref mR, .int x_flags, .ref mO, .int x_outCount, .int x_steps, .ref mN, .int x_nowFlags, .int x_writePlace, .int x_writeSize, .int x_writeValue, .int wh, .int x_halt, .int x_isByte, .int x_atRegister, .int x_atPlace]))] := hD
    have hP9 := hP.sub (ws' := [(m0, .inr (5, [.int x_thrown, .ref mB, .ref mR, .int x_flags, .ref mO, .int x_outCount, .int x_steps, .ref mN, .int x_nowFlags, .int x_writePlace, .int x_writeSize, .int x_writeValue, .int wh, .int x_halt, .int x_isByte, .int x_atRegister, .int x_atPlace]))]) [0] rfl
    have hD9 := hD.sub (ws' := [(m0, .inr (5, [.int x_thrown, .ref mB, .ref mR, .int x_flags, .ref mO, .int x_outCount, .int x_steps, .ref mN, .int x_nowFlags, .int x_writePlace, .int x_writeSize, .int x_writeValue, .int wh, .int x_halt, .int x_isByte, .int x_atRegister, .int x_atPlace]))]) [0] (by decide) rfl
    have hK9 := hK.sub (tys' := []) [] rfl
    exact W.vret hx hb hr (fun t ht hW => ⟨⟨wh, rfl, hw9, by rw [ht]; exact hP9, va_K.moved hW.alike hK9, hD9⟩, hS.F ht⟩) hS.2.2 dX5_fail_19
set_option maxHeartbeats 4000000 in
set_option maxRecDepth 100000 in
theorem s_X5_wordAt (l : Launch) (dC : Nat → ClassId) (dI : Nat → Nat → Nat) (sz : Nat) (m0 : Nat) (pl : Int32) (x_thrown : Int32) (mB : Nat) (mR : Nat) (x_flags : Int32) (mO : Nat) (x_outCount : Int32) (x_steps : Int32) (mN : Nat) (x_nowFlags : Int32) (x_writePlace : Int32) (x_writeSize : Int32) (x_writeValue : Int32) (x_fault : Int32) (x_halt : Int32) (x_isByte : Int32) (x_atRegister : Int32) (x_atPlace : Int32) (cY : ClassId) (bf : Nat → Int32) (h91 : vp_in pl 4096) (h92 : vp_in (pl + 1) 4096) (hB : okB bf) : Met l yX5_wordAt wsX5_wordAt ({ frames := 0, cells := 0, slots := 0, locals := 0 }) (va_Pc [.ref m0, .int pl] (q_pre dC dI sz [(m0, .inr (5, [.int x_thrown, .ref mB, .ref mR, .int x_flags, .ref mO, .int x_outCount, .int x_steps, .ref mN, .int x_nowFlags, .int x_writePlace, .int x_writeSize, .int x_writeValue, .int x_fault, .int x_halt, .int x_isByte, .int x_atRegister, .int x_atPlace])), (mB, .inl (cY, 4096, .inl bf))] [(cY, .int)])) (va_Qi (fun (r : Int32) (u9 : Unit) => isW r) (q_at dC dI (va_A [(m0, .inr (5, [.int x_thrown, .ref mB, .ref mR, .int x_flags, .ref mO, .int x_outCount, .int x_steps, .ref mN, .int x_nowFlags, .int x_writePlace, .int x_writeSize, .int x_writeValue, .int x_fault, .int x_halt, .int x_isByte, .int x_atRegister, .int x_atPlace])), (mB, .inl (cY, 4096, .inl bf))] sz) (fun (u9 : Unit) => [(cY, .int)]) (fun (u9 : Unit) => [(m0, .inr (5, [.int x_thrown, .ref mB, .ref mR, .int x_flags, .ref mO, .int x_outCount, .int x_steps, .ref mN, .int x_nowFlags, .int x_writePlace, .int x_writeSize, .int x_writeValue, .int x_fault, .int x_halt, .int x_isByte, .int x_atRegister, .int x_atPlace])), (mB, .inl (cY, 4096, .inl bf))])) (va_A [(m0, .inr (5, [.int x_thrown, .ref mB, .ref mR, .int x_flags, .ref mO, .int x_outCount, .int x_steps, .ref mN, .int x_nowFlags, .int x_writePlace, .int x_writeSize, .int x_writeValue, .int x_fault, .int x_halt, .int x_isByte, .int x_atRegister, .int x_atPlace])), (mB, .inl (cY, 4096, .inl bf))] sz)) 0 0 (va_A [(m0, .inr (5, [.int x_thrown, .ref mB, .ref mR, .int x_flags, .ref mO, .int x_outCount, .int x_steps, .ref mN, .int x_nowFlags, .int x_writePlace, .int x_writeSize, .int x_writeValue, .int x_fault, .int x_halt, .int x_isByte, .int x_atRegister, .int x_atPlace])), (mB, .inl (cY, 4096, .inl bf))] sz) := by
  refine Met.ofW (cc := cX5_wordAt) (maxL := 2) (ret := (some .int)) (by decide) rfl ?_
  intro p e s m args below meth c s₁ B hml hv
  obtain ⟨rfl, hsz, hP, hK, hD0, hN⟩ := hv
  have hx := B.exec
  have hb := B.bytes
  have hr := B.returns
  have hts := atoms_spec (ws := wsX5_wordAt) B.pre
  have hown : s.vm.findClass RX5 = some m.cls := findClass_of_methodNamed B.named
  have hlocks := B.notSynchronized
  subst hsz
  have hD := hD0.self (sz := s.heap.size)
  generalize hAe : va_A [(m0, .inr (5, [.int x_thrown, .ref mB, .ref mR, .int x_flags, .ref mO, .int x_outCount, .int x_steps, .ref mN, .int x_nowFlags, .int x_writePlace, .int x_writeSize, .int x_writeValue, .int x_fault, .int x_halt, .int x_isByte, .int x_atRegister, .int x_atPlace])), (mB, .inl (cY, 4096, .inl bf))] s.heap.size = A at hD ⊢
  have hA : ∀ q : Nat, s.heap.size ≤ q → A q := fun q h => by rw [← hAe]; exact Or.inr h
  have hS : va_S A s.heap s.heap [] := va_S.rf
  have hP : va_P (dC, dI) vwCl [(m0, .inr (5, [.int x_thrown, .ref mB, .ref mR, .int x_flags, .ref mO, .int x_outCount, .int x_steps, .ref mN, .int x_nowFlags, .int x_writePlace, .int x_writeSize, .int x_writeValue, .int x_fault, .int x_halt, .int x_isByte, .int x_atRegister, .int x_atPlace])), (mB, .inl (cY, 4096, .inl bf))] s.heap := hP
  have hl := lv_entry ([.ref m0, .int pl]) (n := 2) (Nat.le_of_ble_eq_true rfl)
  rw [lg_entry_eq]
  generalize (lg_sl ([.ref m0, .int pl]) ++ List.replicate (2 - (lg_sl ([.ref m0, .int pl])).length) Slot.unset).toArray = ls at hl ⊢
  have hl : lv_has ls 2 [(0, .ref m0), (1, .int pl)] := hl
  refine lv_aload_n hx hb dX5_wordAt_0 rfl (lv_at hl 0 rfl) ?_
  refine va_get (D := (dC, dI)) (ci := 5) (v := .ref mB) (C := RX5) (T := TX5) (N := 17) hx hb hts (by decide +kernel) hown hK hP 0 rfl rfl 1 (by decide) (hts (.fieldLink RX5 7 "WordGuestModel" "bytes" "[I") (by decide +kernel)) (fun _ h9 => h9) rfl dX5_wordAt_1 ?_
  refine lv_iload_n hx hb dX5_wordAt_4 rfl (lv_at hl 1 rfl) ?_
  refine va_iald hx hb hK hP 1 0 rfl rfl h91 dX5_wordAt_5 ?_
  have hb_1 : isB (bf pl.toNatClampNeg) := okB_at hB h91
  refine lv_aload_n hx hb dX5_wordAt_6 rfl (lv_at hl 0 rfl) ?_
  refine va_get (D := (dC, dI)) (ci := 5) (v := .ref mB) (C := RX5) (T := TX5) (N := 17) hx hb hts (by decide +kernel) hown hK hP 0 rfl rfl 1 (by decide) (hts (.fieldLink RX5 7 "WordGuestModel" "bytes" "[I") (by decide +kernel)) (fun _ h9 => h9) rfl dX5_wordAt_7 ?_
  refine lv_iload_n hx hb dX5_wordAt_10 rfl (lv_at hl 1 rfl) ?_
  refine lv_iconst (v := 1) hx hb dX5_wordAt_11 (by decide) ?_
  refine lv_iadd hx hb dX5_wordAt_12 ?_
  refine va_iald hx hb hK hP 1 0 rfl rfl h92 dX5_wordAt_13 ?_
  have hb_2 : isB (bf (pl + 1).toNatClampNeg) := okB_at hB h92
  refine lv_bipush (v := 8) hx hb dX5_wordAt_14 (by decide) ?_
  refine lv_ishl hx hb dX5_wordAt_16 ?_
  refine lv_ior hx hb dX5_wordAt_17 ?_
  have hP9 := hP.sub (ws' := [(m0, .inr (5, [.int x_thrown, .ref mB, .ref mR, .int x_flags, .ref mO, .int x_outCount, .int x_steps, .ref mN, .int x_nowFlags, .int x_writePlace, .int x_writeSize, .int x_writeValue, .int x_fault, .int x_halt, .int x_isByte, .int x_atRegister, .int x_atPlace])), (mB, .inl (cY, 4096, .inl bf))]) [0, 1] rfl
  have hD9 := hD.sub (ws' := [(m0, .inr (5, [.int x_thrown, .ref mB, .ref mR, .int x_flags, .ref mO, .int x_outCount, .int x_steps, .ref mN, .int x_nowFlags, .int x_writePlace, .int x_writeSize, .int x_writeValue, .int x_fault, .int x_halt, .int x_isByte, .int x_atRegister, .int x_atPlace])), (mB, .inl (cY, 4096, .inl bf))]) [0, 1] (by decide) rfl
  have hK9 := hK.sub (tys' := [(cY, .int)]) [0] rfl
  exact W.iret (v := (bf pl.toNatClampNeg) ||| ((bf (pl + 1).toNatClampNeg) <<< (8 &&& 31))) hx hb hr (fun t ht hW => ⟨⟨(bf pl.toNatClampNeg) ||| ((bf (pl + 1).toNatClampNeg) <<< (8 &&& 31)), (), rfl, (isW_pair hb_1 hb_2), by rw [ht]; exact hP9, va_K.moved hW.alike hK9, hD9⟩, hS.F ht⟩) hS.2.2 dX5_wordAt_18
set_option maxHeartbeats 4000000 in
set_option maxRecDepth 100000 in
theorem s_X5_setWord (l : Launch) (dC : Nat → ClassId) (dI : Nat → Nat → Nat) (sz : Nat) (m0 : Nat) (pl : Int32) (v : Int32) (x_thrown : Int32) (mB : Nat) (mR : Nat) (x_flags : Int32) (mO : Nat) (x_outCount : Int32) (x_steps : Int32) (mN : Nat) (x_nowFlags : Int32) (x_writePlace : Int32) (x_writeSize : Int32) (x_writeValue : Int32) (x_fault : Int32) (x_halt : Int32) (x_isByte : Int32) (x_atRegister : Int32) (x_atPlace : Int32) (cY : ClassId) (bf : Nat → Int32) (h91 : vp_in pl 4096) (h92 : vp_in (pl + 1) 4096) (hB : okB bf) : Met l yX5_setWord wsX5_setWord ({ frames := 0, cells := 0, slots := 0, locals := 0 }) (va_Pc [.ref m0, .int pl, .int v] (q_pre dC dI sz [(m0, .inr (5, [.int x_thrown, .ref mB, .ref mR, .int x_flags, .ref mO, .int x_outCount, .int x_steps, .ref mN, .int x_nowFlags, .int x_writePlace, .int x_writeSize, .int x_writeValue, .int x_fault, .int x_halt, .int x_isByte, .int x_atRegister, .int x_atPlace])), (mB, .inl (cY, 4096, .inl bf))] [(cY, .int)])) (va_Qv (fun (u9 : (Nat → Int32)) => okB u9) (q_at dC dI (va_A [(m0, .inr (5, [.int x_thrown, .ref mB, .ref mR, .int x_flags, .ref mO, .int x_outCount, .int x_steps, .ref mN, .int x_nowFlags, .int x_writePlace, .int x_writeSize, .int x_writeValue, .int x_fault, .int x_halt, .int x_isByte, .int x_atRegister, .int x_atPlace])), (mB, .inl (cY, 4096, .inl bf))] sz) (fun (u9 : (Nat → Int32)) => [(cY, .int)]) (fun (u9 : (Nat → Int32)) => [(m0, .inr (5, [.int x_thrown, .ref mB, .ref mR, .int x_flags, .ref mO, .int x_outCount, .int x_steps, .ref mN, .int x_nowFlags, .int x_writePlace, .int x_writeSize, .int x_writeValue, .int x_fault, .int x_halt, .int x_isByte, .int x_atRegister, .int x_atPlace])), (mB, .inl (cY, 4096, .inl u9))])) (va_A [(m0, .inr (5, [.int x_thrown, .ref mB, .ref mR, .int x_flags, .ref mO, .int x_outCount, .int x_steps, .ref mN, .int x_nowFlags, .int x_writePlace, .int x_writeSize, .int x_writeValue, .int x_fault, .int x_halt, .int x_isByte, .int x_atRegister, .int x_atPlace])), (mB, .inl (cY, 4096, .inl bf))] sz)) 0 0 (va_A [(m0, .inr (5, [.int x_thrown, .ref mB, .ref mR, .int x_flags, .ref mO, .int x_outCount, .int x_steps, .ref mN, .int x_nowFlags, .int x_writePlace, .int x_writeSize, .int x_writeValue, .int x_fault, .int x_halt, .int x_isByte, .int x_atRegister, .int x_atPlace])), (mB, .inl (cY, 4096, .inl bf))] sz) := by
  refine Met.ofW (cc := cX5_setWord) (maxL := 3) (ret := none) (by decide) rfl ?_
  intro p e s m args below meth c s₁ B hml hv
  obtain ⟨rfl, hsz, hP, hK, hD0, hN⟩ := hv
  have hx := B.exec
  have hb := B.bytes
  have hr := B.returns
  have hts := atoms_spec (ws := wsX5_setWord) B.pre
  have hown : s.vm.findClass RX5 = some m.cls := findClass_of_methodNamed B.named
  have hlocks := B.notSynchronized
  subst hsz
  have hD := hD0.self (sz := s.heap.size)
  generalize hAe : va_A [(m0, .inr (5, [.int x_thrown, .ref mB, .ref mR, .int x_flags, .ref mO, .int x_outCount, .int x_steps, .ref mN, .int x_nowFlags, .int x_writePlace, .int x_writeSize, .int x_writeValue, .int x_fault, .int x_halt, .int x_isByte, .int x_atRegister, .int x_atPlace])), (mB, .inl (cY, 4096, .inl bf))] s.heap.size = A at hD ⊢
  have hA : ∀ q : Nat, s.heap.size ≤ q → A q := fun q h => by rw [← hAe]; exact Or.inr h
  have hS : va_S A s.heap s.heap [] := va_S.rf
  have hP : va_P (dC, dI) vwCl [(m0, .inr (5, [.int x_thrown, .ref mB, .ref mR, .int x_flags, .ref mO, .int x_outCount, .int x_steps, .ref mN, .int x_nowFlags, .int x_writePlace, .int x_writeSize, .int x_writeValue, .int x_fault, .int x_halt, .int x_isByte, .int x_atRegister, .int x_atPlace])), (mB, .inl (cY, 4096, .inl bf))] s.heap := hP
  have hl := lv_entry ([.ref m0, .int pl, .int v]) (n := 3) (Nat.le_of_ble_eq_true rfl)
  rw [lg_entry_eq]
  generalize (lg_sl ([.ref m0, .int pl, .int v]) ++ List.replicate (3 - (lg_sl ([.ref m0, .int pl, .int v])).length) Slot.unset).toArray = ls at hl ⊢
  have hl : lv_has ls 3 [(0, .ref m0), (1, .int pl), (2, .int v)] := hl
  refine lv_aload_n hx hb dX5_setWord_0 rfl (lv_at hl 0 rfl) ?_
  refine va_get (D := (dC, dI)) (ci := 5) (v := .ref mB) (C := RX5) (T := TX5) (N := 17) hx hb hts (by decide +kernel) hown hK hP 0 rfl rfl 1 (by decide) (hts (.fieldLink RX5 7 "WordGuestModel" "bytes" "[I") (by decide +kernel)) (fun _ h9 => h9) rfl dX5_setWord_1 ?_
  refine lv_iload_n hx hb dX5_setWord_4 rfl (lv_at hl 1 rfl) ?_
  refine lv_iload_n hx hb dX5_setWord_5 rfl (lv_at hl 2 rfl) ?_
  refine lv_sipush (v := 255) hx hb dX5_setWord_6 (by decide) ?_
  refine lv_iand hx hb dX5_setWord_9 ?_
  refine va_iast hx hb hK hP hD hS 1 0 rfl rfl h91 dX5_setWord_10 (fun H locs hP hD hS => ?_)
  have hP : va_P (dC, dI) vwCl [(m0, .inr (5, [.int x_thrown, .ref mB, .ref mR, .int x_flags, .ref mO, .int x_outCount, .int x_steps, .ref mN, .int x_nowFlags, .int x_writePlace, .int x_writeSize, .int x_writeValue, .int x_fault, .int x_halt, .int x_isByte, .int x_atRegister, .int x_atPlace])), (mB, .inl (cY, 4096, .inl (upd bf pl.toNatClampNeg (v &&& 255))))] H := hP
  have hD : va_D A [(m0, .inr (5, [.int x_thrown, .ref mB, .ref mR, .int x_flags, .ref mO, .int x_outCount, .int x_steps, .ref mN, .int x_nowFlags, .int x_writePlace, .int x_writeSize, .int x_writeValue, .int x_fault, .int x_halt, .int x_isByte, .int x_atRegister, .int x_atPlace])), (mB, .inl (cY, 4096, .inl (upd bf pl.toNatClampNeg (v &&& 255))))] := hD
  have hB_1 : okB (upd bf pl.toNatClampNeg (v &&& 255)) := okB_upd hB (isB_and _) _
  generalize (upd bf pl.toNatClampNeg (v &&& 255)) = g_2 at hP hD hB_1
  refine lv_aload_n hx hb dX5_setWord_11 rfl (lv_at hl 0 rfl) ?_
  refine va_get (D := (dC, dI)) (ci := 5) (v := .ref mB) (C := RX5) (T := TX5) (N := 17) hx hb hts (by decide +kernel) hown hK hP 0 rfl rfl 1 (by decide) (hts (.fieldLink RX5 7 "WordGuestModel" "bytes" "[I") (by decide +kernel)) (fun _ h9 => h9) rfl dX5_setWord_12 ?_
  refine lv_iload_n hx hb dX5_setWord_15 rfl (lv_at hl 1 rfl) ?_
  refine lv_iconst (v := 1) hx hb dX5_setWord_16 (by decide) ?_
  refine lv_iadd hx hb dX5_setWord_17 ?_
  refine lv_iload_n hx hb dX5_setWord_18 rfl (lv_at hl 2 rfl) ?_
  refine lv_bipush (v := 8) hx hb dX5_setWord_19 (by decide) ?_
  refine lv_ishr hx hb dX5_setWord_21 ?_
  refine lv_sipush (v := 255) hx hb dX5_setWord_22 (by decide) ?_
  refine lv_iand hx hb dX5_setWord_25 ?_
  refine va_iast hx hb hK hP hD hS 1 0 rfl rfl h92 dX5_setWord_26 (fun H locs hP hD hS => ?_)
  have hP : va_P (dC, dI) vwCl [(m0, .inr (5, [.int x_thrown, .ref mB, .ref mR, .int x_flags, .ref mO, .int x_outCount, .int x_steps, .ref mN, .int x_nowFlags, .int x_writePlace, .int x_writeSize, .int x_writeValue, .int x_fault, .int x_halt, .int x_isByte, .int x_atRegister, .int x_atPlace])), (mB, .inl (cY, 4096, .inl (upd g_2 (pl + 1).toNatClampNeg ((v >>> (8 &&& 31)) &&& 255))))] H := hP
  have hD : va_D A [(m0, .inr (5, [.int x_thrown, .ref mB, .ref mR, .int x_flags, .ref mO, .int x_outCount, .int x_steps, .ref mN, .int x_nowFlags, .int x_writePlace, .int x_writeSize, .int x_writeValue, .int x_fault, .int x_halt, .int x_isByte, .int x_atRegister, .int x_atPlace])), (mB, .inl (cY, 4096, .inl (upd g_2 (pl + 1).toNatClampNeg ((v >>> (8 &&& 31)) &&& 255))))] := hD
  have hB_3 : okB (upd g_2 (pl + 1).toNatClampNeg ((v >>> (8 &&& 31)) &&& 255)) := okB_upd hB_1 (isB_and _) _
  generalize (upd g_2 (pl + 1).toNatClampNeg ((v >>> (8 &&& 31)) &&& 255)) = g_4 at hP hD hB_3
  have hP9 := hP.sub (ws' := [(m0, .inr (5, [.int x_thrown, .ref mB, .ref mR, .int x_flags, .ref mO, .int x_outCount, .int x_steps, .ref mN, .int x_nowFlags, .int x_writePlace, .int x_writeSize, .int x_writeValue, .int x_fault, .int x_halt, .int x_isByte, .int x_atRegister, .int x_atPlace])), (mB, .inl (cY, 4096, .inl g_4))]) [0, 1] rfl
  have hD9 := hD.sub (ws' := [(m0, .inr (5, [.int x_thrown, .ref mB, .ref mR, .int x_flags, .ref mO, .int x_outCount, .int x_steps, .ref mN, .int x_nowFlags, .int x_writePlace, .int x_writeSize, .int x_writeValue, .int x_fault, .int x_halt, .int x_isByte, .int x_atRegister, .int x_atPlace])), (mB, .inl (cY, 4096, .inl g_4))]) [0, 1] (by decide) rfl
  have hK9 := hK.sub (tys' := [(cY, .int)]) [0] rfl
  exact W.vret hx hb hr (fun t ht hW => ⟨⟨g_4, rfl, hB_3, by rw [ht]; exact hP9, va_K.moved hW.alike hK9, hD9⟩, hS.F ht⟩) hS.2.2 dX5_setWord_27
set_option maxHeartbeats 4000000 in
set_option maxRecDepth 100000 in
theorem s_X5_read (l : Launch) (dC : Nat → ClassId) (dI : Nat → Nat → Nat) (sz : Nat) (m0 : Nat) (pl : Int32) (sm : Int32) (x_thrown : Int32) (mB : Nat) (mR : Nat) (x_flags : Int32) (mO : Nat) (x_outCount : Int32) (x_steps : Int32) (mN : Nat) (x_nowFlags : Int32) (x_writePlace : Int32) (x_writeSize : Int32) (x_writeValue : Int32) (x_fault : Int32) (x_halt : Int32) (x_isByte : Int32) (x_atRegister : Int32) (x_atPlace : Int32) (cY : ClassId) (bf : Nat → Int32) (hF : okF x_fault) (hB : okB bf) (hpl : 0 < x_fault ∨ isW pl) : Met l yX5_read wsX5_read ({ frames := 1, cells := 0, slots := 0, locals := 21 }) (va_Pc [.ref m0, .int pl, .int sm] (q_pre dC dI sz [(m0, .inr (5, [.int x_thrown, .ref mB, .ref mR, .int x_flags, .ref mO, .int x_outCount, .int x_steps, .ref mN, .int x_nowFlags, .int x_writePlace, .int x_writeSize, .int x_writeValue, .int x_fault, .int x_halt, .int x_isByte, .int x_atRegister, .int x_atPlace])), (mB, .inl (cY, 4096, .inl bf))] [(cY, .int)])) (va_Qi (fun (r : Int32) (u9 : Int32) => (okF u9) ∧ (0 < x_fault → 0 < u9) ∧ (isW r) ∧ (¬ 0 < u9 → (vp_in pl 4096 ∧ (sm = 0 → vp_in (pl + 1) 4096))) ∧ (¬ sm = 0 → isB r)) (q_at dC dI (va_A [(m0, .inr (5, [.int x_thrown, .ref mB, .ref mR, .int x_flags, .ref mO, .int x_outCount, .int x_steps, .ref mN, .int x_nowFlags, .int x_writePlace, .int x_writeSize, .int x_writeValue, .int x_fault, .int x_halt, .int x_isByte, .int x_atRegister, .int x_atPlace])), (mB, .inl (cY, 4096, .inl bf))] sz) (fun (u9 : Int32) => [(cY, .int)]) (fun (u9 : Int32) => [(m0, .inr (5, [.int x_thrown, .ref mB, .ref mR, .int x_flags, .ref mO, .int x_outCount, .int x_steps, .ref mN, .int x_nowFlags, .int x_writePlace, .int x_writeSize, .int x_writeValue, .int u9, .int x_halt, .int x_isByte, .int x_atRegister, .int x_atPlace])), (mB, .inl (cY, 4096, .inl bf))])) (va_A [(m0, .inr (5, [.int x_thrown, .ref mB, .ref mR, .int x_flags, .ref mO, .int x_outCount, .int x_steps, .ref mN, .int x_nowFlags, .int x_writePlace, .int x_writeSize, .int x_writeValue, .int x_fault, .int x_halt, .int x_isByte, .int x_atRegister, .int x_atPlace])), (mB, .inl (cY, 4096, .inl bf))] sz)) 0 0 (va_A [(m0, .inr (5, [.int x_thrown, .ref mB, .ref mR, .int x_flags, .ref mO, .int x_outCount, .int x_steps, .ref mN, .int x_nowFlags, .int x_writePlace, .int x_writeSize, .int x_writeValue, .int x_fault, .int x_halt, .int x_isByte, .int x_atRegister, .int x_atPlace])), (mB, .inl (cY, 4096, .inl bf))] sz) := by
  refine Met.ofW (cc := cX5_read) (maxL := 3) (ret := (some .int)) (by decide) rfl ?_
  intro p e s m args below meth c s₁ B hml hv
  obtain ⟨rfl, hsz, hP, hK, hD0, hN⟩ := hv
  have hx := B.exec
  have hb := B.bytes
  have hr := B.returns
  have hts := atoms_spec (ws := wsX5_read) B.pre
  have hown : s.vm.findClass RX5 = some m.cls := findClass_of_methodNamed B.named
  have hlocks := B.notSynchronized
  subst hsz
  have hD := hD0.self (sz := s.heap.size)
  generalize hAe : va_A [(m0, .inr (5, [.int x_thrown, .ref mB, .ref mR, .int x_flags, .ref mO, .int x_outCount, .int x_steps, .ref mN, .int x_nowFlags, .int x_writePlace, .int x_writeSize, .int x_writeValue, .int x_fault, .int x_halt, .int x_isByte, .int x_atRegister, .int x_atPlace])), (mB, .inl (cY, 4096, .inl bf))] s.heap.size = A at hD ⊢
  have hA : ∀ q : Nat, s.heap.size ≤ q → A q := fun q h => by rw [← hAe]; exact Or.inr h
  have hS : va_S A s.heap s.heap [] := va_S.rf
  have hP : va_P (dC, dI) vwCl [(m0, .inr (5, [.int x_thrown, .ref mB, .ref mR, .int x_flags, .ref mO, .int x_outCount, .int x_steps, .ref mN, .int x_nowFlags, .int x_writePlace, .int x_writeSize, .int x_writeValue, .int x_fault, .int x_halt, .int x_isByte, .int x_atRegister, .int x_atPlace])), (mB, .inl (cY, 4096, .inl bf))] s.heap := hP
  have hl := lv_entry ([.ref m0, .int pl, .int sm]) (n := 3) (Nat.le_of_ble_eq_true rfl)
  rw [lg_entry_eq]
  generalize (lg_sl ([.ref m0, .int pl, .int sm]) ++ List.replicate (3 - (lg_sl ([.ref m0, .int pl, .int sm])).length) Slot.unset).toArray = ls at hl ⊢
  have hl : lv_has ls 3 [(0, .ref m0), (1, .int pl), (2, .int sm)] := hl
  refine lv_iload_n hx hb dX5_read_0 rfl (lv_at hl 2 rfl) ?_
  refine lv_if_ne (tgt := 19) hx hb dX5_read_1 (by decide) (fun c_1 => ?_) (fun c_1 => ?_)
  · refine lv_iload_n hx hb dX5_read_19 rfl (lv_at hl 1 rfl) ?_
    refine lv_sipush (v := 4096) hx hb dX5_read_20 (by decide) ?_
    refine lv_icmp_lt (tgt := 31) hx hb dX5_read_23 (by decide) (fun c_2 => ?_) (fun c_2 => ?_)
    · refine lv_aload_n hx hb dX5_read_31 rfl (lv_at hl 0 rfl) ?_
      refine va_get (D := (dC, dI)) (ci := 5) (v := .int x_fault) (C := RX5) (T := TX5) (N := 17) hx hb hts (by decide +kernel) hown hK hP 0 rfl rfl 12 (by decide) (hts (.fieldLink RX5 48 "WordGuestModel" "fault" "I") (by decide +kernel)) (fun _ h9 => h9) rfl dX5_read_32 ?_
      refine lv_if_le (tgt := 42) hx hb dX5_read_35 (by decide) (fun c_3 => ?_) (fun c_3 => ?_)
      · refine lv_iload_n hx hb dX5_read_42 rfl (lv_at hl 2 rfl) ?_
        refine lv_if_eq (tgt := 55) hx hb dX5_read_43 (by decide) (fun c9 => absurd c9 c_1) (fun c_4 => ?_)
        refine lv_aload_n hx hb dX5_read_46 rfl (lv_at hl 0 rfl) ?_
        refine va_get (D := (dC, dI)) (ci := 5) (v := .ref mB) (C := RX5) (T := TX5) (N := 17) hx hb hts (by decide +kernel) hown hK hP 0 rfl rfl 1 (by decide) (hts (.fieldLink RX5 7 "WordGuestModel" "bytes" "[I") (by decide +kernel)) (fun _ h9 => h9) rfl dX5_read_47 ?_
        refine lv_iload_n hx hb dX5_read_50 rfl (lv_at hl 1 rfl) ?_
        refine va_iald hx hb hK hP 1 0 rfl rfl (W_in (hpl.elim (fun q => absurd q (fle c_3)) id) c_2) dX5_read_51 ?_
        have hb_5 : isB (bf pl.toNatClampNeg) := okB_at hB (W_in (hpl.elim (fun q => absurd q (fle c_3)) id) c_2)
        refine lv_goto (tgt := 60) hx hb dX5_read_52 (by decide) ?_
        have hP9 := hP.sub (ws' := [(m0, .inr (5, [.int x_thrown, .ref mB, .ref mR, .int x_flags, .ref mO, .int x_outCount, .int x_steps, .ref mN, .int x_nowFlags, .int x_writePlace, .int x_writeSize, .int x_writeValue, .int x_fault, .int x_halt, .int x_isByte, .int x_atRegister, .int x_atPlace])), (mB, .inl (cY, 4096, .inl bf))]) [0, 1] rfl
        have hD9 := hD.sub (ws' := [(m0, .inr (5, [.int x_thrown, .ref mB, .ref mR, .int x_flags, .ref mO, .int x_outCount, .int x_steps, .ref mN, .int x_nowFlags, .int x_writePlace, .int x_writeSize, .int x_writeValue, .int x_fault, .int x_halt, .int x_isByte, .int x_atRegister, .int x_atPlace])), (mB, .inl (cY, 4096, .inl bf))]) [0, 1] (by decide) rfl
        have hK9 := hK.sub (tys' := [(cY, .int)]) [0] rfl
        exact W.iret (v := bf pl.toNatClampNeg) hx hb hr (fun t ht hW => ⟨⟨bf pl.toNatClampNeg, x_fault, rfl, ⟨hF, id, (isB_W hb_5), fun _ => ⟨(W_in (hpl.elim (fun q => absurd q (fle c_3)) id) c_2), (fun q => absurd q c_1)⟩, (fun _ => hb_5)⟩, by rw [ht]; exact hP9, va_K.moved hW.alike hK9, hD9⟩, hS.F ht⟩) hS.2.2 dX5_read_60
      · refine lv_iconst (v := 0) hx hb dX5_read_38 (by decide) ?_
        refine lv_goto (tgt := 60) hx hb dX5_read_39 (by decide) ?_
        have hP9 := hP.sub (ws' := [(m0, .inr (5, [.int x_thrown, .ref mB, .ref mR, .int x_flags, .ref mO, .int x_outCount, .int x_steps, .ref mN, .int x_nowFlags, .int x_writePlace, .int x_writeSize, .int x_writeValue, .int x_fault, .int x_halt, .int x_isByte, .int x_atRegister, .int x_atPlace])), (mB, .inl (cY, 4096, .inl bf))]) [0, 1] rfl
        have hD9 := hD.sub (ws' := [(m0, .inr (5, [.int x_thrown, .ref mB, .ref mR, .int x_flags, .ref mO, .int x_outCount, .int x_steps, .ref mN, .int x_nowFlags, .int x_writePlace, .int x_writeSize, .int x_writeValue, .int x_fault, .int x_halt, .int x_isByte, .int x_atRegister, .int x_atPlace])), (mB, .inl (cY, 4096, .inl bf))]) [0, 1] (by decide) rfl
        have hK9 := hK.sub (tys' := [(cY, .int)]) [0] rfl
        exact W.iret (v := 0) hx hb hr (fun t ht hW => ⟨⟨0, x_fault, rfl, ⟨hF, (fun _ => (fnle c_3)), ⟨0, by decide, rfl⟩, fun h => absurd (fnle c_3) h, fun _ => ⟨0, by decide, rfl⟩⟩, by rw [ht]; exact hP9, va_K.moved hW.alike hK9, hD9⟩, hS.F ht⟩) hS.2.2 dX5_read_60
    · refine lv_aload_n hx hb dX5_read_26 rfl (lv_at hl 0 rfl) ?_
      refine lv_iconst (v := 3) hx hb dX5_read_27 (by decide) ?_
      have hPc := hP.sub (ws' := [(m0, .inr (5, [.int x_thrown, .ref mB, .ref mR, .int x_flags, .ref mO, .int x_outCount, .int x_steps, .ref mN, .int x_nowFlags, .int x_writePlace, .int x_writeSize, .int x_writeValue, .int x_fault, .int x_halt, .int x_isByte, .int x_atRegister, .int x_atPlace]))]) [0] rfl
      have hDc := hD.sub (ws' := [(m0, .inr (5, [.int x_thrown, .ref mB, .ref mR, .int x_flags, .ref mO, .int x_outCount, .int x_steps, .ref mN, .int x_nowFlags, .int x_writePlace, .int x_writeSize, .int x_writeValue, .int x_fault, .int x_halt, .int x_isByte, .int x_atRegister, .int x_atPlace]))]) [0] (by decide) rfl
      have hKc := hK.sub (tys' := []) [] rfl
      have hFc := va_free (wc := [(m0, .inr (5, [.int x_thrown, .ref mB, .ref mR, .int x_flags, .ref mO, .int x_outCount, .int x_steps, .ref mN, .int x_nowFlags, .int x_writePlace, .int x_writeSize, .int x_writeValue, .int x_fault, .int x_halt, .int x_isByte, .int x_atRegister, .int x_atPlace]))]) hD hS hA [0] rfl
      refine va_callv (va_runV (C := RX5) (b := m0) (As := [.int 3]) (rest := []) ⟨hx, hb, hml, hown, hts⟩ (s_X5_fail l dC dI s.heap.size m0 (3 : Int32) x_thrown mB mR x_flags mO x_outCount x_steps mN x_nowFlags x_writePlace x_writeSize x_writeValue x_fault x_halt x_isByte x_atRegister x_atPlace hF (by decide)) (cwV 1 hts gX5_read_X5_fail rfl rfl rfl (by decide +kernel) ⟨Nat.le_of_ble_eq_true rfl, Nat.le_of_ble_eq_true rfl⟩) ⟨q_blind, va_recv hK hP (ci := 5) (q0 := 0) rfl rfl, fun U hU hW => ⟨rfl, q_pay hU hW hPc hKc hDc hN⟩⟩ rfl rfl hl.1 rfl (lv_room (Nat.le_of_ble_eq_true rfl)) dX5_read_28 ⟨show 0 + 0 ≤ 0 from by omega, show 0 + 0 ≤ 0 from by omega⟩) hS (fun q _ h => hFc q h) hFc (fun u9 t H locs ht hvm hw_7 hB hz1 hk1 hS => ?_)
      obtain ⟨y_fault_8, rfl⟩ : ∃ z, z = u9 := ⟨_, rfl⟩
      obtain ⟨hP1, hK1, hD1⟩ := hB
      rw [ht] at hP1
      obtain ⟨hP, hD⟩ := va_join (wr := [(mB, .inl (cY, 4096, .inl bf))]) (w1 := [(m0, .inr (5, [.int x_thrown, .ref mB, .ref mR, .int x_flags, .ref mO, .int x_outCount, .int x_steps, .ref mN, .int x_nowFlags, .int x_writePlace, .int x_writeSize, .int x_writeValue, .int y_fault_8, .int x_halt, .int x_isByte, .int x_atRegister, .int x_atPlace]))]) hP hD [0] [1] rfl rfl (by decide) (by decide) hk1 hFc hP1 hD1
      have hP : va_P (dC, dI) vwCl [(mB, .inl (cY, 4096, .inl bf)), (m0, .inr (5, [.int x_thrown, .ref mB, .ref mR, .int x_flags, .ref mO, .int x_outCount, .int x_steps, .ref mN, .int x_nowFlags, .int x_writePlace, .int x_writeSize, .int x_writeValue, .int y_fault_8, .int x_halt, .int x_isByte, .int x_atRegister, .int x_atPlace]))] H := hP
      have hD : va_D A [(mB, .inl (cY, 4096, .inl bf)), (m0, .inr (5, [.int x_thrown, .ref mB, .ref mR, .int x_flags, .ref mO, .int x_outCount, .int x_steps, .ref mN, .int x_nowFlags, .int x_writePlace, .int x_writeSize, .int x_writeValue, .int y_fault_8, .int x_halt, .int x_isByte, .int x_atRegister, .int x_atPlace]))] := hD
      refine W.widen (k := 0) (n := 0) (by omega) (by omega) ?_
      try dsimp only at hw_7
      refine lv_aload_n hx hb dX5_read_31 rfl (lv_at hl 0 rfl) ?_
      refine va_get (D := (dC, dI)) (ci := 5) (v := .int y_fault_8) (C := RX5) (T := TX5) (N := 17) hx hb hts (by decide +kernel) hown hK hP 1 rfl rfl 12 (by decide) (hts (.fieldLink RX5 48 "WordGuestModel" "fault" "I") (by decide +kernel)) (fun _ h9 => h9) rfl dX5_read_32 ?_
      refine lv_if_le (tgt := 42) hx hb dX5_read_35 (by decide) (fun c9 => absurd c9 (Int32.not_le.mpr hw_7)) (fun c_9 => ?_)
      refine lv_iconst (v := 0) hx hb dX5_read_38 (by decide) ?_
      refine lv_goto (tgt := 60) hx hb dX5_read_39 (by decide) ?_
      have hP9 := hP.sub (ws' := [(m0, .inr (5, [.int x_thrown, .ref mB, .ref mR, .int x_flags, .ref mO, .int x_outCount, .int x_steps, .ref mN, .int x_nowFlags, .int x_writePlace, .int x_writeSize, .int x_writeValue, .int y_fault_8, .int x_halt, .int x_isByte, .int x_atRegister, .int x_atPlace])), (mB, .inl (cY, 4096, .inl bf))]) [1, 0] rfl
      have hD9 := hD.sub (ws' := [(m0, .inr (5, [.int x_thrown, .ref mB, .ref mR, .int x_flags, .ref mO, .int x_outCount, .int x_steps, .ref mN, .int x_nowFlags, .int x_writePlace, .int x_writeSize, .int x_writeValue, .int y_fault_8, .int x_halt, .int x_isByte, .int x_atRegister, .int x_atPlace])), (mB, .inl (cY, 4096, .inl bf))]) [1, 0] (by decide) rfl
      have hK9 := hK.sub (tys' := [(cY, .int)]) [0] rfl
      exact W.iret (v := 0) hx hb hr (fun t ht hW => ⟨⟨0, y_fault_8, rfl, ⟨(Or.inr hw_7), (fun _ => hw_7), ⟨0, by decide, rfl⟩, fun h => absurd hw_7 h, fun _ => ⟨0, by decide, rfl⟩⟩, by rw [ht]; exact hP9, va_K.moved hW.alike hK9, hD9⟩, hS.F ht⟩) hS.2.2 dX5_read_60
  · refine lv_iload_n hx hb dX5_read_4 rfl (lv_at hl 1 rfl) ?_
    refine lv_iconst (v := 2) hx hb dX5_read_5 (by decide) ?_
    refine lv_irem hx hb dX5_read_6 (by decide) ?_
    refine lv_iconst (v := 1) hx hb dX5_read_7 (by decide) ?_
    refine lv_icmp_ne (tgt := 19) hx hb dX5_read_8 (by decide) (fun c_10 => ?_) (fun c_10 => ?_)
    · refine lv_iload_n hx hb dX5_read_19 rfl (lv_at hl 1 rfl) ?_
      refine lv_sipush (v := 4096) hx hb dX5_read_20 (by decide) ?_
      refine lv_icmp_lt (tgt := 31) hx hb dX5_read_23 (by decide) (fun c_11 => ?_) (fun c_11 => ?_)
      · refine lv_aload_n hx hb dX5_read_31 rfl (lv_at hl 0 rfl) ?_
        refine va_get (D := (dC, dI)) (ci := 5) (v := .int x_fault) (C := RX5) (T := TX5) (N := 17) hx hb hts (by decide +kernel) hown hK hP 0 rfl rfl 12 (by decide) (hts (.fieldLink RX5 48 "WordGuestModel" "fault" "I") (by decide +kernel)) (fun _ h9 => h9) rfl dX5_read_32 ?_
        refine lv_if_le (tgt := 42) hx hb dX5_read_35 (by decide) (fun c_12 => ?_) (fun c_12 => ?_)
        · refine lv_iload_n hx hb dX5_read_42 rfl (lv_at hl 2 rfl) ?_
          refine lv_if_eq (tgt := 55) hx hb dX5_read_43 (by decide) (fun c_13 => ?_) (fun c9 => absurd c_1 c9)
          refine lv_aload_n hx hb dX5_read_55 rfl (lv_at hl 0 rfl) ?_
          refine lv_iload_n hx hb dX5_read_56 rfl (lv_at hl 1 rfl) ?_
          have hPc := hP.sub (ws' := [(m0, .inr (5, [.int x_thrown, .ref mB, .ref mR, .int x_flags, .ref mO, .int x_outCount, .int x_steps, .ref mN, .int x_nowFlags, .int x_writePlace, .int x_writeSize, .int x_writeValue, .int x_fault, .int x_halt, .int x_isByte, .int x_atRegister, .int x_atPlace])), (mB, .inl (cY, 4096, .inl bf))]) [0, 1] rfl
          have hDc := hD.sub (ws' := [(m0, .inr (5, [.int x_thrown, .ref mB, .ref mR, .int x_flags, .ref mO, .int x_outCount, .int x_steps, .ref mN, .int x_nowFlags, .int x_writePlace, .int x_writeSize, .int x_writeValue, .int x_fault, .int x_halt, .int x_isByte, .int x_atRegister, .int x_atPlace])), (mB, .inl (cY, 4096, .inl bf))]) [0, 1] (by decide) rfl
          have hKc := hK.sub (tys' := [(cY, .int)]) [0] rfl
          have hFc := va_free (wc := [(m0, .inr (5, [.int x_thrown, .ref mB, .ref mR, .int x_flags, .ref mO, .int x_outCount, .int x_steps, .ref mN, .int x_nowFlags, .int x_writePlace, .int x_writeSize, .int x_writeValue, .int x_fault, .int x_halt, .int x_isByte, .int x_atRegister, .int x_atPlace])), (mB, .inl (cY, 4096, .inl bf))]) hD hS hA [0, 1] rfl
          refine va_calli (va_runV (C := RX5) (b := m0) (As := [.int pl]) (rest := []) ⟨hx, hb, hml, hown, hts⟩ (s_X5_wordAt l dC dI s.heap.size m0 pl x_thrown mB mR x_flags mO x_outCount x_steps mN x_nowFlags x_writePlace x_writeSize x_writeValue x_fault x_halt x_isByte x_atRegister x_atPlace cY bf (W_in (hpl.elim (fun q => absurd q (fle c_12)) id) c_11) (W_in1 (hpl.elim (fun q => absurd q (fle c_12)) id) c_11 c_10) hB) (cwV 1 hts gX5_read_X5_wordAt rfl rfl rfl (by decide +kernel) ⟨Nat.le_of_ble_eq_true rfl, Nat.le_of_ble_eq_true rfl⟩) ⟨q_blind, va_recv hK hP (ci := 5) (q0 := 0) rfl rfl, fun U hU hW => ⟨rfl, q_pay hU hW hPc hKc hDc hN⟩⟩ rfl rfl hl.1 rfl (lv_room (Nat.le_of_ble_eq_true rfl)) dX5_read_57 ⟨show 0 + 0 ≤ 0 from by omega, show 0 + 0 ≤ 0 from by omega⟩) hS (fun q _ h => hFc q h) hFc (fun r_14 u9 t H locs ht hvm hw_15 hB hz1 hk1 hS => ?_)
          obtain ⟨hP1, hK1, hD1⟩ := hB
          rw [ht] at hP1
          obtain ⟨hP, hD⟩ := va_join (wr := []) (w1 := [(m0, .inr (5, [.int x_thrown, .ref mB, .ref mR, .int x_flags, .ref mO, .int x_outCount, .int x_steps, .ref mN, .int x_nowFlags, .int x_writePlace, .int x_writeSize, .int x_writeValue, .int x_fault, .int x_halt, .int x_isByte, .int x_atRegister, .int x_atPlace])), (mB, .inl (cY, 4096, .inl bf))]) hP hD [0, 1] [] rfl rfl (by decide) (by decide) hk1 hFc hP1 hD1
          have hP : va_P (dC, dI) vwCl [(m0, .inr (5, [.int x_thrown, .ref mB, .ref mR, .int x_flags, .ref mO, .int x_outCount, .int x_steps, .ref mN, .int x_nowFlags, .int x_writePlace, .int x_writeSize, .int x_writeValue, .int x_fault, .int x_halt, .int x_isByte, .int x_atRegister, .int x_atPlace])), (mB, .inl (cY, 4096, .inl bf))] H := hP
          have hD : va_D A [(m0, .inr (5, [.int x_thrown, .ref mB, .ref mR, .int x_flags, .ref mO, .int x_outCount, .int x_steps, .ref mN, .int x_nowFlags, .int x_writePlace, .int x_writeSize, .int x_writeValue, .int x_fault, .int x_halt, .int x_isByte, .int x_atRegister, .int x_atPlace])), (mB, .inl (cY, 4096, .inl bf))] := hD
          refine W.widen (k := 0) (n := 0) (by omega) (by omega) ?_
          try dsimp only at hw_15
          have hP9 := hP.sub (ws' := [(m0, .inr (5, [.int x_thrown, .ref mB, .ref mR, .int x_flags, .ref mO, .int x_outCount, .int x_steps, .ref mN, .int x_nowFlags, .int x_writePlace, .int x_writeSize, .int x_writeValue, .int x_fault, .int x_halt, .int x_isByte, .int x_atRegister, .int x_atPlace])), (mB, .inl (cY, 4096, .inl bf))]) [0, 1] rfl
          have hD9 := hD.sub (ws' := [(m0, .inr (5, [.int x_thrown, .ref mB, .ref mR, .int x_flags, .ref mO, .int x_outCount, .int x_steps, .ref mN, .int x_nowFlags, .int x_writePlace, .int x_writeSize, .int x_writeValue, .int x_fault, .int x_halt, .int x_isByte, .int x_atRegister, .int x_atPlace])), (mB, .inl (cY, 4096, .inl bf))]) [0, 1] (by decide) rfl
          have hK9 := hK.sub (tys' := [(cY, .int)]) [0] rfl
          exact W.iret (v := r_14) hx hb hr (fun t ht hW => ⟨⟨r_14, x_fault, rfl, ⟨hF, id, hw_15, fun _ => ⟨(W_in (hpl.elim (fun q => absurd q (fle c_12)) id) c_11), (fun _ => W_in1 (hpl.elim (fun q => absurd q (fle c_12)) id) c_11 c_10)⟩, (fun q => absurd c_1 q)⟩, by rw [ht]; exact hP9, va_K.moved hW.alike hK9, hD9⟩, hS.F ht⟩) hS.2.2 dX5_read_60
        · refine lv_iconst (v := 0) hx hb dX5_read_38 (by decide) ?_
          refine lv_goto (tgt := 60) hx hb dX5_read_39 (by decide) ?_
          have hP9 := hP.sub (ws' := [(m0, .inr (5, [.int x_thrown, .ref mB, .ref mR, .int x_flags, .ref mO, .int x_outCount, .int x_steps, .ref mN, .int x_nowFlags, .int x_writePlace, .int x_writeSize, .int x_writeValue, .int x_fault, .int x_halt, .int x_isByte, .int x_atRegister, .int x_atPlace])), (mB, .inl (cY, 4096, .inl bf))]) [0, 1] rfl
          have hD9 := hD.sub (ws' := [(m0, .inr (5, [.int x_thrown, .ref mB, .ref mR, .int x_flags, .ref mO, .int x_outCount, .int x_steps, .ref mN, .int x_nowFlags, .int x_writePlace, .int x_writeSize, .int x_writeValue, .int x_fault, .int x_halt, .int x_isByte, .int x_atRegister, .int x_atPlace])), (mB, .inl (cY, 4096, .inl bf))]) [0, 1] (by decide) rfl
          have hK9 := hK.sub (tys' := [(cY, .int)]) [0] rfl
          exact W.iret (v := 0) hx hb hr (fun t ht hW => ⟨⟨0, x_fault, rfl, ⟨hF, (fun _ => (fnle c_12)), ⟨0, by decide, rfl⟩, fun h => absurd (fnle c_12) h, fun _ => ⟨0, by decide, rfl⟩⟩, by rw [ht]; exact hP9, va_K.moved hW.alike hK9, hD9⟩, hS.F ht⟩) hS.2.2 dX5_read_60
      · refine lv_aload_n hx hb dX5_read_26 rfl (lv_at hl 0 rfl) ?_
        refine lv_iconst (v := 3) hx hb dX5_read_27 (by decide) ?_
        have hPc := hP.sub (ws' := [(m0, .inr (5, [.int x_thrown, .ref mB, .ref mR, .int x_flags, .ref mO, .int x_outCount, .int x_steps, .ref mN, .int x_nowFlags, .int x_writePlace, .int x_writeSize, .int x_writeValue, .int x_fault, .int x_halt, .int x_isByte, .int x_atRegister, .int x_atPlace]))]) [0] rfl
        have hDc := hD.sub (ws' := [(m0, .inr (5, [.int x_thrown, .ref mB, .ref mR, .int x_flags, .ref mO, .int x_outCount, .int x_steps, .ref mN, .int x_nowFlags, .int x_writePlace, .int x_writeSize, .int x_writeValue, .int x_fault, .int x_halt, .int x_isByte, .int x_atRegister, .int x_atPlace]))]) [0] (by decide) rfl
        have hKc := hK.sub (tys' := []) [] rfl
        have hFc := va_free (wc := [(m0, .inr (5, [.int x_thrown, .ref mB, .ref mR, .int x_flags, .ref mO, .int x_outCount, .int x_steps, .ref mN, .int x_nowFlags, .int x_writePlace, .int x_writeSize, .int x_writeValue, .int x_fault, .int x_halt, .int x_isByte, .int x_atRegister, .int x_atPlace]))]) hD hS hA [0] rfl
        refine va_callv (va_runV (C := RX5) (b := m0) (As := [.int 3]) (rest := []) ⟨hx, hb, hml, hown, hts⟩ (s_X5_fail l dC dI s.heap.size m0 (3 : Int32) x_thrown mB mR x_flags mO x_outCount x_steps mN x_nowFlags x_writePlace x_writeSize x_writeValue x_fault x_halt x_isByte x_atRegister x_atPlace hF (by decide)) (cwV 1 hts gX5_read_X5_fail rfl rfl rfl (by decide +kernel) ⟨Nat.le_of_ble_eq_true rfl, Nat.le_of_ble_eq_true rfl⟩) ⟨q_blind, va_recv hK hP (ci := 5) (q0 := 0) rfl rfl, fun U hU hW => ⟨rfl, q_pay hU hW hPc hKc hDc hN⟩⟩ rfl rfl hl.1 rfl (lv_room (Nat.le_of_ble_eq_true rfl)) dX5_read_28 ⟨show 0 + 0 ≤ 0 from by omega, show 0 + 0 ≤ 0 from by omega⟩) hS (fun q _ h => hFc q h) hFc (fun u9 t H locs ht hvm hw_17 hB hz1 hk1 hS => ?_)
        obtain ⟨y_fault_18, rfl⟩ : ∃ z, z = u9 := ⟨_, rfl⟩
        obtain ⟨hP1, hK1, hD1⟩ := hB
        rw [ht] at hP1
        obtain ⟨hP, hD⟩ := va_join (wr := [(mB, .inl (cY, 4096, .inl bf))]) (w1 := [(m0, .inr (5, [.int x_thrown, .ref mB, .ref mR, .int x_flags, .ref mO, .int x_outCount, .int x_steps, .ref mN, .int x_nowFlags, .int x_writePlace, .int x_writeSize, .int x_writeValue, .int y_fault_18, .int x_halt, .int x_isByte, .int x_atRegister, .int x_atPlace]))]) hP hD [0] [1] rfl rfl (by decide) (by decide) hk1 hFc hP1 hD1
        have hP : va_P (dC, dI) vwCl [(mB, .inl (cY, 4096, .inl bf)), (m0, .inr (5, [.int x_thrown, .ref mB, .ref mR, .int x_flags, .ref mO, .int x_outCount, .int x_steps, .ref mN, .int x_nowFlags, .int x_writePlace, .int x_writeSize, .int x_writeValue, .int y_fault_18, .int x_halt, .int x_isByte, .int x_atRegister, .int x_atPlace]))] H := hP
        have hD : va_D A [(mB, .inl (cY, 4096, .inl bf)), (m0, .inr (5, [.int x_thrown, .ref mB, .ref mR, .int x_flags, .ref mO, .int x_outCount, .int x_steps, .ref mN, .int x_nowFlags, .int x_writePlace, .int x_writeSize, .int x_writeValue, .int y_fault_18, .int x_halt, .int x_isByte, .int x_atRegister, .int x_atPlace]))] := hD
        refine W.widen (k := 0) (n := 0) (by omega) (by omega) ?_
        try dsimp only at hw_17
        refine lv_aload_n hx hb dX5_read_31 rfl (lv_at hl 0 rfl) ?_
        refine va_get (D := (dC, dI)) (ci := 5) (v := .int y_fault_18) (C := RX5) (T := TX5) (N := 17) hx hb hts (by decide +kernel) hown hK hP 1 rfl rfl 12 (by decide) (hts (.fieldLink RX5 48 "WordGuestModel" "fault" "I") (by decide +kernel)) (fun _ h9 => h9) rfl dX5_read_32 ?_
        refine lv_if_le (tgt := 42) hx hb dX5_read_35 (by decide) (fun c9 => absurd c9 (Int32.not_le.mpr hw_17)) (fun c_19 => ?_)
        refine lv_iconst (v := 0) hx hb dX5_read_38 (by decide) ?_
        refine lv_goto (tgt := 60) hx hb dX5_read_39 (by decide) ?_
        have hP9 := hP.sub (ws' := [(m0, .inr (5, [.int x_thrown, .ref mB, .ref mR, .int x_flags, .ref mO, .int x_outCount, .int x_steps, .ref mN, .int x_nowFlags, .int x_writePlace, .int x_writeSize, .int x_writeValue, .int y_fault_18, .int x_halt, .int x_isByte, .int x_atRegister, .int x_atPlace])), (mB, .inl (cY, 4096, .inl bf))]) [1, 0] rfl
        have hD9 := hD.sub (ws' := [(m0, .inr (5, [.int x_thrown, .ref mB, .ref mR, .int x_flags, .ref mO, .int x_outCount, .int x_steps, .ref mN, .int x_nowFlags, .int x_writePlace, .int x_writeSize, .int x_writeValue, .int y_fault_18, .int x_halt, .int x_isByte, .int x_atRegister, .int x_atPlace])), (mB, .inl (cY, 4096, .inl bf))]) [1, 0] (by decide) rfl
        have hK9 := hK.sub (tys' := [(cY, .int)]) [0] rfl
        exact W.iret (v := 0) hx hb hr (fun t ht hW => ⟨⟨0, y_fault_18, rfl, ⟨(Or.inr hw_17), (fun _ => hw_17), ⟨0, by decide, rfl⟩, fun h => absurd hw_17 h, fun _ => ⟨0, by decide, rfl⟩⟩, by rw [ht]; exact hP9, va_K.moved hW.alike hK9, hD9⟩, hS.F ht⟩) hS.2.2 dX5_read_60
    · refine lv_aload_n hx hb dX5_read_11 rfl (lv_at hl 0 rfl) ?_
      refine lv_iconst (v := 2) hx hb dX5_read_12 (by decide) ?_
      have hPc := hP.sub (ws' := [(m0, .inr (5, [.int x_thrown, .ref mB, .ref mR, .int x_flags, .ref mO, .int x_outCount, .int x_steps, .ref mN, .int x_nowFlags, .int x_writePlace, .int x_writeSize, .int x_writeValue, .int x_fault, .int x_halt, .int x_isByte, .int x_atRegister, .int x_atPlace]))]) [0] rfl
      have hDc := hD.sub (ws' := [(m0, .inr (5, [.int x_thrown, .ref mB, .ref mR, .int x_flags, .ref mO, .int x_outCount, .int x_steps, .ref mN, .int x_nowFlags, .int x_writePlace, .int x_writeSize, .int x_writeValue, .int x_fault, .int x_halt, .int x_isByte, .int x_atRegister, .int x_atPlace]))]) [0] (by decide) rfl
      have hKc := hK.sub (tys' := []) [] rfl
      have hFc := va_free (wc := [(m0, .inr (5, [.int x_thrown, .ref mB, .ref mR, .int x_flags, .ref mO, .int x_outCount, .int x_steps, .ref mN, .int x_nowFlags, .int x_writePlace, .int x_writeSize, .int x_writeValue, .int x_fault, .int x_halt, .int x_isByte, .int x_atRegister, .int x_atPlace]))]) hD hS hA [0] rfl
      refine va_callv (va_runV (C := RX5) (b := m0) (As := [.int 2]) (rest := []) ⟨hx, hb, hml, hown, hts⟩ (s_X5_fail l dC dI s.heap.size m0 (2 : Int32) x_thrown mB mR x_flags mO x_outCount x_steps mN x_nowFlags x_writePlace x_writeSize x_writeValue x_fault x_halt x_isByte x_atRegister x_atPlace hF (by decide)) (cwV 1 hts gX5_read_X5_fail rfl rfl rfl (by decide +kernel) ⟨Nat.le_of_ble_eq_true rfl, Nat.le_of_ble_eq_true rfl⟩) ⟨q_blind, va_recv hK hP (ci := 5) (q0 := 0) rfl rfl, fun U hU hW => ⟨rfl, q_pay hU hW hPc hKc hDc hN⟩⟩ rfl rfl hl.1 rfl (lv_room (Nat.le_of_ble_eq_true rfl)) dX5_read_13 ⟨show 0 + 0 ≤ 0 from by omega, show 0 + 0 ≤ 0 from by omega⟩) hS (fun q _ h => hFc q h) hFc (fun u9 t H locs ht hvm hw_21 hB hz1 hk1 hS => ?_)
      obtain ⟨y_fault_22, rfl⟩ : ∃ z, z = u9 := ⟨_, rfl⟩
      obtain ⟨hP1, hK1, hD1⟩ := hB
      rw [ht] at hP1
      obtain ⟨hP, hD⟩ := va_join (wr := [(mB, .inl (cY, 4096, .inl bf))]) (w1 := [(m0, .inr (5, [.int x_thrown, .ref mB, .ref mR, .int x_flags, .ref mO, .int x_outCount, .int x_steps, .ref mN, .int x_nowFlags, .int x_writePlace, .int x_writeSize, .int x_writeValue, .int y_fault_22, .int x_halt, .int x_isByte, .int x_atRegister, .int x_atPlace]))]) hP hD [0] [1] rfl rfl (by decide) (by decide) hk1 hFc hP1 hD1
      have hP : va_P (dC, dI) vwCl [(mB, .inl (cY, 4096, .inl bf)), (m0, .inr (5, [.int x_thrown, .ref mB, .ref mR, .int x_flags, .ref mO, .int x_outCount, .int x_steps, .ref mN, .int x_nowFlags, .int x_writePlace, .int x_writeSize, .int x_writeValue, .int y_fault_22, .int x_halt, .int x_isByte, .int x_atRegister, .int x_atPlace]))] H := hP
      have hD : va_D A [(mB, .inl (cY, 4096, .inl bf)), (m0, .inr (5, [.int x_thrown, .ref mB, .ref mR, .int x_flags, .ref mO, .int x_outCount, .int x_steps, .ref mN, .int x_nowFlags, .int x_writePlace, .int x_writeSize, .int x_writeValue, .int y_fault_22, .int x_halt, .int x_isByte, .int x_atRegister, .int x_atPlace]))] := hD
      refine W.widen (k := 0) (n := 0) (by omega) (by omega) ?_
      try dsimp only at hw_21
      refine lv_goto (tgt := 31) hx hb dX5_read_16 (by decide) ?_
      refine lv_aload_n hx hb dX5_read_31 rfl (lv_at hl 0 rfl) ?_
      refine va_get (D := (dC, dI)) (ci := 5) (v := .int y_fault_22) (C := RX5) (T := TX5) (N := 17) hx hb hts (by decide +kernel) hown hK hP 1 rfl rfl 12 (by decide) (hts (.fieldLink RX5 48 "WordGuestModel" "fault" "I") (by decide +kernel)) (fun _ h9 => h9) rfl dX5_read_32 ?_
      refine lv_if_le (tgt := 42) hx hb dX5_read_35 (by decide) (fun c9 => absurd c9 (Int32.not_le.mpr hw_21)) (fun c_23 => ?_)
      refine lv_iconst (v := 0) hx hb dX5_read_38 (by decide) ?_
      refine lv_goto (tgt := 60) hx hb dX5_read_39 (by decide) ?_
      have hP9 := hP.sub (ws' := [(m0, .inr (5, [.int x_thrown, .ref mB, .ref mR, .int x_flags, .ref mO, .int x_outCount, .int x_steps, .ref mN, .int x_nowFlags, .int x_writePlace, .int x_writeSize, .int x_writeValue, .int y_fault_22, .int x_halt, .int x_isByte, .int x_atRegister, .int x_atPlace])), (mB, .inl (cY, 4096, .inl bf))]) [1, 0] rfl
      have hD9 := hD.sub (ws' := [(m0, .inr (5, [.int x_thrown, .ref mB, .ref mR, .int x_flags, .ref mO, .int x_outCount, .int x_steps, .ref mN, .int x_nowFlags, .int x_writePlace, .int x_writeSize, .int x_writeValue, .int y_fault_22, .int x_halt, .int x_isByte, .int x_atRegister, .int x_atPlace])), (mB, .inl (cY, 4096, .inl bf))]) [1, 0] (by decide) rfl
      have hK9 := hK.sub (tys' := [(cY, .int)]) [0] rfl
      exact W.iret (v := 0) hx hb hr (fun t ht hW => ⟨⟨0, y_fault_22, rfl, ⟨(Or.inr hw_21), (fun _ => hw_21), ⟨0, by decide, rfl⟩, fun h => absurd hw_21 h, fun _ => ⟨0, by decide, rfl⟩⟩, by rw [ht]; exact hP9, va_K.moved hW.alike hK9, hD9⟩, hS.F ht⟩) hS.2.2 dX5_read_60
set_option maxHeartbeats 4000000 in
set_option maxRecDepth 100000 in
theorem s_X5_fetch (l : Launch) (dC : Nat → ClassId) (dI : Nat → Nat → Nat) (sz : Nat) (m0 : Nat) (x_thrown : Int32) (mB : Nat) (mR : Nat) (x_flags : Int32) (mO : Nat) (x_outCount : Int32) (x_steps : Int32) (mN : Nat) (x_nowFlags : Int32) (x_writePlace : Int32) (x_writeSize : Int32) (x_writeValue : Int32) (x_fault : Int32) (x_halt : Int32) (x_isByte : Int32) (x_atRegister : Int32) (x_atPlace : Int32) (cY : ClassId) (bf : Nat → Int32) (cN : ClassId) (nf : Nat → Int32) (hF : okF x_fault) (hN9 : okN x_fault nf) (hB : okB bf) : Met l yX5_fetch wsX5_fetch ({ frames := 2, cells := 0, slots := 0, locals := 43 }) (va_Pc [.ref m0] (q_pre dC dI sz [(m0, .inr (5, [.int x_thrown, .ref mB, .ref mR, .int x_flags, .ref mO, .int x_outCount, .int x_steps, .ref mN, .int x_nowFlags, .int x_writePlace, .int x_writeSize, .int x_writeValue, .int x_fault, .int x_halt, .int x_isByte, .int x_atRegister, .int x_atPlace])), (mB, .inl (cY, 4096, .inl bf)), (mN, .inl (cN, 8, .inl nf))] [(cY, .int), (cN, .int)])) (va_Qi (fun (r : Int32) (u9 : Int32 × (Nat → Int32)) => (okF u9.1) ∧ (okN u9.1 u9.2) ∧ (isW r)) (q_at dC dI (va_A [(m0, .inr (5, [.int x_thrown, .ref mB, .ref mR, .int x_flags, .ref mO, .int x_outCount, .int x_steps, .ref mN, .int x_nowFlags, .int x_writePlace, .int x_writeSize, .int x_writeValue, .int x_fault, .int x_halt, .int x_isByte, .int x_atRegister, .int x_atPlace])), (mB, .inl (cY, 4096, .inl bf)), (mN, .inl (cN, 8, .inl nf))] sz) (fun (u9 : Int32 × (Nat → Int32)) => [(cY, .int), (cN, .int)]) (fun (u9 : Int32 × (Nat → Int32)) => [(m0, .inr (5, [.int x_thrown, .ref mB, .ref mR, .int x_flags, .ref mO, .int x_outCount, .int x_steps, .ref mN, .int x_nowFlags, .int x_writePlace, .int x_writeSize, .int x_writeValue, .int u9.1, .int x_halt, .int x_isByte, .int x_atRegister, .int x_atPlace])), (mB, .inl (cY, 4096, .inl bf)), (mN, .inl (cN, 8, .inl u9.2))])) (va_A [(m0, .inr (5, [.int x_thrown, .ref mB, .ref mR, .int x_flags, .ref mO, .int x_outCount, .int x_steps, .ref mN, .int x_nowFlags, .int x_writePlace, .int x_writeSize, .int x_writeValue, .int x_fault, .int x_halt, .int x_isByte, .int x_atRegister, .int x_atPlace])), (mB, .inl (cY, 4096, .inl bf)), (mN, .inl (cN, 8, .inl nf))] sz)) 0 0 (va_A [(m0, .inr (5, [.int x_thrown, .ref mB, .ref mR, .int x_flags, .ref mO, .int x_outCount, .int x_steps, .ref mN, .int x_nowFlags, .int x_writePlace, .int x_writeSize, .int x_writeValue, .int x_fault, .int x_halt, .int x_isByte, .int x_atRegister, .int x_atPlace])), (mB, .inl (cY, 4096, .inl bf)), (mN, .inl (cN, 8, .inl nf))] sz) := by
  refine Met.ofW (cc := cX5_fetch) (maxL := 2) (ret := (some .int)) (by decide) rfl ?_
  intro p e s m args below meth c s₁ B hml hv
  obtain ⟨rfl, hsz, hP, hK, hD0, hN⟩ := hv
  have hx := B.exec
  have hb := B.bytes
  have hr := B.returns
  have hts := atoms_spec (ws := wsX5_fetch) B.pre
  have hown : s.vm.findClass RX5 = some m.cls := findClass_of_methodNamed B.named
  have hlocks := B.notSynchronized
  subst hsz
  have hD := hD0.self (sz := s.heap.size)
  generalize hAe : va_A [(m0, .inr (5, [.int x_thrown, .ref mB, .ref mR, .int x_flags, .ref mO, .int x_outCount, .int x_steps, .ref mN, .int x_nowFlags, .int x_writePlace, .int x_writeSize, .int x_writeValue, .int x_fault, .int x_halt, .int x_isByte, .int x_atRegister, .int x_atPlace])), (mB, .inl (cY, 4096, .inl bf)), (mN, .inl (cN, 8, .inl nf))] s.heap.size = A at hD ⊢
  have hA : ∀ q : Nat, s.heap.size ≤ q → A q := fun q h => by rw [← hAe]; exact Or.inr h
  have hS : va_S A s.heap s.heap [] := va_S.rf
  have hP : va_P (dC, dI) vwCl [(m0, .inr (5, [.int x_thrown, .ref mB, .ref mR, .int x_flags, .ref mO, .int x_outCount, .int x_steps, .ref mN, .int x_nowFlags, .int x_writePlace, .int x_writeSize, .int x_writeValue, .int x_fault, .int x_halt, .int x_isByte, .int x_atRegister, .int x_atPlace])), (mB, .inl (cY, 4096, .inl bf)), (mN, .inl (cN, 8, .inl nf))] s.heap := hP
  have hl := lv_entry ([.ref m0]) (n := 2) (Nat.le_of_ble_eq_true rfl)
  rw [lg_entry_eq]
  generalize (lg_sl ([.ref m0]) ++ List.replicate (2 - (lg_sl ([.ref m0])).length) Slot.unset).toArray = ls at hl ⊢
  have hl : lv_has ls 2 [(0, .ref m0)] := hl
  refine lv_aload_n hx hb dX5_fetch_0 rfl (lv_at hl 0 rfl) ?_
  refine lv_aload_n hx hb dX5_fetch_1 rfl (lv_at hl 0 rfl) ?_
  refine va_get (D := (dC, dI)) (ci := 5) (v := .ref mN) (C := RX5) (T := TX5) (N := 17) hx hb hts (by decide +kernel) hown hK hP 0 rfl rfl 7 (by decide) (hts (.fieldLink RX5 19 "WordGuestModel" "now" "[I") (by decide +kernel)) (fun _ h9 => h9) rfl dX5_fetch_2 ?_
  refine lv_bipush (v := 7) hx hb dX5_fetch_5 (by decide) ?_
  refine va_iald hx hb hK hP 2 1 rfl rfl (by unfold vp_in; decide) dX5_fetch_7 ?_
  refine lv_iconst (v := 0) hx hb dX5_fetch_8 (by decide) ?_
  have hPc := hP.sub (ws' := [(m0, .inr (5, [.int x_thrown, .ref mB, .ref mR, .int x_flags, .ref mO, .int x_outCount, .int x_steps, .ref mN, .int x_nowFlags, .int x_writePlace, .int x_writeSize, .int x_writeValue, .int x_fault, .int x_halt, .int x_isByte, .int x_atRegister, .int x_atPlace])), (mB, .inl (cY, 4096, .inl bf))]) [0, 1] rfl
  have hDc := hD.sub (ws' := [(m0, .inr (5, [.int x_thrown, .ref mB, .ref mR, .int x_flags, .ref mO, .int x_outCount, .int x_steps, .ref mN, .int x_nowFlags, .int x_writePlace, .int x_writeSize, .int x_writeValue, .int x_fault, .int x_halt, .int x_isByte, .int x_atRegister, .int x_atPlace])), (mB, .inl (cY, 4096, .inl bf))]) [0, 1] (by decide) rfl
  have hKc := hK.sub (tys' := [(cY, .int)]) [0] rfl
  have hFc := va_free (wc := [(m0, .inr (5, [.int x_thrown, .ref mB, .ref mR, .int x_flags, .ref mO, .int x_outCount, .int x_steps, .ref mN, .int x_nowFlags, .int x_writePlace, .int x_writeSize, .int x_writeValue, .int x_fault, .int x_halt, .int x_isByte, .int x_atRegister, .int x_atPlace])), (mB, .inl (cY, 4096, .inl bf))]) hD hS hA [0, 1] rfl
  refine va_calli (va_runV (C := RX5) (b := m0) (As := [.int (nf (7 : Int32).toNatClampNeg), .int 0]) (rest := []) ⟨hx, hb, hml, hown, hts⟩ (s_X5_read l dC dI s.heap.size m0 (nf (7 : Int32).toNatClampNeg) (0 : Int32) x_thrown mB mR x_flags mO x_outCount x_steps mN x_nowFlags x_writePlace x_writeSize x_writeValue x_fault x_halt x_isByte x_atRegister x_atPlace cY bf hF hB (okN_el hN9 (by unfold vp_in; decide))) (cwV 2 hts gX5_fetch_X5_read rfl rfl rfl (by decide +kernel) ⟨Nat.le_of_ble_eq_true rfl, Nat.le_of_ble_eq_true rfl⟩) ⟨q_blind, va_recv hK hP (ci := 5) (q0 := 0) rfl rfl, fun U hU hW => ⟨rfl, q_pay hU hW hPc hKc hDc hN⟩⟩ rfl rfl hl.1 rfl (lv_room (Nat.le_of_ble_eq_true rfl)) dX5_fetch_9 ⟨show 0 + 0 ≤ 0 from by omega, show 0 + 0 ≤ 0 from by omega⟩) hS (fun q _ h => hFc q h) hFc (fun r_1 u9 t H locs ht hvm hw_2 hB hz1 hk1 hS => ?_)
  obtain ⟨y_fault_3, rfl⟩ : ∃ z, z = u9 := ⟨_, rfl⟩
  obtain ⟨hP1, hK1, hD1⟩ := hB
  rw [ht] at hP1
  obtain ⟨hP, hD⟩ := va_join (wr := [(mN, .inl (cN, 8, .inl nf))]) (w1 := [(m0, .inr (5, [.int x_thrown, .ref mB, .ref mR, .int x_flags, .ref mO, .int x_outCount, .int x_steps, .ref mN, .int x_nowFlags, .int x_writePlace, .int x_writeSize, .int x_writeValue, .int y_fault_3, .int x_halt, .int x_isByte, .int x_atRegister, .int x_atPlace])), (mB, .inl (cY, 4096, .inl bf))]) hP hD [0, 1] [2] rfl rfl (by decide) (by decide) hk1 hFc hP1 hD1
  have hP : va_P (dC, dI) vwCl [(mN, .inl (cN, 8, .inl nf)), (m0, .inr (5, [.int x_thrown, .ref mB, .ref mR, .int x_flags, .ref mO, .int x_outCount, .int x_steps, .ref mN, .int x_nowFlags, .int x_writePlace, .int x_writeSize, .int x_writeValue, .int y_fault_3, .int x_halt, .int x_isByte, .int x_atRegister, .int x_atPlace])), (mB, .inl (cY, 4096, .inl bf))] H := hP
  have hD : va_D A [(mN, .inl (cN, 8, .inl nf)), (m0, .inr (5, [.int x_thrown, .ref mB, .ref mR, .int x_flags, .ref mO, .int x_outCount, .int x_steps, .ref mN, .int x_nowFlags, .int x_writePlace, .int x_writeSize, .int x_writeValue, .int y_fault_3, .int x_halt, .int x_isByte, .int x_atRegister, .int x_atPlace])), (mB, .inl (cY, 4096, .inl bf))] := hD
  refine W.widen (k := 0) (n := 0) (by omega) (by omega) ?_
  try dsimp only at hw_2
  refine lv_istore_n (lv' := [(1, .int r_1), (0, .ref m0)]) hx hb dX5_fetch_12 rfl hl (by decide) rfl (fun ls hl => ?_)
  refine lv_aload_n hx hb dX5_fetch_13 rfl (lv_at hl 1 rfl) ?_
  refine va_get (D := (dC, dI)) (ci := 5) (v := .ref mN) (C := RX5) (T := TX5) (N := 17) hx hb hts (by decide +kernel) hown hK hP 1 rfl rfl 7 (by decide) (hts (.fieldLink RX5 19 "WordGuestModel" "now" "[I") (by decide +kernel)) (fun _ h9 => h9) rfl dX5_fetch_14 ?_
  refine lv_bipush (v := 7) hx hb dX5_fetch_17 (by decide) ?_
  refine lv_aload_n hx hb dX5_fetch_19 rfl (lv_at hl 1 rfl) ?_
  refine va_get (D := (dC, dI)) (ci := 5) (v := .ref mN) (C := RX5) (T := TX5) (N := 17) hx hb hts (by decide +kernel) hown hK hP 1 rfl rfl 7 (by decide) (hts (.fieldLink RX5 19 "WordGuestModel" "now" "[I") (by decide +kernel)) (fun _ h9 => h9) rfl dX5_fetch_20 ?_
  refine lv_bipush (v := 7) hx hb dX5_fetch_23 (by decide) ?_
  refine va_iald hx hb hK hP 0 1 rfl rfl (by unfold vp_in; decide) dX5_fetch_25 ?_
  refine lv_iconst (v := 2) hx hb dX5_fetch_26 (by decide) ?_
  refine lv_iadd hx hb dX5_fetch_27 ?_
  refine lv_ldc (v := 65535) hx hb hown (hts (.constant RX5 30 (65535)) (by decide +kernel)) dX5_fetch_28 ?_
  refine lv_iand hx hb dX5_fetch_30 ?_
  refine va_iast hx hb hK hP hD hS 0 1 rfl rfl (by unfold vp_in; decide) dX5_fetch_31 (fun H locs hP hD hS => ?_)
  have hP : va_P (dC, dI) vwCl [(mN, .inl (cN, 8, .inl (upd nf (7 : Int32).toNatClampNeg (((nf (7 : Int32).toNatClampNeg) + 2) &&& 65535)))), (m0, .inr (5, [.int x_thrown, .ref mB, .ref mR, .int x_flags, .ref mO, .int x_outCount, .int x_steps, .ref mN, .int x_nowFlags, .int x_writePlace, .int x_writeSize, .int x_writeValue, .int y_fault_3, .int x_halt, .int x_isByte, .int x_atRegister, .int x_atPlace])), (mB, .inl (cY, 4096, .inl bf))] H := hP
  have hD : va_D A [(mN, .inl (cN, 8, .inl (upd nf (7 : Int32).toNatClampNeg (((nf (7 : Int32).toNatClampNeg) + 2) &&& 65535)))), (m0, .inr (5, [.int x_thrown, .ref mB, .ref mR, .int x_flags, .ref mO, .int x_outCount, .int x_steps, .ref mN, .int x_nowFlags, .int x_writePlace, .int x_writeSize, .int x_writeValue, .int y_fault_3, .int x_halt, .int x_isByte, .int x_atRegister, .int x_atPlace])), (mB, .inl (cY, 4096, .inl bf))] := hD
  have hN_4 : okN y_fault_3 (upd nf (7 : Int32).toNatClampNeg (((nf (7 : Int32).toNatClampNeg) + 2) &&& 65535)) := okN_upd (okN_mono hN9 hw_2.2.1) (isW_and _) _
  generalize (upd nf (7 : Int32).toNatClampNeg (((nf (7 : Int32).toNatClampNeg) + 2) &&& 65535)) = g_5 at hP hD hN_4
  refine lv_iload_n hx hb dX5_fetch_32 rfl (lv_at hl 0 rfl) ?_
  have hP9 := hP.sub (ws' := [(m0, .inr (5, [.int x_thrown, .ref mB, .ref mR, .int x_flags, .ref mO, .int x_outCount, .int x_steps, .ref mN, .int x_nowFlags, .int x_writePlace, .int x_writeSize, .int x_writeValue, .int y_fault_3, .int x_halt, .int x_isByte, .int x_atRegister, .int x_atPlace])), (mB, .inl (cY, 4096, .inl bf)), (mN, .inl (cN, 8, .inl g_5))]) [1, 2, 0] rfl
  have hD9 := hD.sub (ws' := [(m0, .inr (5, [.int x_thrown, .ref mB, .ref mR, .int x_flags, .ref mO, .int x_outCount, .int x_steps, .ref mN, .int x_nowFlags, .int x_writePlace, .int x_writeSize, .int x_writeValue, .int y_fault_3, .int x_halt, .int x_isByte, .int x_atRegister, .int x_atPlace])), (mB, .inl (cY, 4096, .inl bf)), (mN, .inl (cN, 8, .inl g_5))]) [1, 2, 0] (by decide) rfl
  have hK9 := hK.sub (tys' := [(cY, .int), (cN, .int)]) [0, 1] rfl
  exact W.iret (v := r_1) hx hb hr (fun t ht hW => ⟨⟨r_1, (y_fault_3, g_5), rfl, ⟨hw_2.1, hN_4, hw_2.2.2.1⟩, by rw [ht]; exact hP9, va_K.moved hW.alike hK9, hD9⟩, hS.F ht⟩) hS.2.2 dX5_fetch_33
set_option maxHeartbeats 4000000 in
set_option maxRecDepth 100000 in
theorem s_X5_move (l : Launch) (dC : Nat → ClassId) (dI : Nat → Nat → Nat) (sz : Nat) (m0 : Nat) (rr : Int32) (v : Int32) (x_thrown : Int32) (mB : Nat) (mR : Nat) (x_flags : Int32) (mO : Nat) (x_outCount : Int32) (x_steps : Int32) (mN : Nat) (x_nowFlags : Int32) (x_writePlace : Int32) (x_writeSize : Int32) (x_writeValue : Int32) (x_fault : Int32) (x_halt : Int32) (x_isByte : Int32) (x_atRegister : Int32) (x_atPlace : Int32) (cN : ClassId) (nf : Nat → Int32) (hN9 : okN x_fault nf) (hr9 : vp_in rr 8) : Met l yX5_move wsX5_move ({ frames := 0, cells := 0, slots := 0, locals := 0 }) (va_Pc [.ref m0, .int rr, .int v] (q_pre dC dI sz [(m0, .inr (5, [.int x_thrown, .ref mB, .ref mR, .int x_flags, .ref mO, .int x_outCount, .int x_steps, .ref mN, .int x_nowFlags, .int x_writePlace, .int x_writeSize, .int x_writeValue, .int x_fault, .int x_halt, .int x_isByte, .int x_atRegister, .int x_atPlace])), (mN, .inl (cN, 8, .inl nf))] [(cN, .int)])) (va_Qv (fun (u9 : (Nat → Int32)) => okN x_fault u9) (q_at dC dI (va_A [(m0, .inr (5, [.int x_thrown, .ref mB, .ref mR, .int x_flags, .ref mO, .int x_outCount, .int x_steps, .ref mN, .int x_nowFlags, .int x_writePlace, .int x_writeSize, .int x_writeValue, .int x_fault, .int x_halt, .int x_isByte, .int x_atRegister, .int x_atPlace])), (mN, .inl (cN, 8, .inl nf))] sz) (fun (u9 : (Nat → Int32)) => [(cN, .int)]) (fun (u9 : (Nat → Int32)) => [(m0, .inr (5, [.int x_thrown, .ref mB, .ref mR, .int x_flags, .ref mO, .int x_outCount, .int x_steps, .ref mN, .int x_nowFlags, .int x_writePlace, .int x_writeSize, .int x_writeValue, .int x_fault, .int x_halt, .int x_isByte, .int x_atRegister, .int x_atPlace])), (mN, .inl (cN, 8, .inl u9))])) (va_A [(m0, .inr (5, [.int x_thrown, .ref mB, .ref mR, .int x_flags, .ref mO, .int x_outCount, .int x_steps, .ref mN, .int x_nowFlags, .int x_writePlace, .int x_writeSize, .int x_writeValue, .int x_fault, .int x_halt, .int x_isByte, .int x_atRegister, .int x_atPlace])), (mN, .inl (cN, 8, .inl nf))] sz)) 0 0 (va_A [(m0, .inr (5, [.int x_thrown, .ref mB, .ref mR, .int x_flags, .ref mO, .int x_outCount, .int x_steps, .ref mN, .int x_nowFlags, .int x_writePlace, .int x_writeSize, .int x_writeValue, .int x_fault, .int x_halt, .int x_isByte, .int x_atRegister, .int x_atPlace])), (mN, .inl (cN, 8, .inl nf))] sz) := by
  refine Met.ofW (cc := cX5_move) (maxL := 3) (ret := none) (by decide) rfl ?_
  intro p e s m args below meth c s₁ B hml hv
  obtain ⟨rfl, hsz, hP, hK, hD0, hN⟩ := hv
  have hx := B.exec
  have hb := B.bytes
  have hr := B.returns
  have hts := atoms_spec (ws := wsX5_move) B.pre
  have hown : s.vm.findClass RX5 = some m.cls := findClass_of_methodNamed B.named
  have hlocks := B.notSynchronized
  subst hsz
  have hD := hD0.self (sz := s.heap.size)
  generalize hAe : va_A [(m0, .inr (5, [.int x_thrown, .ref mB, .ref mR, .int x_flags, .ref mO, .int x_outCount, .int x_steps, .ref mN, .int x_nowFlags, .int x_writePlace, .int x_writeSize, .int x_writeValue, .int x_fault, .int x_halt, .int x_isByte, .int x_atRegister, .int x_atPlace])), (mN, .inl (cN, 8, .inl nf))] s.heap.size = A at hD ⊢
  have hA : ∀ q : Nat, s.heap.size ≤ q → A q := fun q h => by rw [← hAe]; exact Or.inr h
  have hS : va_S A s.heap s.heap [] := va_S.rf
  have hP : va_P (dC, dI) vwCl [(m0, .inr (5, [.int x_thrown, .ref mB, .ref mR, .int x_flags, .ref mO, .int x_outCount, .int x_steps, .ref mN, .int x_nowFlags, .int x_writePlace, .int x_writeSize, .int x_writeValue, .int x_fault, .int x_halt, .int x_isByte, .int x_atRegister, .int x_atPlace])), (mN, .inl (cN, 8, .inl nf))] s.heap := hP
  have hl := lv_entry ([.ref m0, .int rr, .int v]) (n := 3) (Nat.le_of_ble_eq_true rfl)
  rw [lg_entry_eq]
  generalize (lg_sl ([.ref m0, .int rr, .int v]) ++ List.replicate (3 - (lg_sl ([.ref m0, .int rr, .int v])).length) Slot.unset).toArray = ls at hl ⊢
  have hl : lv_has ls 3 [(0, .ref m0), (1, .int rr), (2, .int v)] := hl
  refine lv_aload_n hx hb dX5_move_0 rfl (lv_at hl 0 rfl) ?_
  refine va_get (D := (dC, dI)) (ci := 5) (v := .ref mN) (C := RX5) (T := TX5) (N := 17) hx hb hts (by decide +kernel) hown hK hP 0 rfl rfl 7 (by decide) (hts (.fieldLink RX5 19 "WordGuestModel" "now" "[I") (by decide +kernel)) (fun _ h9 => h9) rfl dX5_move_1 ?_
  refine lv_iload_n hx hb dX5_move_4 rfl (lv_at hl 1 rfl) ?_
  refine lv_aload_n hx hb dX5_move_5 rfl (lv_at hl 0 rfl) ?_
  refine va_get (D := (dC, dI)) (ci := 5) (v := .ref mN) (C := RX5) (T := TX5) (N := 17) hx hb hts (by decide +kernel) hown hK hP 0 rfl rfl 7 (by decide) (hts (.fieldLink RX5 19 "WordGuestModel" "now" "[I") (by decide +kernel)) (fun _ h9 => h9) rfl dX5_move_6 ?_
  refine lv_iload_n hx hb dX5_move_9 rfl (lv_at hl 1 rfl) ?_
  refine va_iald hx hb hK hP 1 0 rfl rfl hr9 dX5_move_10 ?_
  refine lv_iload_n hx hb dX5_move_11 rfl (lv_at hl 2 rfl) ?_
  refine lv_iadd hx hb dX5_move_12 ?_
  refine lv_ldc (v := 65535) hx hb hown (hts (.constant RX5 30 (65535)) (by decide +kernel)) dX5_move_13 ?_
  refine lv_iand hx hb dX5_move_15 ?_
  refine va_iast hx hb hK hP hD hS 1 0 rfl rfl hr9 dX5_move_16 (fun H locs hP hD hS => ?_)
  have hP : va_P (dC, dI) vwCl [(m0, .inr (5, [.int x_thrown, .ref mB, .ref mR, .int x_flags, .ref mO, .int x_outCount, .int x_steps, .ref mN, .int x_nowFlags, .int x_writePlace, .int x_writeSize, .int x_writeValue, .int x_fault, .int x_halt, .int x_isByte, .int x_atRegister, .int x_atPlace])), (mN, .inl (cN, 8, .inl (upd nf rr.toNatClampNeg (((nf rr.toNatClampNeg) + v) &&& 65535))))] H := hP
  have hD : va_D A [(m0, .inr (5, [.int x_thrown, .ref mB, .ref mR, .int x_flags, .ref mO, .int x_outCount, .int x_steps, .ref mN, .int x_nowFlags, .int x_writePlace, .int x_writeSize, .int x_writeValue, .int x_fault, .int x_halt, .int x_isByte, .int x_atRegister, .int x_atPlace])), (mN, .inl (cN, 8, .inl (upd nf rr.toNatClampNeg (((nf rr.toNatClampNeg) + v) &&& 65535))))] := hD
  have hN_1 : okN x_fault (upd nf rr.toNatClampNeg (((nf rr.toNatClampNeg) + v) &&& 65535)) := okN_upd hN9 (isW_and _) _
  generalize (upd nf rr.toNatClampNeg (((nf rr.toNatClampNeg) + v) &&& 65535)) = g_2 at hP hD hN_1
  have hP9 := hP.sub (ws' := [(m0, .inr (5, [.int x_thrown, .ref mB, .ref mR, .int x_flags, .ref mO, .int x_outCount, .int x_steps, .ref mN, .int x_nowFlags, .int x_writePlace, .int x_writeSize, .int x_writeValue, .int x_fault, .int x_halt, .int x_isByte, .int x_atRegister, .int x_atPlace])), (mN, .inl (cN, 8, .inl g_2))]) [0, 1] rfl
  have hD9 := hD.sub (ws' := [(m0, .inr (5, [.int x_thrown, .ref mB, .ref mR, .int x_flags, .ref mO, .int x_outCount, .int x_steps, .ref mN, .int x_nowFlags, .int x_writePlace, .int x_writeSize, .int x_writeValue, .int x_fault, .int x_halt, .int x_isByte, .int x_atRegister, .int x_atPlace])), (mN, .inl (cN, 8, .inl g_2))]) [0, 1] (by decide) rfl
  have hK9 := hK.sub (tys' := [(cN, .int)]) [0] rfl
  exact W.vret hx hb hr (fun t ht hW => ⟨⟨g_2, rfl, hN_1, by rw [ht]; exact hP9, va_K.moved hW.alike hK9, hD9⟩, hS.F ht⟩) hS.2.2 dX5_move_17
set_option maxHeartbeats 4000000 in
set_option maxRecDepth 100000 in
theorem s_X5_mask (l : Launch) (dC : Nat → ClassId) (dI : Nat → Nat → Nat) (sz : Nat) (m0 : Nat) (x_thrown : Int32) (mB : Nat) (mR : Nat) (x_flags : Int32) (mO : Nat) (x_outCount : Int32) (x_steps : Int32) (mN : Nat) (x_nowFlags : Int32) (x_writePlace : Int32) (x_writeSize : Int32) (x_writeValue : Int32) (x_fault : Int32) (x_halt : Int32) (x_isByte : Int32) (x_atRegister : Int32) (x_atPlace : Int32)  : Met l yX5_mask wsX5_mask ({ frames := 0, cells := 0, slots := 0, locals := 0 }) (va_Pc [.ref m0] (q_pre dC dI sz [(m0, .inr (5, [.int x_thrown, .ref mB, .ref mR, .int x_flags, .ref mO, .int x_outCount, .int x_steps, .ref mN, .int x_nowFlags, .int x_writePlace, .int x_writeSize, .int x_writeValue, .int x_fault, .int x_halt, .int x_isByte, .int x_atRegister, .int x_atPlace]))] [])) (va_Qi (fun (r : Int32) (u9 : Unit) => True) (q_at dC dI (va_A [(m0, .inr (5, [.int x_thrown, .ref mB, .ref mR, .int x_flags, .ref mO, .int x_outCount, .int x_steps, .ref mN, .int x_nowFlags, .int x_writePlace, .int x_writeSize, .int x_writeValue, .int x_fault, .int x_halt, .int x_isByte, .int x_atRegister, .int x_atPlace]))] sz) (fun (u9 : Unit) => []) (fun (u9 : Unit) => [(m0, .inr (5, [.int x_thrown, .ref mB, .ref mR, .int x_flags, .ref mO, .int x_outCount, .int x_steps, .ref mN, .int x_nowFlags, .int x_writePlace, .int x_writeSize, .int x_writeValue, .int x_fault, .int x_halt, .int x_isByte, .int x_atRegister, .int x_atPlace]))])) (va_A [(m0, .inr (5, [.int x_thrown, .ref mB, .ref mR, .int x_flags, .ref mO, .int x_outCount, .int x_steps, .ref mN, .int x_nowFlags, .int x_writePlace, .int x_writeSize, .int x_writeValue, .int x_fault, .int x_halt, .int x_isByte, .int x_atRegister, .int x_atPlace]))] sz)) 0 0 (va_A [(m0, .inr (5, [.int x_thrown, .ref mB, .ref mR, .int x_flags, .ref mO, .int x_outCount, .int x_steps, .ref mN, .int x_nowFlags, .int x_writePlace, .int x_writeSize, .int x_writeValue, .int x_fault, .int x_halt, .int x_isByte, .int x_atRegister, .int x_atPlace]))] sz) := by
  refine Met.ofW (cc := cX5_mask) (maxL := 1) (ret := (some .int)) (by decide) rfl ?_
  intro p e s m args below meth c s₁ B hml hv
  obtain ⟨rfl, hsz, hP, hK, hD0, hN⟩ := hv
  have hx := B.exec
  have hb := B.bytes
  have hr := B.returns
  have hts := atoms_spec (ws := wsX5_mask) B.pre
  have hown : s.vm.findClass RX5 = some m.cls := findClass_of_methodNamed B.named
  have hlocks := B.notSynchronized
  subst hsz
  have hD := hD0.self (sz := s.heap.size)
  generalize hAe : va_A [(m0, .inr (5, [.int x_thrown, .ref mB, .ref mR, .int x_flags, .ref mO, .int x_outCount, .int x_steps, .ref mN, .int x_nowFlags, .int x_writePlace, .int x_writeSize, .int x_writeValue, .int x_fault, .int x_halt, .int x_isByte, .int x_atRegister, .int x_atPlace]))] s.heap.size = A at hD ⊢
  have hA : ∀ q : Nat, s.heap.size ≤ q → A q := fun q h => by rw [← hAe]; exact Or.inr h
  have hS : va_S A s.heap s.heap [] := va_S.rf
  have hP : va_P (dC, dI) vwCl [(m0, .inr (5, [.int x_thrown, .ref mB, .ref mR, .int x_flags, .ref mO, .int x_outCount, .int x_steps, .ref mN, .int x_nowFlags, .int x_writePlace, .int x_writeSize, .int x_writeValue, .int x_fault, .int x_halt, .int x_isByte, .int x_atRegister, .int x_atPlace]))] s.heap := hP
  have hl := lv_entry ([.ref m0]) (n := 1) (Nat.le_of_ble_eq_true rfl)
  rw [lg_entry_eq]
  generalize (lg_sl ([.ref m0]) ++ List.replicate (1 - (lg_sl ([.ref m0])).length) Slot.unset).toArray = ls at hl ⊢
  have hl : lv_has ls 1 [(0, .ref m0)] := hl
  refine lv_aload_n hx hb dX5_mask_0 rfl (lv_at hl 0 rfl) ?_
  refine va_get (D := (dC, dI)) (ci := 5) (v := .int x_isByte) (C := RX5) (T := TX5) (N := 17) hx hb hts (by decide +kernel) hown hK hP 0 rfl rfl 14 (by decide) (hts (.fieldLink RX5 59 "WordGuestModel" "isByte" "Z") (by decide +kernel)) (fun _ h9 => h9) rfl dX5_mask_1 ?_
  refine q_any (ls := ls) 15 [] (fun b_2 => ?_) (fun jn => ?_)
  · have hP9 := hP.sub (ws' := [(m0, .inr (5, [.int x_thrown, .ref mB, .ref mR, .int x_flags, .ref mO, .int x_outCount, .int x_steps, .ref mN, .int x_nowFlags, .int x_writePlace, .int x_writeSize, .int x_writeValue, .int x_fault, .int x_halt, .int x_isByte, .int x_atRegister, .int x_atPlace]))]) [0] rfl
    have hD9 := hD.sub (ws' := [(m0, .inr (5, [.int x_thrown, .ref mB, .ref mR, .int x_flags, .ref mO, .int x_outCount, .int x_steps, .ref mN, .int x_nowFlags, .int x_writePlace, .int x_writeSize, .int x_writeValue, .int x_fault, .int x_halt, .int x_isByte, .int x_atRegister, .int x_atPlace]))]) [0] (by decide) rfl
    have hK9 := hK.sub (tys' := []) [] rfl
    exact W.iret (v := b_2) hx hb hr (fun t ht hW => ⟨⟨b_2, (), rfl, trivial, by rw [ht]; exact hP9, va_K.moved hW.alike hK9, hD9⟩, hS.F ht⟩) hS.2.2 dX5_mask_15
  refine lv_if_eq (tgt := 13) hx hb dX5_mask_4 (by decide) (fun c_1 => ?_) (fun c_1 => ?_)
  · refine lv_ldc (v := 65535) hx hb hown (hts (.constant RX5 30 (65535)) (by decide +kernel)) dX5_mask_13 ?_
    exact jn _
  · refine lv_sipush (v := 255) hx hb dX5_mask_7 (by decide) ?_
    refine lv_goto (tgt := 15) hx hb dX5_mask_10 (by decide) ?_
    exact jn _
set_option maxHeartbeats 4000000 in
set_option maxRecDepth 100000 in
theorem s_X5_top (l : Launch) (dC : Nat → ClassId) (dI : Nat → Nat → Nat) (sz : Nat) (m0 : Nat) (x_thrown : Int32) (mB : Nat) (mR : Nat) (x_flags : Int32) (mO : Nat) (x_outCount : Int32) (x_steps : Int32) (mN : Nat) (x_nowFlags : Int32) (x_writePlace : Int32) (x_writeSize : Int32) (x_writeValue : Int32) (x_fault : Int32) (x_halt : Int32) (x_isByte : Int32) (x_atRegister : Int32) (x_atPlace : Int32)  : Met l yX5_top wsX5_top ({ frames := 0, cells := 0, slots := 0, locals := 0 }) (va_Pc [.ref m0] (q_pre dC dI sz [(m0, .inr (5, [.int x_thrown, .ref mB, .ref mR, .int x_flags, .ref mO, .int x_outCount, .int x_steps, .ref mN, .int x_nowFlags, .int x_writePlace, .int x_writeSize, .int x_writeValue, .int x_fault, .int x_halt, .int x_isByte, .int x_atRegister, .int x_atPlace]))] [])) (va_Qi (fun (r : Int32) (u9 : Unit) => True) (q_at dC dI (va_A [(m0, .inr (5, [.int x_thrown, .ref mB, .ref mR, .int x_flags, .ref mO, .int x_outCount, .int x_steps, .ref mN, .int x_nowFlags, .int x_writePlace, .int x_writeSize, .int x_writeValue, .int x_fault, .int x_halt, .int x_isByte, .int x_atRegister, .int x_atPlace]))] sz) (fun (u9 : Unit) => []) (fun (u9 : Unit) => [(m0, .inr (5, [.int x_thrown, .ref mB, .ref mR, .int x_flags, .ref mO, .int x_outCount, .int x_steps, .ref mN, .int x_nowFlags, .int x_writePlace, .int x_writeSize, .int x_writeValue, .int x_fault, .int x_halt, .int x_isByte, .int x_atRegister, .int x_atPlace]))])) (va_A [(m0, .inr (5, [.int x_thrown, .ref mB, .ref mR, .int x_flags, .ref mO, .int x_outCount, .int x_steps, .ref mN, .int x_nowFlags, .int x_writePlace, .int x_writeSize, .int x_writeValue, .int x_fault, .int x_halt, .int x_isByte, .int x_atRegister, .int x_atPlace]))] sz)) 0 0 (va_A [(m0, .inr (5, [.int x_thrown, .ref mB, .ref mR, .int x_flags, .ref mO, .int x_outCount, .int x_steps, .ref mN, .int x_nowFlags, .int x_writePlace, .int x_writeSize, .int x_writeValue, .int x_fault, .int x_halt, .int x_isByte, .int x_atRegister, .int x_atPlace]))] sz) := by
  refine Met.ofW (cc := cX5_top) (maxL := 1) (ret := (some .int)) (by decide) rfl ?_
  intro p e s m args below meth c s₁ B hml hv
  obtain ⟨rfl, hsz, hP, hK, hD0, hN⟩ := hv
  have hx := B.exec
  have hb := B.bytes
  have hr := B.returns
  have hts := atoms_spec (ws := wsX5_top) B.pre
  have hown : s.vm.findClass RX5 = some m.cls := findClass_of_methodNamed B.named
  have hlocks := B.notSynchronized
  subst hsz
  have hD := hD0.self (sz := s.heap.size)
  generalize hAe : va_A [(m0, .inr (5, [.int x_thrown, .ref mB, .ref mR, .int x_flags, .ref mO, .int x_outCount, .int x_steps, .ref mN, .int x_nowFlags, .int x_writePlace, .int x_writeSize, .int x_writeValue, .int x_fault, .int x_halt, .int x_isByte, .int x_atRegister, .int x_atPlace]))] s.heap.size = A at hD ⊢
  have hA : ∀ q : Nat, s.heap.size ≤ q → A q := fun q h => by rw [← hAe]; exact Or.inr h
  have hS : va_S A s.heap s.heap [] := va_S.rf
  have hP : va_P (dC, dI) vwCl [(m0, .inr (5, [.int x_thrown, .ref mB, .ref mR, .int x_flags, .ref mO, .int x_outCount, .int x_steps, .ref mN, .int x_nowFlags, .int x_writePlace, .int x_writeSize, .int x_writeValue, .int x_fault, .int x_halt, .int x_isByte, .int x_atRegister, .int x_atPlace]))] s.heap := hP
  have hl := lv_entry ([.ref m0]) (n := 1) (Nat.le_of_ble_eq_true rfl)
  rw [lg_entry_eq]
  generalize (lg_sl ([.ref m0]) ++ List.replicate (1 - (lg_sl ([.ref m0])).length) Slot.unset).toArray = ls at hl ⊢
  have hl : lv_has ls 1 [(0, .ref m0)] := hl
  refine lv_aload_n hx hb dX5_top_0 rfl (lv_at hl 0 rfl) ?_
  refine va_get (D := (dC, dI)) (ci := 5) (v := .int x_isByte) (C := RX5) (T := TX5) (N := 17) hx hb hts (by decide +kernel) hown hK hP 0 rfl rfl 14 (by decide) (hts (.fieldLink RX5 59 "WordGuestModel" "isByte" "Z") (by decide +kernel)) (fun _ h9 => h9) rfl dX5_top_1 ?_
  refine q_any (ls := ls) 15 [] (fun b_2 => ?_) (fun jn => ?_)
  · have hP9 := hP.sub (ws' := [(m0, .inr (5, [.int x_thrown, .ref mB, .ref mR, .int x_flags, .ref mO, .int x_outCount, .int x_steps, .ref mN, .int x_nowFlags, .int x_writePlace, .int x_writeSize, .int x_writeValue, .int x_fault, .int x_halt, .int x_isByte, .int x_atRegister, .int x_atPlace]))]) [0] rfl
    have hD9 := hD.sub (ws' := [(m0, .inr (5, [.int x_thrown, .ref mB, .ref mR, .int x_flags, .ref mO, .int x_outCount, .int x_steps, .ref mN, .int x_nowFlags, .int x_writePlace, .int x_writeSize, .int x_writeValue, .int x_fault, .int x_halt, .int x_isByte, .int x_atRegister, .int x_atPlace]))]) [0] (by decide) rfl
    have hK9 := hK.sub (tys' := []) [] rfl
    exact W.iret (v := b_2) hx hb hr (fun t ht hW => ⟨⟨b_2, (), rfl, trivial, by rw [ht]; exact hP9, va_K.moved hW.alike hK9, hD9⟩, hS.F ht⟩) hS.2.2 dX5_top_15
  refine lv_if_eq (tgt := 13) hx hb dX5_top_4 (by decide) (fun c_1 => ?_) (fun c_1 => ?_)
  · refine lv_ldc (v := 32768) hx hb hown (hts (.constant RX5 86 (32768)) (by decide +kernel)) dX5_top_13 ?_
    exact jn _
  · refine lv_sipush (v := 128) hx hb dX5_top_7 (by decide) ?_
    refine lv_goto (tgt := 15) hx hb dX5_top_10 (by decide) ?_
    exact jn _
set_option maxHeartbeats 4000000 in
set_option maxRecDepth 100000 in
theorem s_X5_negative (l : Launch) (dC : Nat → ClassId) (dI : Nat → Nat → Nat) (sz : Nat) (m0 : Nat) (v : Int32) (x_thrown : Int32) (mB : Nat) (mR : Nat) (x_flags : Int32) (mO : Nat) (x_outCount : Int32) (x_steps : Int32) (mN : Nat) (x_nowFlags : Int32) (x_writePlace : Int32) (x_writeSize : Int32) (x_writeValue : Int32) (x_fault : Int32) (x_halt : Int32) (x_isByte : Int32) (x_atRegister : Int32) (x_atPlace : Int32)  : Met l yX5_negative wsX5_negative ({ frames := 1, cells := 0, slots := 0, locals := 20 }) (va_Pc [.ref m0, .int v] (q_pre dC dI sz [(m0, .inr (5, [.int x_thrown, .ref mB, .ref mR, .int x_flags, .ref mO, .int x_outCount, .int x_steps, .ref mN, .int x_nowFlags, .int x_writePlace, .int x_writeSize, .int x_writeValue, .int x_fault, .int x_halt, .int x_isByte, .int x_atRegister, .int x_atPlace]))] [])) (va_Qi (fun (r : Int32) (u9 : Unit) => r = 0 ∨ r = 1) (q_at dC dI (va_A [(m0, .inr (5, [.int x_thrown, .ref mB, .ref mR, .int x_flags, .ref mO, .int x_outCount, .int x_steps, .ref mN, .int x_nowFlags, .int x_writePlace, .int x_writeSize, .int x_writeValue, .int x_fault, .int x_halt, .int x_isByte, .int x_atRegister, .int x_atPlace]))] sz) (fun (u9 : Unit) => []) (fun (u9 : Unit) => [(m0, .inr (5, [.int x_thrown, .ref mB, .ref mR, .int x_flags, .ref mO, .int x_outCount, .int x_steps, .ref mN, .int x_nowFlags, .int x_writePlace, .int x_writeSize, .int x_writeValue, .int x_fault, .int x_halt, .int x_isByte, .int x_atRegister, .int x_atPlace]))])) (va_A [(m0, .inr (5, [.int x_thrown, .ref mB, .ref mR, .int x_flags, .ref mO, .int x_outCount, .int x_steps, .ref mN, .int x_nowFlags, .int x_writePlace, .int x_writeSize, .int x_writeValue, .int x_fault, .int x_halt, .int x_isByte, .int x_atRegister, .int x_atPlace]))] sz)) 0 0 (va_A [(m0, .inr (5, [.int x_thrown, .ref mB, .ref mR, .int x_flags, .ref mO, .int x_outCount, .int x_steps, .ref mN, .int x_nowFlags, .int x_writePlace, .int x_writeSize, .int x_writeValue, .int x_fault, .int x_halt, .int x_isByte, .int x_atRegister, .int x_atPlace]))] sz) := by
  refine Met.ofW (cc := cX5_negative) (maxL := 2) (ret := (some .boolean)) (by decide) rfl ?_
  intro p e s m args below meth c s₁ B hml hv
  obtain ⟨rfl, hsz, hP, hK, hD0, hN⟩ := hv
  have hx := B.exec
  have hb := B.bytes
  have hr := B.returns
  have hts := atoms_spec (ws := wsX5_negative) B.pre
  have hown : s.vm.findClass RX5 = some m.cls := findClass_of_methodNamed B.named
  have hlocks := B.notSynchronized
  subst hsz
  have hD := hD0.self (sz := s.heap.size)
  generalize hAe : va_A [(m0, .inr (5, [.int x_thrown, .ref mB, .ref mR, .int x_flags, .ref mO, .int x_outCount, .int x_steps, .ref mN, .int x_nowFlags, .int x_writePlace, .int x_writeSize, .int x_writeValue, .int x_fault, .int x_halt, .int x_isByte, .int x_atRegister, .int x_atPlace]))] s.heap.size = A at hD ⊢
  have hA : ∀ q : Nat, s.heap.size ≤ q → A q := fun q h => by rw [← hAe]; exact Or.inr h
  have hS : va_S A s.heap s.heap [] := va_S.rf
  have hP : va_P (dC, dI) vwCl [(m0, .inr (5, [.int x_thrown, .ref mB, .ref mR, .int x_flags, .ref mO, .int x_outCount, .int x_steps, .ref mN, .int x_nowFlags, .int x_writePlace, .int x_writeSize, .int x_writeValue, .int x_fault, .int x_halt, .int x_isByte, .int x_atRegister, .int x_atPlace]))] s.heap := hP
  have hl := lv_entry ([.ref m0, .int v]) (n := 2) (Nat.le_of_ble_eq_true rfl)
  rw [lg_entry_eq]
  generalize (lg_sl ([.ref m0, .int v]) ++ List.replicate (2 - (lg_sl ([.ref m0, .int v])).length) Slot.unset).toArray = ls at hl ⊢
  have hl : lv_has ls 2 [(0, .ref m0), (1, .int v)] := hl
  refine lv_iload_n hx hb dX5_negative_0 rfl (lv_at hl 1 rfl) ?_
  refine lv_aload_n hx hb dX5_negative_1 rfl (lv_at hl 0 rfl) ?_
  have hPc := hP.sub (ws' := [(m0, .inr (5, [.int x_thrown, .ref mB, .ref mR, .int x_flags, .ref mO, .int x_outCount, .int x_steps, .ref mN, .int x_nowFlags, .int x_writePlace, .int x_writeSize, .int x_writeValue, .int x_fault, .int x_halt, .int x_isByte, .int x_atRegister, .int x_atPlace]))]) [0] rfl
  have hDc := hD.sub (ws' := [(m0, .inr (5, [.int x_thrown, .ref mB, .ref mR, .int x_flags, .ref mO, .int x_outCount, .int x_steps, .ref mN, .int x_nowFlags, .int x_writePlace, .int x_writeSize, .int x_writeValue, .int x_fault, .int x_halt, .int x_isByte, .int x_atRegister, .int x_atPlace]))]) [0] (by decide) rfl
  have hKc := hK.sub (tys' := []) [] rfl
  have hFc := va_free (wc := [(m0, .inr (5, [.int x_thrown, .ref mB, .ref mR, .int x_flags, .ref mO, .int x_outCount, .int x_steps, .ref mN, .int x_nowFlags, .int x_writePlace, .int x_writeSize, .int x_writeValue, .int x_fault, .int x_halt, .int x_isByte, .int x_atRegister, .int x_atPlace]))]) hD hS hA [0] rfl
  refine va_calli (va_runV (C := RX5) (b := m0) (As := []) (rest := [.int v]) ⟨hx, hb, hml, hown, hts⟩ (s_X5_top l dC dI s.heap.size m0 x_thrown mB mR x_flags mO x_outCount x_steps mN x_nowFlags x_writePlace x_writeSize x_writeValue x_fault x_halt x_isByte x_atRegister x_atPlace) (cwV 0 hts gX5_negative_X5_top rfl rfl rfl (by decide +kernel) ⟨Nat.le_of_ble_eq_true rfl, Nat.le_of_ble_eq_true rfl⟩) ⟨q_blind, va_recv hK hP (ci := 5) (q0 := 0) rfl rfl, fun U hU hW => ⟨rfl, q_pay hU hW hPc hKc hDc hN⟩⟩ rfl rfl hl.1 rfl (lv_room (Nat.le_of_ble_eq_true rfl)) dX5_negative_2 ⟨show 0 + 0 ≤ 0 from by omega, show 0 + 0 ≤ 0 from by omega⟩) hS (fun q _ h => hFc q h) hFc (fun r_1 u9 t H locs ht hvm hw_2 hB hz1 hk1 hS => ?_)
  obtain ⟨hP1, hK1, hD1⟩ := hB
  rw [ht] at hP1
  obtain ⟨hP, hD⟩ := va_join (wr := []) (w1 := [(m0, .inr (5, [.int x_thrown, .ref mB, .ref mR, .int x_flags, .ref mO, .int x_outCount, .int x_steps, .ref mN, .int x_nowFlags, .int x_writePlace, .int x_writeSize, .int x_writeValue, .int x_fault, .int x_halt, .int x_isByte, .int x_atRegister, .int x_atPlace]))]) hP hD [0] [] rfl rfl (by decide) (by decide) hk1 hFc hP1 hD1
  have hP : va_P (dC, dI) vwCl [(m0, .inr (5, [.int x_thrown, .ref mB, .ref mR, .int x_flags, .ref mO, .int x_outCount, .int x_steps, .ref mN, .int x_nowFlags, .int x_writePlace, .int x_writeSize, .int x_writeValue, .int x_fault, .int x_halt, .int x_isByte, .int x_atRegister, .int x_atPlace]))] H := hP
  have hD : va_D A [(m0, .inr (5, [.int x_thrown, .ref mB, .ref mR, .int x_flags, .ref mO, .int x_outCount, .int x_steps, .ref mN, .int x_nowFlags, .int x_writePlace, .int x_writeSize, .int x_writeValue, .int x_fault, .int x_halt, .int x_isByte, .int x_atRegister, .int x_atPlace]))] := hD
  refine W.widen (k := 0) (n := 0) (by omega) (by omega) ?_
  try dsimp only at hw_2
  refine lv_iand hx hb dX5_negative_5 ?_
  refine q_bool (ls := ls) 14 [] (fun b_4 hb_5 => ?_) (fun jn => ?_)
  · have hP9 := hP.sub (ws' := [(m0, .inr (5, [.int x_thrown, .ref mB, .ref mR, .int x_flags, .ref mO, .int x_outCount, .int x_steps, .ref mN, .int x_nowFlags, .int x_writePlace, .int x_writeSize, .int x_writeValue, .int x_fault, .int x_halt, .int x_isByte, .int x_atRegister, .int x_atPlace]))]) [0] rfl
    have hD9 := hD.sub (ws' := [(m0, .inr (5, [.int x_thrown, .ref mB, .ref mR, .int x_flags, .ref mO, .int x_outCount, .int x_steps, .ref mN, .int x_nowFlags, .int x_writePlace, .int x_writeSize, .int x_writeValue, .int x_fault, .int x_halt, .int x_isByte, .int x_atRegister, .int x_atPlace]))]) [0] (by decide) rfl
    have hK9 := hK.sub (tys' := []) [] rfl
    exact W.zret (v := b_4) (ty := .boolean) hx hb hr (q_nz hb_5) (fun t ht hW => ⟨⟨b_4, (), rfl, hb_5, by rw [ht]; exact hP9, va_K.moved hW.alike hK9, hD9⟩, hS.F ht⟩) hS.2.2 dX5_negative_14
  refine lv_if_eq (tgt := 13) hx hb dX5_negative_6 (by decide) (fun c_3 => ?_) (fun c_3 => ?_)
  · refine lv_iconst (v := 0) hx hb dX5_negative_13 (by decide) ?_
    exact jn _ (Or.inl rfl)
  · refine lv_iconst (v := 1) hx hb dX5_negative_9 (by decide) ?_
    refine lv_goto (tgt := 14) hx hb dX5_negative_10 (by decide) ?_
    exact jn _ (Or.inr rfl)
set_option maxHeartbeats 4000000 in
set_option maxRecDepth 100000 in
theorem s_X5_has (l : Launch) (dC : Nat → ClassId) (dI : Nat → Nat → Nat) (sz : Nat) (m0 : Nat) (v : Int32) (x_thrown : Int32) (mB : Nat) (mR : Nat) (x_flags : Int32) (mO : Nat) (x_outCount : Int32) (x_steps : Int32) (mN : Nat) (x_nowFlags : Int32) (x_writePlace : Int32) (x_writeSize : Int32) (x_writeValue : Int32) (x_fault : Int32) (x_halt : Int32) (x_isByte : Int32) (x_atRegister : Int32) (x_atPlace : Int32)  : Met l yX5_has wsX5_has ({ frames := 0, cells := 0, slots := 0, locals := 0 }) (va_Pc [.ref m0, .int v] (q_pre dC dI sz [(m0, .inr (5, [.int x_thrown, .ref mB, .ref mR, .int x_flags, .ref mO, .int x_outCount, .int x_steps, .ref mN, .int x_nowFlags, .int x_writePlace, .int x_writeSize, .int x_writeValue, .int x_fault, .int x_halt, .int x_isByte, .int x_atRegister, .int x_atPlace]))] [])) (va_Qi (fun (r : Int32) (u9 : Unit) => r = 0 ∨ r = 1) (q_at dC dI (va_A [(m0, .inr (5, [.int x_thrown, .ref mB, .ref mR, .int x_flags, .ref mO, .int x_outCount, .int x_steps, .ref mN, .int x_nowFlags, .int x_writePlace, .int x_writeSize, .int x_writeValue, .int x_fault, .int x_halt, .int x_isByte, .int x_atRegister, .int x_atPlace]))] sz) (fun (u9 : Unit) => []) (fun (u9 : Unit) => [(m0, .inr (5, [.int x_thrown, .ref mB, .ref mR, .int x_flags, .ref mO, .int x_outCount, .int x_steps, .ref mN, .int x_nowFlags, .int x_writePlace, .int x_writeSize, .int x_writeValue, .int x_fault, .int x_halt, .int x_isByte, .int x_atRegister, .int x_atPlace]))])) (va_A [(m0, .inr (5, [.int x_thrown, .ref mB, .ref mR, .int x_flags, .ref mO, .int x_outCount, .int x_steps, .ref mN, .int x_nowFlags, .int x_writePlace, .int x_writeSize, .int x_writeValue, .int x_fault, .int x_halt, .int x_isByte, .int x_atRegister, .int x_atPlace]))] sz)) 0 0 (va_A [(m0, .inr (5, [.int x_thrown, .ref mB, .ref mR, .int x_flags, .ref mO, .int x_outCount, .int x_steps, .ref mN, .int x_nowFlags, .int x_writePlace, .int x_writeSize, .int x_writeValue, .int x_fault, .int x_halt, .int x_isByte, .int x_atRegister, .int x_atPlace]))] sz) := by
  refine Met.ofW (cc := cX5_has) (maxL := 2) (ret := (some .boolean)) (by decide) rfl ?_
  intro p e s m args below meth c s₁ B hml hv
  obtain ⟨rfl, hsz, hP, hK, hD0, hN⟩ := hv
  have hx := B.exec
  have hb := B.bytes
  have hr := B.returns
  have hts := atoms_spec (ws := wsX5_has) B.pre
  have hown : s.vm.findClass RX5 = some m.cls := findClass_of_methodNamed B.named
  have hlocks := B.notSynchronized
  subst hsz
  have hD := hD0.self (sz := s.heap.size)
  generalize hAe : va_A [(m0, .inr (5, [.int x_thrown, .ref mB, .ref mR, .int x_flags, .ref mO, .int x_outCount, .int x_steps, .ref mN, .int x_nowFlags, .int x_writePlace, .int x_writeSize, .int x_writeValue, .int x_fault, .int x_halt, .int x_isByte, .int x_atRegister, .int x_atPlace]))] s.heap.size = A at hD ⊢
  have hA : ∀ q : Nat, s.heap.size ≤ q → A q := fun q h => by rw [← hAe]; exact Or.inr h
  have hS : va_S A s.heap s.heap [] := va_S.rf
  have hP : va_P (dC, dI) vwCl [(m0, .inr (5, [.int x_thrown, .ref mB, .ref mR, .int x_flags, .ref mO, .int x_outCount, .int x_steps, .ref mN, .int x_nowFlags, .int x_writePlace, .int x_writeSize, .int x_writeValue, .int x_fault, .int x_halt, .int x_isByte, .int x_atRegister, .int x_atPlace]))] s.heap := hP
  have hl := lv_entry ([.ref m0, .int v]) (n := 2) (Nat.le_of_ble_eq_true rfl)
  rw [lg_entry_eq]
  generalize (lg_sl ([.ref m0, .int v]) ++ List.replicate (2 - (lg_sl ([.ref m0, .int v])).length) Slot.unset).toArray = ls at hl ⊢
  have hl : lv_has ls 2 [(0, .ref m0), (1, .int v)] := hl
  refine lv_aload_n hx hb dX5_has_0 rfl (lv_at hl 0 rfl) ?_
  refine va_get (D := (dC, dI)) (ci := 5) (v := .int x_nowFlags) (C := RX5) (T := TX5) (N := 17) hx hb hts (by decide +kernel) hown hK hP 0 rfl rfl 8 (by decide) (hts (.fieldLink RX5 90 "WordGuestModel" "nowFlags" "I") (by decide +kernel)) (fun _ h9 => h9) rfl dX5_has_1 ?_
  refine lv_iload_n hx hb dX5_has_4 rfl (lv_at hl 1 rfl) ?_
  refine lv_iand hx hb dX5_has_5 ?_
  refine q_bool (ls := ls) 14 [] (fun b_2 hb_3 => ?_) (fun jn => ?_)
  · have hP9 := hP.sub (ws' := [(m0, .inr (5, [.int x_thrown, .ref mB, .ref mR, .int x_flags, .ref mO, .int x_outCount, .int x_steps, .ref mN, .int x_nowFlags, .int x_writePlace, .int x_writeSize, .int x_writeValue, .int x_fault, .int x_halt, .int x_isByte, .int x_atRegister, .int x_atPlace]))]) [0] rfl
    have hD9 := hD.sub (ws' := [(m0, .inr (5, [.int x_thrown, .ref mB, .ref mR, .int x_flags, .ref mO, .int x_outCount, .int x_steps, .ref mN, .int x_nowFlags, .int x_writePlace, .int x_writeSize, .int x_writeValue, .int x_fault, .int x_halt, .int x_isByte, .int x_atRegister, .int x_atPlace]))]) [0] (by decide) rfl
    have hK9 := hK.sub (tys' := []) [] rfl
    exact W.zret (v := b_2) (ty := .boolean) hx hb hr (q_nz hb_3) (fun t ht hW => ⟨⟨b_2, (), rfl, hb_3, by rw [ht]; exact hP9, va_K.moved hW.alike hK9, hD9⟩, hS.F ht⟩) hS.2.2 dX5_has_14
  refine lv_if_eq (tgt := 13) hx hb dX5_has_6 (by decide) (fun c_1 => ?_) (fun c_1 => ?_)
  · refine lv_iconst (v := 0) hx hb dX5_has_13 (by decide) ?_
    exact jn _ (Or.inl rfl)
  · refine lv_iconst (v := 1) hx hb dX5_has_9 (by decide) ?_
    refine lv_goto (tgt := 14) hx hb dX5_has_10 (by decide) ?_
    exact jn _ (Or.inr rfl)
set_option maxHeartbeats 4000000 in
set_option maxRecDepth 100000 in
theorem s_X5_set (l : Launch) (dC : Nat → ClassId) (dI : Nat → Nat → Nat) (sz : Nat) (m0 : Nat) (bn : Int32) (bz : Int32) (bv : Int32) (bc : Int32) (x_thrown : Int32) (mB : Nat) (mR : Nat) (x_flags : Int32) (mO : Nat) (x_outCount : Int32) (x_steps : Int32) (mN : Nat) (x_nowFlags : Int32) (x_writePlace : Int32) (x_writeSize : Int32) (x_writeValue : Int32) (x_fault : Int32) (x_halt : Int32) (x_isByte : Int32) (x_atRegister : Int32) (x_atPlace : Int32)  : Met l yX5_set wsX5_set ({ frames := 0, cells := 0, slots := 0, locals := 0 }) (va_Pc [.ref m0, .int bn, .int bz, .int bv, .int bc] (q_pre dC dI sz [(m0, .inr (5, [.int x_thrown, .ref mB, .ref mR, .int x_flags, .ref mO, .int x_outCount, .int x_steps, .ref mN, .int x_nowFlags, .int x_writePlace, .int x_writeSize, .int x_writeValue, .int x_fault, .int x_halt, .int x_isByte, .int x_atRegister, .int x_atPlace]))] [])) (va_Qv (fun (u9 : Int32) => True) (q_at dC dI (va_A [(m0, .inr (5, [.int x_thrown, .ref mB, .ref mR, .int x_flags, .ref mO, .int x_outCount, .int x_steps, .ref mN, .int x_nowFlags, .int x_writePlace, .int x_writeSize, .int x_writeValue, .int x_fault, .int x_halt, .int x_isByte, .int x_atRegister, .int x_atPlace]))] sz) (fun (u9 : Int32) => []) (fun (u9 : Int32) => [(m0, .inr (5, [.int x_thrown, .ref mB, .ref mR, .int x_flags, .ref mO, .int x_outCount, .int x_steps, .ref mN, .int u9, .int x_writePlace, .int x_writeSize, .int x_writeValue, .int x_fault, .int x_halt, .int x_isByte, .int x_atRegister, .int x_atPlace]))])) (va_A [(m0, .inr (5, [.int x_thrown, .ref mB, .ref mR, .int x_flags, .ref mO, .int x_outCount, .int x_steps, .ref mN, .int x_nowFlags, .int x_writePlace, .int x_writeSize, .int x_writeValue, .int x_fault, .int x_halt, .int x_isByte, .int x_atRegister, .int x_atPlace]))] sz)) 0 0 (va_A [(m0, .inr (5, [.int x_thrown, .ref mB, .ref mR, .int x_flags, .ref mO, .int x_outCount, .int x_steps, .ref mN, .int x_nowFlags, .int x_writePlace, .int x_writeSize, .int x_writeValue, .int x_fault, .int x_halt, .int x_isByte, .int x_atRegister, .int x_atPlace]))] sz) := by
  refine Met.ofW (cc := cX5_set) (maxL := 5) (ret := none) (by decide) rfl ?_
  intro p e s m args below meth c s₁ B hml hv
  obtain ⟨rfl, hsz, hP, hK, hD0, hN⟩ := hv
  have hx := B.exec
  have hb := B.bytes
  have hr := B.returns
  have hts := atoms_spec (ws := wsX5_set) B.pre
  have hown : s.vm.findClass RX5 = some m.cls := findClass_of_methodNamed B.named
  have hlocks := B.notSynchronized
  subst hsz
  have hD := hD0.self (sz := s.heap.size)
  generalize hAe : va_A [(m0, .inr (5, [.int x_thrown, .ref mB, .ref mR, .int x_flags, .ref mO, .int x_outCount, .int x_steps, .ref mN, .int x_nowFlags, .int x_writePlace, .int x_writeSize, .int x_writeValue, .int x_fault, .int x_halt, .int x_isByte, .int x_atRegister, .int x_atPlace]))] s.heap.size = A at hD ⊢
  have hA : ∀ q : Nat, s.heap.size ≤ q → A q := fun q h => by rw [← hAe]; exact Or.inr h
  have hS : va_S A s.heap s.heap [] := va_S.rf
  have hP : va_P (dC, dI) vwCl [(m0, .inr (5, [.int x_thrown, .ref mB, .ref mR, .int x_flags, .ref mO, .int x_outCount, .int x_steps, .ref mN, .int x_nowFlags, .int x_writePlace, .int x_writeSize, .int x_writeValue, .int x_fault, .int x_halt, .int x_isByte, .int x_atRegister, .int x_atPlace]))] s.heap := hP
  have hl := lv_entry ([.ref m0, .int bn, .int bz, .int bv, .int bc]) (n := 5) (Nat.le_of_ble_eq_true rfl)
  rw [lg_entry_eq]
  generalize (lg_sl ([.ref m0, .int bn, .int bz, .int bv, .int bc]) ++ List.replicate (5 - (lg_sl ([.ref m0, .int bn, .int bz, .int bv, .int bc])).length) Slot.unset).toArray = ls at hl ⊢
  have hl : lv_has ls 5 [(0, .ref m0), (1, .int bn), (2, .int bz), (3, .int bv), (4, .int bc)] := hl
  refine lv_aload_n hx hb dX5_set_0 rfl (lv_at hl 0 rfl) ?_
  refine lv_iload_n hx hb dX5_set_1 rfl (lv_at hl 1 rfl) ?_
  refine q_any (ls := ls) 11 [.ref m0] (fun b_2 => ?_) (fun jn => ?_)
  · refine lv_iload_n hx hb dX5_set_11 rfl (lv_at hl 2 rfl) ?_
    refine q_any (ls := ls) 20 [.int b_2, .ref m0] (fun b_5 => ?_) (fun jn => ?_)
    · refine lv_iadd hx hb dX5_set_20 ?_
      refine lv_iload_n hx hb dX5_set_21 rfl (lv_at hl 3 rfl) ?_
      refine q_any (ls := ls) 30 [.int (b_2 + b_5), .ref m0] (fun b_8 => ?_) (fun jn => ?_)
      · refine lv_iadd hx hb dX5_set_30 ?_
        refine lv_iload hx hb dX5_set_31 (lv_at hl 4 rfl) ?_
        refine q_bool (ls := ls) 41 [.int ((b_2 + b_5) + b_8), .ref m0] (fun b_11 hb_12 => ?_) (fun jn => ?_)
        · refine lv_iadd hx hb dX5_set_41 ?_
          refine va_put (D := (dC, dI)) (ci := 5) (v := .int (((b_2 + b_5) + b_8) + b_11)) (ty := .int) (C := RX5) (T := TX5) (N := 17) hx hb hts (by decide +kernel) tyX5 tyX5_ok nmX5 hown hK hP hD hS 0 rfl rfl 8 (by decide) (hts (.fieldLink RX5 90 "WordGuestModel" "nowFlags" "I") (by decide +kernel)) (fun _ h9 => h9) rfl (by decide +kernel) rfl rfl (Nat.le_of_ble_eq_true rfl) dX5_set_42 (fun H locs hP hD hS => ?_)
          have hP : va_P (dC, dI) vwCl [(m0, .inr (5, [.int x_thrown, .ref mB, .ref mR, .int x_flags, .ref mO, .int x_outCount, .int x_steps, .ref mN, .int (((b_2 + b_5) + b_8) + b_11), .int x_writePlace, .int x_writeSize, .int x_writeValue, .int x_fault, .int x_halt, .int x_isByte, .int x_atRegister, .int x_atPlace]))] H := hP
          have hD : va_D A [(m0, .inr (5, [.int x_thrown, .ref mB, .ref mR, .int x_flags, .ref mO, .int x_outCount, .int x_steps, .ref mN, .int (((b_2 + b_5) + b_8) + b_11), .int x_writePlace, .int x_writeSize, .int x_writeValue, .int x_fault, .int x_halt, .int x_isByte, .int x_atRegister, .int x_atPlace]))] := hD
          have hP9 := hP.sub (ws' := [(m0, .inr (5, [.int x_thrown, .ref mB, .ref mR, .int x_flags, .ref mO, .int x_outCount, .int x_steps, .ref mN, .int (((b_2 + b_5) + b_8) + b_11), .int x_writePlace, .int x_writeSize, .int x_writeValue, .int x_fault, .int x_halt, .int x_isByte, .int x_atRegister, .int x_atPlace]))]) [0] rfl
          have hD9 := hD.sub (ws' := [(m0, .inr (5, [.int x_thrown, .ref mB, .ref mR, .int x_flags, .ref mO, .int x_outCount, .int x_steps, .ref mN, .int (((b_2 + b_5) + b_8) + b_11), .int x_writePlace, .int x_writeSize, .int x_writeValue, .int x_fault, .int x_halt, .int x_isByte, .int x_atRegister, .int x_atPlace]))]) [0] (by decide) rfl
          have hK9 := hK.sub (tys' := []) [] rfl
          exact W.vret hx hb hr (fun t ht hW => ⟨⟨((b_2 + b_5) + b_8) + b_11, rfl, trivial, by rw [ht]; exact hP9, va_K.moved hW.alike hK9, hD9⟩, hS.F ht⟩) hS.2.2 dX5_set_45
        refine lv_if_eq (tgt := 40) hx hb dX5_set_33 (by decide) (fun c_10 => ?_) (fun c_10 => ?_)
        · refine lv_iconst (v := 0) hx hb dX5_set_40 (by decide) ?_
          exact jn _ (Or.inl rfl)
        · refine lv_iconst (v := 1) hx hb dX5_set_36 (by decide) ?_
          refine lv_goto (tgt := 41) hx hb dX5_set_37 (by decide) ?_
          exact jn _ (Or.inr rfl)
      refine lv_if_eq (tgt := 29) hx hb dX5_set_22 (by decide) (fun c_7 => ?_) (fun c_7 => ?_)
      · refine lv_iconst (v := 0) hx hb dX5_set_29 (by decide) ?_
        exact jn _
      · refine lv_iconst (v := 2) hx hb dX5_set_25 (by decide) ?_
        refine lv_goto (tgt := 30) hx hb dX5_set_26 (by decide) ?_
        exact jn _
    refine lv_if_eq (tgt := 19) hx hb dX5_set_12 (by decide) (fun c_4 => ?_) (fun c_4 => ?_)
    · refine lv_iconst (v := 0) hx hb dX5_set_19 (by decide) ?_
      exact jn _
    · refine lv_iconst (v := 4) hx hb dX5_set_15 (by decide) ?_
      refine lv_goto (tgt := 20) hx hb dX5_set_16 (by decide) ?_
      exact jn _
  refine lv_if_eq (tgt := 10) hx hb dX5_set_2 (by decide) (fun c_1 => ?_) (fun c_1 => ?_)
  · refine lv_iconst (v := 0) hx hb dX5_set_10 (by decide) ?_
    exact jn _
  · refine lv_bipush (v := 8) hx hb dX5_set_5 (by decide) ?_
    refine lv_goto (tgt := 11) hx hb dX5_set_7 (by decide) ?_
    exact jn _
set_option maxHeartbeats 4000000 in
set_option maxRecDepth 100000 in
theorem s_X5_setBy (l : Launch) (dC : Nat → ClassId) (dI : Nat → Nat → Nat) (sz : Nat) (m0 : Nat) (v : Int32) (bv : Int32) (bc : Int32) (x_thrown : Int32) (mB : Nat) (mR : Nat) (x_flags : Int32) (mO : Nat) (x_outCount : Int32) (x_steps : Int32) (mN : Nat) (x_nowFlags : Int32) (x_writePlace : Int32) (x_writeSize : Int32) (x_writeValue : Int32) (x_fault : Int32) (x_halt : Int32) (x_isByte : Int32) (x_atRegister : Int32) (x_atPlace : Int32)  : Met l yX5_setBy wsX5_setBy ({ frames := 2, cells := 0, slots := 0, locals := 41 }) (va_Pc [.ref m0, .int v, .int bv, .int bc] (q_pre dC dI sz [(m0, .inr (5, [.int x_thrown, .ref mB, .ref mR, .int x_flags, .ref mO, .int x_outCount, .int x_steps, .ref mN, .int x_nowFlags, .int x_writePlace, .int x_writeSize, .int x_writeValue, .int x_fault, .int x_halt, .int x_isByte, .int x_atRegister, .int x_atPlace]))] [])) (va_Qv (fun (u9 : Int32) => True) (q_at dC dI (va_A [(m0, .inr (5, [.int x_thrown, .ref mB, .ref mR, .int x_flags, .ref mO, .int x_outCount, .int x_steps, .ref mN, .int x_nowFlags, .int x_writePlace, .int x_writeSize, .int x_writeValue, .int x_fault, .int x_halt, .int x_isByte, .int x_atRegister, .int x_atPlace]))] sz) (fun (u9 : Int32) => []) (fun (u9 : Int32) => [(m0, .inr (5, [.int x_thrown, .ref mB, .ref mR, .int x_flags, .ref mO, .int x_outCount, .int x_steps, .ref mN, .int u9, .int x_writePlace, .int x_writeSize, .int x_writeValue, .int x_fault, .int x_halt, .int x_isByte, .int x_atRegister, .int x_atPlace]))])) (va_A [(m0, .inr (5, [.int x_thrown, .ref mB, .ref mR, .int x_flags, .ref mO, .int x_outCount, .int x_steps, .ref mN, .int x_nowFlags, .int x_writePlace, .int x_writeSize, .int x_writeValue, .int x_fault, .int x_halt, .int x_isByte, .int x_atRegister, .int x_atPlace]))] sz)) 0 0 (va_A [(m0, .inr (5, [.int x_thrown, .ref mB, .ref mR, .int x_flags, .ref mO, .int x_outCount, .int x_steps, .ref mN, .int x_nowFlags, .int x_writePlace, .int x_writeSize, .int x_writeValue, .int x_fault, .int x_halt, .int x_isByte, .int x_atRegister, .int x_atPlace]))] sz) := by
  refine Met.ofW (cc := cX5_setBy) (maxL := 4) (ret := none) (by decide) rfl ?_
  intro p e s m args below meth c s₁ B hml hv
  obtain ⟨rfl, hsz, hP, hK, hD0, hN⟩ := hv
  have hx := B.exec
  have hb := B.bytes
  have hr := B.returns
  have hts := atoms_spec (ws := wsX5_setBy) B.pre
  have hown : s.vm.findClass RX5 = some m.cls := findClass_of_methodNamed B.named
  have hlocks := B.notSynchronized
  subst hsz
  have hD := hD0.self (sz := s.heap.size)
  generalize hAe : va_A [(m0, .inr (5, [.int x_thrown, .ref mB, .ref mR, .int x_flags, .ref mO, .int x_outCount, .int x_steps, .ref mN, .int x_nowFlags, .int x_writePlace, .int x_writeSize, .int x_writeValue, .int x_fault, .int x_halt, .int x_isByte, .int x_atRegister, .int x_atPlace]))] s.heap.size = A at hD ⊢
  have hA : ∀ q : Nat, s.heap.size ≤ q → A q := fun q h => by rw [← hAe]; exact Or.inr h
  have hS : va_S A s.heap s.heap [] := va_S.rf
  have hP : va_P (dC, dI) vwCl [(m0, .inr (5, [.int x_thrown, .ref mB, .ref mR, .int x_flags, .ref mO, .int x_outCount, .int x_steps, .ref mN, .int x_nowFlags, .int x_writePlace, .int x_writeSize, .int x_writeValue, .int x_fault, .int x_halt, .int x_isByte, .int x_atRegister, .int x_atPlace]))] s.heap := hP
  have hl := lv_entry ([.ref m0, .int v, .int bv, .int bc]) (n := 4) (Nat.le_of_ble_eq_true rfl)
  rw [lg_entry_eq]
  generalize (lg_sl ([.ref m0, .int v, .int bv, .int bc]) ++ List.replicate (4 - (lg_sl ([.ref m0, .int v, .int bv, .int bc])).length) Slot.unset).toArray = ls at hl ⊢
  have hl : lv_has ls 4 [(0, .ref m0), (1, .int v), (2, .int bv), (3, .int bc)] := hl
  refine lv_aload_n hx hb dX5_setBy_0 rfl (lv_at hl 0 rfl) ?_
  refine lv_aload_n hx hb dX5_setBy_1 rfl (lv_at hl 0 rfl) ?_
  refine lv_iload_n hx hb dX5_setBy_2 rfl (lv_at hl 1 rfl) ?_
  have hPc := hP.sub (ws' := [(m0, .inr (5, [.int x_thrown, .ref mB, .ref mR, .int x_flags, .ref mO, .int x_outCount, .int x_steps, .ref mN, .int x_nowFlags, .int x_writePlace, .int x_writeSize, .int x_writeValue, .int x_fault, .int x_halt, .int x_isByte, .int x_atRegister, .int x_atPlace]))]) [0] rfl
  have hDc := hD.sub (ws' := [(m0, .inr (5, [.int x_thrown, .ref mB, .ref mR, .int x_flags, .ref mO, .int x_outCount, .int x_steps, .ref mN, .int x_nowFlags, .int x_writePlace, .int x_writeSize, .int x_writeValue, .int x_fault, .int x_halt, .int x_isByte, .int x_atRegister, .int x_atPlace]))]) [0] (by decide) rfl
  have hKc := hK.sub (tys' := []) [] rfl
  have hFc := va_free (wc := [(m0, .inr (5, [.int x_thrown, .ref mB, .ref mR, .int x_flags, .ref mO, .int x_outCount, .int x_steps, .ref mN, .int x_nowFlags, .int x_writePlace, .int x_writeSize, .int x_writeValue, .int x_fault, .int x_halt, .int x_isByte, .int x_atRegister, .int x_atPlace]))]) hD hS hA [0] rfl
  refine va_calli (va_runV (C := RX5) (b := m0) (As := [.int v]) (rest := [.ref m0]) ⟨hx, hb, hml, hown, hts⟩ (s_X5_negative l dC dI s.heap.size m0 v x_thrown mB mR x_flags mO x_outCount x_steps mN x_nowFlags x_writePlace x_writeSize x_writeValue x_fault x_halt x_isByte x_atRegister x_atPlace) (cwV 1 hts gX5_setBy_X5_negative rfl rfl rfl (by decide +kernel) ⟨Nat.le_of_ble_eq_true rfl, Nat.le_of_ble_eq_true rfl⟩) ⟨q_blind, va_recv hK hP (ci := 5) (q0 := 0) rfl rfl, fun U hU hW => ⟨rfl, q_pay hU hW hPc hKc hDc hN⟩⟩ rfl rfl hl.1 rfl (lv_room (Nat.le_of_ble_eq_true rfl)) dX5_setBy_3 ⟨show 0 + 0 ≤ 0 from by omega, show 0 + 0 ≤ 0 from by omega⟩) hS (fun q _ h => hFc q h) hFc (fun r_1 u9 t H locs ht hvm hw_2 hB hz1 hk1 hS => ?_)
  obtain ⟨hP1, hK1, hD1⟩ := hB
  rw [ht] at hP1
  obtain ⟨hP, hD⟩ := va_join (wr := []) (w1 := [(m0, .inr (5, [.int x_thrown, .ref mB, .ref mR, .int x_flags, .ref mO, .int x_outCount, .int x_steps, .ref mN, .int x_nowFlags, .int x_writePlace, .int x_writeSize, .int x_writeValue, .int x_fault, .int x_halt, .int x_isByte, .int x_atRegister, .int x_atPlace]))]) hP hD [0] [] rfl rfl (by decide) (by decide) hk1 hFc hP1 hD1
  have hP : va_P (dC, dI) vwCl [(m0, .inr (5, [.int x_thrown, .ref mB, .ref mR, .int x_flags, .ref mO, .int x_outCount, .int x_steps, .ref mN, .int x_nowFlags, .int x_writePlace, .int x_writeSize, .int x_writeValue, .int x_fault, .int x_halt, .int x_isByte, .int x_atRegister, .int x_atPlace]))] H := hP
  have hD : va_D A [(m0, .inr (5, [.int x_thrown, .ref mB, .ref mR, .int x_flags, .ref mO, .int x_outCount, .int x_steps, .ref mN, .int x_nowFlags, .int x_writePlace, .int x_writeSize, .int x_writeValue, .int x_fault, .int x_halt, .int x_isByte, .int x_atRegister, .int x_atPlace]))] := hD
  refine W.widen (k := 0) (n := 0) (by omega) (by omega) ?_
  try dsimp only at hw_2
  refine lv_iload_n hx hb dX5_setBy_6 rfl (lv_at hl 1 rfl) ?_
  refine lv_aload_n hx hb dX5_setBy_7 rfl (lv_at hl 0 rfl) ?_
  have hPc := hP.sub (ws' := [(m0, .inr (5, [.int x_thrown, .ref mB, .ref mR, .int x_flags, .ref mO, .int x_outCount, .int x_steps, .ref mN, .int x_nowFlags, .int x_writePlace, .int x_writeSize, .int x_writeValue, .int x_fault, .int x_halt, .int x_isByte, .int x_atRegister, .int x_atPlace]))]) [0] rfl
  have hDc := hD.sub (ws' := [(m0, .inr (5, [.int x_thrown, .ref mB, .ref mR, .int x_flags, .ref mO, .int x_outCount, .int x_steps, .ref mN, .int x_nowFlags, .int x_writePlace, .int x_writeSize, .int x_writeValue, .int x_fault, .int x_halt, .int x_isByte, .int x_atRegister, .int x_atPlace]))]) [0] (by decide) rfl
  have hKc := hK.sub (tys' := []) [] rfl
  have hFc := va_free (wc := [(m0, .inr (5, [.int x_thrown, .ref mB, .ref mR, .int x_flags, .ref mO, .int x_outCount, .int x_steps, .ref mN, .int x_nowFlags, .int x_writePlace, .int x_writeSize, .int x_writeValue, .int x_fault, .int x_halt, .int x_isByte, .int x_atRegister, .int x_atPlace]))]) hD hS hA [0] rfl
  refine va_calli (va_runV (C := RX5) (b := m0) (As := []) (rest := [.int v, .int r_1, .ref m0]) ⟨hx, hb, hml, hown, hts⟩ (s_X5_mask l dC dI H.size m0 x_thrown mB mR x_flags mO x_outCount x_steps mN x_nowFlags x_writePlace x_writeSize x_writeValue x_fault x_halt x_isByte x_atRegister x_atPlace) (cwV 0 hts gX5_setBy_X5_mask rfl rfl rfl (by decide +kernel) ⟨Nat.le_of_ble_eq_true rfl, Nat.le_of_ble_eq_true rfl⟩) ⟨q_blind, va_recv hK hP (ci := 5) (q0 := 0) rfl rfl, fun U hU hW => ⟨rfl, q_pay hU hW hPc hKc hDc hN⟩⟩ rfl rfl hl.1 rfl (lv_room (Nat.le_of_ble_eq_true rfl)) dX5_setBy_8 ⟨show 0 + 0 ≤ 0 from by omega, show 0 + 0 ≤ 0 from by omega⟩) hS (fun q _ h => hFc q h) hFc (fun r_3 u9 t H locs ht hvm hw_4 hB hz1 hk1 hS => ?_)
  obtain ⟨hP1, hK1, hD1⟩ := hB
  rw [ht] at hP1
  obtain ⟨hP, hD⟩ := va_join (wr := []) (w1 := [(m0, .inr (5, [.int x_thrown, .ref mB, .ref mR, .int x_flags, .ref mO, .int x_outCount, .int x_steps, .ref mN, .int x_nowFlags, .int x_writePlace, .int x_writeSize, .int x_writeValue, .int x_fault, .int x_halt, .int x_isByte, .int x_atRegister, .int x_atPlace]))]) hP hD [0] [] rfl rfl (by decide) (by decide) hk1 hFc hP1 hD1
  have hP : va_P (dC, dI) vwCl [(m0, .inr (5, [.int x_thrown, .ref mB, .ref mR, .int x_flags, .ref mO, .int x_outCount, .int x_steps, .ref mN, .int x_nowFlags, .int x_writePlace, .int x_writeSize, .int x_writeValue, .int x_fault, .int x_halt, .int x_isByte, .int x_atRegister, .int x_atPlace]))] H := hP
  have hD : va_D A [(m0, .inr (5, [.int x_thrown, .ref mB, .ref mR, .int x_flags, .ref mO, .int x_outCount, .int x_steps, .ref mN, .int x_nowFlags, .int x_writePlace, .int x_writeSize, .int x_writeValue, .int x_fault, .int x_halt, .int x_isByte, .int x_atRegister, .int x_atPlace]))] := hD
  refine W.widen (k := 0) (n := 0) (by omega) (by omega) ?_
  try dsimp only at hw_4
  refine lv_iand hx hb dX5_setBy_11 ?_
  refine q_bool (ls := ls) 20 [.int r_1, .ref m0] (fun b_6 hb_7 => ?_) (fun jn => ?_)
  · refine lv_iload_n hx hb dX5_setBy_20 rfl (lv_at hl 2 rfl) ?_
    refine lv_iload_n hx hb dX5_setBy_21 rfl (lv_at hl 3 rfl) ?_
    have hPc := hP.sub (ws' := [(m0, .inr (5, [.int x_thrown, .ref mB, .ref mR, .int x_flags, .ref mO, .int x_outCount, .int x_steps, .ref mN, .int x_nowFlags, .int x_writePlace, .int x_writeSize, .int x_writeValue, .int x_fault, .int x_halt, .int x_isByte, .int x_atRegister, .int x_atPlace]))]) [0] rfl
    have hDc := hD.sub (ws' := [(m0, .inr (5, [.int x_thrown, .ref mB, .ref mR, .int x_flags, .ref mO, .int x_outCount, .int x_steps, .ref mN, .int x_nowFlags, .int x_writePlace, .int x_writeSize, .int x_writeValue, .int x_fault, .int x_halt, .int x_isByte, .int x_atRegister, .int x_atPlace]))]) [0] (by decide) rfl
    have hKc := hK.sub (tys' := []) [] rfl
    have hFc := va_free (wc := [(m0, .inr (5, [.int x_thrown, .ref mB, .ref mR, .int x_flags, .ref mO, .int x_outCount, .int x_steps, .ref mN, .int x_nowFlags, .int x_writePlace, .int x_writeSize, .int x_writeValue, .int x_fault, .int x_halt, .int x_isByte, .int x_atRegister, .int x_atPlace]))]) hD hS hA [0] rfl
    refine va_callv (va_runV (C := RX5) (b := m0) (As := [.int r_1, .int b_6, .int bv, .int bc]) (rest := []) ⟨hx, hb, hml, hown, hts⟩ (s_X5_set l dC dI H.size m0 r_1 b_6 bv bc x_thrown mB mR x_flags mO x_outCount x_steps mN x_nowFlags x_writePlace x_writeSize x_writeValue x_fault x_halt x_isByte x_atRegister x_atPlace) (cwV 4 hts gX5_setBy_X5_set rfl rfl rfl (by decide +kernel) ⟨Nat.le_of_ble_eq_true rfl, Nat.le_of_ble_eq_true rfl⟩) ⟨q_blind, va_recv hK hP (ci := 5) (q0 := 0) rfl rfl, fun U hU hW => ⟨rfl, q_pay hU hW hPc hKc hDc hN⟩⟩ rfl rfl hl.1 rfl (lv_room (Nat.le_of_ble_eq_true rfl)) dX5_setBy_22 ⟨show 0 + 0 ≤ 0 from by omega, show 0 + 0 ≤ 0 from by omega⟩) hS (fun q _ h => hFc q h) hFc (fun u9 t H locs ht hvm hw_9 hB hz1 hk1 hS => ?_)
    obtain ⟨y_nowFlags_10, rfl⟩ : ∃ z, z = u9 := ⟨_, rfl⟩
    obtain ⟨hP1, hK1, hD1⟩ := hB
    rw [ht] at hP1
    obtain ⟨hP, hD⟩ := va_join (wr := []) (w1 := [(m0, .inr (5, [.int x_thrown, .ref mB, .ref mR, .int x_flags, .ref mO, .int x_outCount, .int x_steps, .ref mN, .int y_nowFlags_10, .int x_writePlace, .int x_writeSize, .int x_writeValue, .int x_fault, .int x_halt, .int x_isByte, .int x_atRegister, .int x_atPlace]))]) hP hD [0] [] rfl rfl (by decide) (by decide) hk1 hFc hP1 hD1
    have hP : va_P (dC, dI) vwCl [(m0, .inr (5, [.int x_thrown, .ref mB, .ref mR, .int x_flags, .ref mO, .int x_outCount, .int x_steps, .ref mN, .int y_nowFlags_10, .int x_writePlace, .int x_writeSize, .int x_writeValue, .int x_fault, .int x_halt, .int x_isByte, .int x_atRegister, .int x_atPlace]))] H := hP
    have hD : va_D A [(m0, .inr (5, [.int x_thrown, .ref mB, .ref mR, .int x_flags, .ref mO, .int x_outCount, .int x_steps, .ref mN, .int y_nowFlags_10, .int x_writePlace, .int x_writeSize, .int x_writeValue, .int x_fault, .int x_halt, .int x_isByte, .int x_atRegister, .int x_atPlace]))] := hD
    refine W.widen (k := 0) (n := 0) (by omega) (by omega) ?_
    try dsimp only at hw_9
    have hP9 := hP.sub (ws' := [(m0, .inr (5, [.int x_thrown, .ref mB, .ref mR, .int x_flags, .ref mO, .int x_outCount, .int x_steps, .ref mN, .int y_nowFlags_10, .int x_writePlace, .int x_writeSize, .int x_writeValue, .int x_fault, .int x_halt, .int x_isByte, .int x_atRegister, .int x_atPlace]))]) [0] rfl
    have hD9 := hD.sub (ws' := [(m0, .inr (5, [.int x_thrown, .ref mB, .ref mR, .int x_flags, .ref mO, .int x_outCount, .int x_steps, .ref mN, .int y_nowFlags_10, .int x_writePlace, .int x_writeSize, .int x_writeValue, .int x_fault, .int x_halt, .int x_isByte, .int x_atRegister, .int x_atPlace]))]) [0] (by decide) rfl
    have hK9 := hK.sub (tys' := []) [] rfl
    exact W.vret hx hb hr (fun t ht hW => ⟨⟨y_nowFlags_10, rfl, trivial, by rw [ht]; exact hP9, va_K.moved hW.alike hK9, hD9⟩, hS.F ht⟩) hS.2.2 dX5_setBy_25
  refine lv_if_ne (tgt := 19) hx hb dX5_setBy_12 (by decide) (fun c_5 => ?_) (fun c_5 => ?_)
  · refine lv_iconst (v := 0) hx hb dX5_setBy_19 (by decide) ?_
    exact jn _ (Or.inl rfl)
  · refine lv_iconst (v := 1) hx hb dX5_setBy_15 (by decide) ?_
    refine lv_goto (tgt := 20) hx hb dX5_setBy_16 (by decide) ?_
    exact jn _ (Or.inr rfl)
set_option maxHeartbeats 4000000 in
set_option maxRecDepth 100000 in
theorem s_X5_signed (l : Launch) (dC : Nat → ClassId) (dI : Nat → Nat → Nat) (sz : Nat) (v : Int32)  : Met l yX5_signed wsX5_signed ({ frames := 0, cells := 0, slots := 0, locals := 0 }) (va_Pc [.int v] (q_pre dC dI sz [] [])) (va_Qi (fun (r : Int32) (u9 : Unit) => True) (q_at dC dI (va_A [] sz) (fun (u9 : Unit) => []) (fun (u9 : Unit) => [])) (va_A [] sz)) 0 0 (va_A [] sz) := by
  refine Met.ofW (cc := cX5_signed) (maxL := 1) (ret := (some .int)) (by decide) rfl ?_
  intro p e s m args below meth c s₁ B hml hv
  obtain ⟨rfl, hsz, hP, hK, hD0, hN⟩ := hv
  have hx := B.exec
  have hb := B.bytes
  have hr := B.returns
  have hts := atoms_spec (ws := wsX5_signed) B.pre
  have hown : s.vm.findClass RX5 = some m.cls := findClass_of_methodNamed B.named
  have hlocks := B.notSynchronized
  subst hsz
  have hD := hD0.self (sz := s.heap.size)
  generalize hAe : va_A [] s.heap.size = A at hD ⊢
  have hA : ∀ q : Nat, s.heap.size ≤ q → A q := fun q h => by rw [← hAe]; exact Or.inr h
  have hS : va_S A s.heap s.heap [] := va_S.rf
  have hP : va_P (dC, dI) vwCl [] s.heap := hP
  have hl := lv_entry ([.int v]) (n := 1) (Nat.le_of_ble_eq_true rfl)
  rw [lg_entry_eq]
  generalize (lg_sl ([.int v]) ++ List.replicate (1 - (lg_sl ([.int v])).length) Slot.unset).toArray = ls at hl ⊢
  have hl : lv_has ls 1 [(0, .int v)] := hl
  refine lv_iload_n hx hb dX5_signed_0 rfl (lv_at hl 0 rfl) ?_
  refine lv_sipush (v := 32767) hx hb dX5_signed_1 (by decide) ?_
  refine lv_icmp_le (tgt := 14) hx hb dX5_signed_4 (by decide) (fun c_1 => ?_) (fun c_1 => ?_)
  · refine lv_iload_n hx hb dX5_signed_14 rfl (lv_at hl 0 rfl) ?_
    have hP9 := hP.sub (ws' := []) [] rfl
    have hD9 := hD.sub (ws' := []) [] (by decide) rfl
    have hK9 := hK.sub (tys' := []) [] rfl
    exact W.iret (v := v) hx hb hr (fun t ht hW => ⟨⟨v, (), rfl, trivial, by rw [ht]; exact hP9, va_K.moved hW.alike hK9, hD9⟩, hS.F ht⟩) hS.2.2 dX5_signed_15
  · refine lv_iload_n hx hb dX5_signed_7 rfl (lv_at hl 0 rfl) ?_
    refine lv_ldc (v := 65536) hx hb hown (hts (.constant RX5 119 (65536)) (by decide +kernel)) dX5_signed_8 ?_
    refine lv_isub hx hb dX5_signed_10 ?_
    refine lv_goto (tgt := 15) hx hb dX5_signed_11 (by decide) ?_
    have hP9 := hP.sub (ws' := []) [] rfl
    have hD9 := hD.sub (ws' := []) [] (by decide) rfl
    have hK9 := hK.sub (tys' := []) [] rfl
    exact W.iret (v := v - 65536) hx hb hr (fun t ht hW => ⟨⟨v - 65536, (), rfl, trivial, by rw [ht]; exact hP9, va_K.moved hW.alike hK9, hD9⟩, hS.F ht⟩) hS.2.2 dX5_signed_15
