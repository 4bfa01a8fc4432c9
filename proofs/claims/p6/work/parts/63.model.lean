set_option maxHeartbeats 4000000 in
set_option maxRecDepth 100000 in
theorem s_X5_load (l : Launch) (dC : Nat → ClassId) (dI : Nat → Nat → Nat) (sz : Nat) (m0 : Nat) (pl : Int32) (a0 : Int32) (a1 : Int32) (a2 : Int32) (a3 : Int32) (a4 : Int32) (x_thrown : Int32) (mB : Nat) (mR : Nat) (x_flags : Int32) (mO : Nat) (x_outCount : Int32) (x_steps : Int32) (mN : Nat) (x_nowFlags : Int32) (x_writePlace : Int32) (x_writeSize : Int32) (x_writeValue : Int32) (x_fault : Int32) (x_halt : Int32) (x_isByte : Int32) (x_atRegister : Int32) (x_atPlace : Int32) (cY : ClassId) (bf : Nat → Int32) (hB : okB bf) : Met l yX5_load wsX5_load ({ frames := 1, cells := 0, slots := 0, locals := 22 }) (va_Pc [.ref m0, .int pl, .int a0, .int a1, .int a2, .int a3, .int a4] (q_pre dC dI sz [(m0, .inr (5, [.int x_thrown, .ref mB, .ref mR, .int x_flags, .ref mO, .int x_outCount, .int x_steps, .ref mN, .int x_nowFlags, .int x_writePlace, .int x_writeSize, .int x_writeValue, .int x_fault, .int x_halt, .int x_isByte, .int x_atRegister, .int x_atPlace])), (mB, .inl (cY, 4096, .inl bf))] [(cY, .int)])) (va_Qi (fun (r : Int32) (u9 : Int32 × (Nat → Int32)) => (¬ iw pl = 0 ∧ u9.1 = 0 ∧ okB u9.2 ∧ r = ((((((((((0 + dn (pl + 0)) + dn (pl + 2)) + dn (pl + 4)) + dn (pl + 6)) + dn (pl + 8)) + dn (pl + 10)) + dn (pl + 12)) + dn (pl + 14)) + dn (pl + 16)) + dn (pl + 18))) ∨ (iw pl = 0 ∧ u9.1 = 1 ∧ okB u9.2 ∧ r = 0)) (q_at dC dI (va_A [(m0, .inr (5, [.int x_thrown, .ref mB, .ref mR, .int x_flags, .ref mO, .int x_outCount, .int x_steps, .ref mN, .int x_nowFlags, .int x_writePlace, .int x_writeSize, .int x_writeValue, .int x_fault, .int x_halt, .int x_isByte, .int x_atRegister, .int x_atPlace])), (mB, .inl (cY, 4096, .inl bf))] sz) (fun (u9 : Int32 × (Nat → Int32)) => [(cY, .int)]) (fun (u9 : Int32 × (Nat → Int32)) => [(m0, .inr (5, [.int u9.1, .ref mB, .ref mR, .int x_flags, .ref mO, .int x_outCount, .int x_steps, .ref mN, .int x_nowFlags, .int x_writePlace, .int x_writeSize, .int x_writeValue, .int x_fault, .int x_halt, .int x_isByte, .int x_atRegister, .int x_atPlace])), (mB, .inl (cY, 4096, .inl u9.2))])) (va_A [(m0, .inr (5, [.int x_thrown, .ref mB, .ref mR, .int x_flags, .ref mO, .int x_outCount, .int x_steps, .ref mN, .int x_nowFlags, .int x_writePlace, .int x_writeSize, .int x_writeValue, .int x_fault, .int x_halt, .int x_isByte, .int x_atRegister, .int x_atPlace])), (mB, .inl (cY, 4096, .inl bf))] sz)) 0 0 (va_A [(m0, .inr (5, [.int x_thrown, .ref mB, .ref mR, .int x_flags, .ref mO, .int x_outCount, .int x_steps, .ref mN, .int x_nowFlags, .int x_writePlace, .int x_writeSize, .int x_writeValue, .int x_fault, .int x_halt, .int x_isByte, .int x_atRegister, .int x_atPlace])), (mB, .inl (cY, 4096, .inl bf))] sz) := by
  refine Met.ofW (cc := cX5_load) (maxL := 10) (ret := (some .int)) (by decide) rfl ?_
  intro p e s m args below meth c s₁ B hml hv
  obtain ⟨rfl, hsz, hP, hK, hD0, hN⟩ := hv
  have hx := B.exec
  have hb := B.bytes
  have hr := B.returns
  have hts := atoms_spec (ws := wsX5_load) B.pre
  have hown : s.vm.findClass RX5 = some m.cls := findClass_of_methodNamed B.named
  have hlocks := B.notSynchronized
  subst hsz
  have hD := hD0.self (sz := s.heap.size)
  generalize hAe : va_A [(m0, .inr (5, [.int x_thrown, .ref mB, .ref mR, .int x_flags, .ref mO, .int x_outCount, .int x_steps, .ref mN, .int x_nowFlags, .int x_writePlace, .int x_writeSize, .int x_writeValue, .int x_fault, .int x_halt, .int x_isByte, .int x_atRegister, .int x_atPlace])), (mB, .inl (cY, 4096, .inl bf))] s.heap.size = A at hD ⊢
  have hA : ∀ q : Nat, s.heap.size ≤ q → A q := fun q h => by rw [← hAe]; exact Or.inr h
  have hS : va_S A s.heap s.heap [] := va_S.rf
  have hP : va_P (dC, dI) vwCl [(m0, .inr (5, [.int x_thrown, .ref mB, .ref mR, .int x_flags, .ref mO, .int x_outCount, .int x_steps, .ref mN, .int x_nowFlags, .int x_writePlace, .int x_writeSize, .int x_writeValue, .int x_fault, .int x_halt, .int x_isByte, .int x_atRegister, .int x_atPlace])), (mB, .inl (cY, 4096, .inl bf))] s.heap := hP
  have hl := lv_entry ([.ref m0, .int pl, .int a0, .int a1, .int a2, .int a3, .int a4]) (n := 10) (Nat.le_of_ble_eq_true rfl)
  rw [lg_entry_eq]
  generalize (lg_sl ([.ref m0, .int pl, .int a0, .int a1, .int a2, .int a3, .int a4]) ++ List.replicate (10 - (lg_sl ([.ref m0, .int pl, .int a0, .int a1, .int a2, .int a3, .int a4])).length) Slot.unset).toArray = ls at hl ⊢
  have hl : lv_has ls 10 [(0, .ref m0), (1, .int pl), (2, .int a0), (3, .int a1), (4, .int a2), (5, .int a3), (6, .int a4)] := hl
  refine lv_aload_n hx hb dX5_load_0 rfl (lv_at hl 0 rfl) ?_
  refine lv_iload_n hx hb dX5_load_1 rfl (lv_at hl 1 rfl) ?_
  have hPc := hP.sub (ws' := []) [] rfl
  have hDc := hD.sub (ws' := []) [] (by decide) rfl
  have hKc := hK.sub (tys' := []) [] rfl
  have hFc := va_free (wc := []) hD hS hA [] rfl
  refine va_calli (va_runS (As := [.int pl]) (rest := [.ref m0]) ⟨hx, hb, hml, hown, hts⟩ (c_X5_isWord l dC dI s.heap.size pl) (va_cwS 1 hts gX5_load_X5_isWord rfl rfl rfl (by decide +kernel) ⟨Nat.le_of_ble_eq_true rfl, Nat.le_of_ble_eq_true rfl⟩) ⟨q_blind, fun U hU hW => ⟨rfl, q_pay hU hW hPc hKc hDc hN⟩⟩ rfl rfl hl.1 rfl (lv_room (Nat.le_of_ble_eq_true rfl)) dX5_load_2 ⟨show 0 + 0 ≤ 0 from by omega, show 0 + 0 ≤ 0 from by omega⟩) hS (fun q _ h => hFc q h) hFc (fun r_1 u9 t H locs ht hvm hw_2 hB hz1 hk1 hS => ?_)
  obtain ⟨hP1, hK1, hD1⟩ := hB
  rw [ht] at hP1
  obtain ⟨hP, hD⟩ := va_join (wr := [(m0, .inr (5, [.int x_thrown, .ref mB, .ref mR, .int x_flags, .ref mO, .int x_outCount, .int x_steps, .ref mN, .int x_nowFlags, .int x_writePlace, .int x_writeSize, .int x_writeValue, .int x_fault, .int x_halt, .int x_isByte, .int x_atRegister, .int x_atPlace])), (mB, .inl (cY, 4096, .inl bf))]) (w1 := []) hP hD [] [0, 1] rfl rfl (by decide) (by decide) hk1 hFc hP1 hD1
  have hP : va_P (dC, dI) vwCl [(m0, .inr (5, [.int x_thrown, .ref mB, .ref mR, .int x_flags, .ref mO, .int x_outCount, .int x_steps, .ref mN, .int x_nowFlags, .int x_writePlace, .int x_writeSize, .int x_writeValue, .int x_fault, .int x_halt, .int x_isByte, .int x_atRegister, .int x_atPlace])), (mB, .inl (cY, 4096, .inl bf))] H := hP
  have hD : va_D A [(m0, .inr (5, [.int x_thrown, .ref mB, .ref mR, .int x_flags, .ref mO, .int x_outCount, .int x_steps, .ref mN, .int x_nowFlags, .int x_writePlace, .int x_writeSize, .int x_writeValue, .int x_fault, .int x_halt, .int x_isByte, .int x_atRegister, .int x_atPlace])), (mB, .inl (cY, 4096, .inl bf))] := hD
  refine W.widen (k := 0) (n := 0) (by omega) (by omega) ?_
  try dsimp only at hw_2
  obtain rfl := hw_2
  refine lv_if_eq (tgt := 12) hx hb dX5_load_5 (by decide) (fun c_3 => ?_) (fun c_3 => ?_)
  · refine lv_iconst (v := 1) hx hb dX5_load_12 (by decide) ?_
    refine va_put (D := (dC, dI)) (ci := 5) (v := .int 1) (ty := .int) (C := RX5) (T := TX5) (N := 17) hx hb hts (by decide +kernel) tyX5 tyX5_ok nmX5 hown hK hP hD hS 0 rfl rfl 0 (by decide) (hts (.fieldLink RX5 22 "WordGuestModel" "thrown" "I") (by decide +kernel)) (fun _ h9 => h9) rfl (by decide +kernel) rfl rfl (Nat.le_of_ble_eq_true rfl) dX5_load_13 (fun H locs hP hD hS => ?_)
    have hP : va_P (dC, dI) vwCl [(m0, .inr (5, [.int 1, .ref mB, .ref mR, .int x_flags, .ref mO, .int x_outCount, .int x_steps, .ref mN, .int x_nowFlags, .int x_writePlace, .int x_writeSize, .int x_writeValue, .int x_fault, .int x_halt, .int x_isByte, .int x_atRegister, .int x_atPlace])), (mB, .inl (cY, 4096, .inl bf))] H := hP
    have hD : va_D A [(m0, .inr (5, [.int 1, .ref mB, .ref mR, .int x_flags, .ref mO, .int x_outCount, .int x_steps, .ref mN, .int x_nowFlags, .int x_writePlace, .int x_writeSize, .int x_writeValue, .int x_fault, .int x_halt, .int x_isByte, .int x_atRegister, .int x_atPlace])), (mB, .inl (cY, 4096, .inl bf))] := hD
    refine lv_iconst (v := 0) hx hb dX5_load_16 (by decide) ?_
    refine lv_istore (lv' := [(7, .int 0), (0, .ref m0), (1, .int pl), (2, .int a0), (3, .int a1), (4, .int a2), (5, .int a3), (6, .int a4)]) hx hb dX5_load_17 hl (by decide) rfl (fun ls hl => ?_)
    refine lv_iconst (v := 0) hx hb dX5_load_19 (by decide) ?_
    refine lv_istore (lv' := [(8, .int 0), (7, .int 0), (0, .ref m0), (1, .int pl), (2, .int a0), (3, .int a1), (4, .int a2), (5, .int a3), (6, .int a4)]) hx hb dX5_load_20 hl (by decide) rfl (fun ls hl => ?_)
    refine lv_iload hx hb dX5_load_22 (lv_at hl 0 rfl) ?_
    refine lv_bipush (v := 10) hx hb dX5_load_24 (by decide) ?_
    refine lv_icmp_ge (tgt := 135) hx hb dX5_load_26 (by decide) (fun c9 => absurd c9 (by decide)) (fun c_4 => ?_)
    refine lv_aload_n hx hb dX5_load_29 rfl (lv_at hl 2 rfl) ?_
    refine va_get (D := (dC, dI)) (ci := 5) (v := .int 1) (C := RX5) (T := TX5) (N := 17) hx hb hts (by decide +kernel) hown hK hP 0 rfl rfl 0 (by decide) (hts (.fieldLink RX5 22 "WordGuestModel" "thrown" "I") (by decide +kernel)) (fun _ h9 => h9) rfl dX5_load_30 ?_
    refine lv_if_ne (tgt := 135) hx hb dX5_load_33 (by decide) (fun c_5 => ?_) (fun c9 => absurd c9 (by decide))
    refine lv_iload hx hb dX5_load_135 (lv_at hl 1 rfl) ?_
    have hP9 := hP.sub (ws' := [(m0, .inr (5, [.int 1, .ref mB, .ref mR, .int x_flags, .ref mO, .int x_outCount, .int x_steps, .ref mN, .int x_nowFlags, .int x_writePlace, .int x_writeSize, .int x_writeValue, .int x_fault, .int x_halt, .int x_isByte, .int x_atRegister, .int x_atPlace])), (mB, .inl (cY, 4096, .inl bf))]) [0, 1] rfl
    have hD9 := hD.sub (ws' := [(m0, .inr (5, [.int 1, .ref mB, .ref mR, .int x_flags, .ref mO, .int x_outCount, .int x_steps, .ref mN, .int x_nowFlags, .int x_writePlace, .int x_writeSize, .int x_writeValue, .int x_fault, .int x_halt, .int x_isByte, .int x_atRegister, .int x_atPlace])), (mB, .inl (cY, 4096, .inl bf))]) [0, 1] (by decide) rfl
    have hK9 := hK.sub (tys' := [(cY, .int)]) [0] rfl
    exact W.iret (v := 0) hx hb hr (fun t ht hW => ⟨⟨0, (1, bf), rfl, Or.inr ⟨c_3, rfl, hB, rfl⟩, by rw [ht]; exact hP9, va_K.moved hW.alike hK9, hD9⟩, hS.F ht⟩) hS.2.2 dX5_load_137
  · refine lv_iconst (v := 0) hx hb dX5_load_8 (by decide) ?_
    refine lv_goto (tgt := 13) hx hb dX5_load_9 (by decide) ?_
    refine va_put (D := (dC, dI)) (ci := 5) (v := .int 0) (ty := .int) (C := RX5) (T := TX5) (N := 17) hx hb hts (by decide +kernel) tyX5 tyX5_ok nmX5 hown hK hP hD hS 0 rfl rfl 0 (by decide) (hts (.fieldLink RX5 22 "WordGuestModel" "thrown" "I") (by decide +kernel)) (fun _ h9 => h9) rfl (by decide +kernel) rfl rfl (Nat.le_of_ble_eq_true rfl) dX5_load_13 (fun H locs hP hD hS => ?_)
    have hP : va_P (dC, dI) vwCl [(m0, .inr (5, [.int 0, .ref mB, .ref mR, .int x_flags, .ref mO, .int x_outCount, .int x_steps, .ref mN, .int x_nowFlags, .int x_writePlace, .int x_writeSize, .int x_writeValue, .int x_fault, .int x_halt, .int x_isByte, .int x_atRegister, .int x_atPlace])), (mB, .inl (cY, 4096, .inl bf))] H := hP
    have hD : va_D A [(m0, .inr (5, [.int 0, .ref mB, .ref mR, .int x_flags, .ref mO, .int x_outCount, .int x_steps, .ref mN, .int x_nowFlags, .int x_writePlace, .int x_writeSize, .int x_writeValue, .int x_fault, .int x_halt, .int x_isByte, .int x_atRegister, .int x_atPlace])), (mB, .inl (cY, 4096, .inl bf))] := hD
    refine lv_iconst (v := 0) hx hb dX5_load_16 (by decide) ?_
    refine lv_istore (lv' := [(7, .int 0), (0, .ref m0), (1, .int pl), (2, .int a0), (3, .int a1), (4, .int a2), (5, .int a3), (6, .int a4)]) hx hb dX5_load_17 hl (by decide) rfl (fun ls hl => ?_)
    refine lv_iconst (v := 0) hx hb dX5_load_19 (by decide) ?_
    refine lv_istore (lv' := [(8, .int 0), (7, .int 0), (0, .ref m0), (1, .int pl), (2, .int a0), (3, .int a1), (4, .int a2), (5, .int a3), (6, .int a4)]) hx hb dX5_load_20 hl (by decide) rfl (fun ls hl => ?_)
    refine lv_iload hx hb dX5_load_22 (lv_at hl 0 rfl) ?_
    refine lv_bipush (v := 10) hx hb dX5_load_24 (by decide) ?_
    refine lv_icmp_ge (tgt := 135) hx hb dX5_load_26 (by decide) (fun c9 => absurd c9 (by decide)) (fun c_6 => ?_)
    refine lv_aload_n hx hb dX5_load_29 rfl (lv_at hl 2 rfl) ?_
    refine va_get (D := (dC, dI)) (ci := 5) (v := .int 0) (C := RX5) (T := TX5) (N := 17) hx hb hts (by decide +kernel) hown hK hP 0 rfl rfl 0 (by decide) (hts (.fieldLink RX5 22 "WordGuestModel" "thrown" "I") (by decide +kernel)) (fun _ h9 => h9) rfl dX5_load_30 ?_
    refine lv_if_ne (tgt := 135) hx hb dX5_load_33 (by decide) (fun c9 => absurd (by decide) c9) (fun c_7 => ?_)
    refine lv_iload hx hb dX5_load_36 (lv_at hl 0 rfl) ?_
    refine lv_iconst (v := 2) hx hb dX5_load_38 (by decide) ?_
    refine lv_icmp_ge (tgt := 46) hx hb dX5_load_39 (by decide) (fun c9 => absurd c9 (by decide)) (fun c_8 => ?_)
    refine lv_iload_n hx hb dX5_load_42 rfl (lv_at hl 4 rfl) ?_
    refine lv_goto (tgt := 82) hx hb dX5_load_43 (by decide) ?_
    refine lv_istore (lv' := [(9, .int a0), (8, .int 0), (7, .int 0), (0, .ref m0), (1, .int pl), (2, .int a0), (3, .int a1), (4, .int a2), (5, .int a3), (6, .int a4)]) hx hb dX5_load_82 hl (by decide) rfl (fun ls hl => ?_)
    refine lv_iload_n hx hb dX5_load_84 rfl (lv_at hl 4 rfl) ?_
    refine lv_iconst (v := 2) hx hb dX5_load_85 (by decide) ?_
    refine lv_iload hx hb dX5_load_86 (lv_at hl 1 rfl) ?_
    refine lv_imul hx hb dX5_load_88 ?_
    refine q_toc (y := 0) (by decide) ?_
    refine lv_iadd hx hb dX5_load_89 ?_
    refine lv_sipush (v := 4096) hx hb dX5_load_90 (by decide) ?_
    refine q_meet (fun H locs ls => ∃ (n9 : Int32) (f9 : Nat → Int32), n9 = 0 + dn (pl + 0) ∧ okB f9 ∧ va_P (dC, dI) vwCl [(m0, .inr (5, [.int 0, .ref mB, .ref mR, .int x_flags, .ref mO, .int x_outCount, .int x_steps, .ref mN, .int x_nowFlags, .int x_writePlace, .int x_writeSize, .int x_writeValue, .int x_fault, .int x_halt, .int x_isByte, .int x_atRegister, .int x_atPlace])), (mB, .inl (cY, 4096, .inl f9))] H ∧ va_D A [(m0, .inr (5, [.int 0, .ref mB, .ref mR, .int x_flags, .ref mO, .int x_outCount, .int x_steps, .ref mN, .int x_nowFlags, .int x_writePlace, .int x_writeSize, .int x_writeValue, .int x_fault, .int x_halt, .int x_isByte, .int x_atRegister, .int x_atPlace])), (mB, .inl (cY, 4096, .inl f9))] ∧ va_S A s.heap H locs ∧ lv_has ls 10 [(9, .int a0), (8, .int 0), (7, .int n9), (0, .ref m0), (1, .int pl), (2, .int a0), (3, .int a1), (4, .int a2), (5, .int a3), (6, .int a4)]) 129 [] (fun H locs ls hJ => ?_) (fun jn => ?_)
    · obtain ⟨nv_10, f_11, hn_12, hB_13, hP, hD, hS, hl⟩ := hJ
      refine lv_iinc (v := 1) (lv' := [(8, .int 1), (9, .int a0), (7, .int nv_10), (0, .ref m0), (1, .int pl), (2, .int a0), (3, .int a1), (4, .int a2), (5, .int a3), (6, .int a4)]) hx hb dX5_load_129 hl (k := 1) rfl (by decide) (by decide) rfl (fun ls hl => ?_)
      refine lv_goto (tgt := 22) hx hb dX5_load_132 (by decide) ?_
      refine lv_iload hx hb dX5_load_22 (lv_at hl 0 rfl) ?_
      refine lv_bipush (v := 10) hx hb dX5_load_24 (by decide) ?_
      refine lv_icmp_ge (tgt := 135) hx hb dX5_load_26 (by decide) (fun c9 => absurd c9 (by decide)) (fun c_14 => ?_)
      refine lv_aload_n hx hb dX5_load_29 rfl (lv_at hl 3 rfl) ?_
      refine va_get (D := (dC, dI)) (ci := 5) (v := .int 0) (C := RX5) (T := TX5) (N := 17) hx hb hts (by decide +kernel) hown hK hP 0 rfl rfl 0 (by decide) (hts (.fieldLink RX5 22 "WordGuestModel" "thrown" "I") (by decide +kernel)) (fun _ h9 => h9) rfl dX5_load_30 ?_
      refine lv_if_ne (tgt := 135) hx hb dX5_load_33 (by decide) (fun c9 => absurd (by decide) c9) (fun c_15 => ?_)
      refine lv_iload hx hb dX5_load_36 (lv_at hl 0 rfl) ?_
      refine lv_iconst (v := 2) hx hb dX5_load_38 (by decide) ?_
      refine lv_icmp_ge (tgt := 46) hx hb dX5_load_39 (by decide) (fun c9 => absurd c9 (by decide)) (fun c_16 => ?_)
      refine lv_iload_n hx hb dX5_load_42 rfl (lv_at hl 5 rfl) ?_
      refine lv_goto (tgt := 82) hx hb dX5_load_43 (by decide) ?_
      refine lv_istore (lv' := [(9, .int a0), (8, .int 1), (7, .int nv_10), (0, .ref m0), (1, .int pl), (2, .int a0), (3, .int a1), (4, .int a2), (5, .int a3), (6, .int a4)]) hx hb dX5_load_82 hl (by decide) rfl (fun ls hl => ?_)
      refine lv_iload_n hx hb dX5_load_84 rfl (lv_at hl 4 rfl) ?_
      refine lv_iconst (v := 2) hx hb dX5_load_85 (by decide) ?_
      refine lv_iload hx hb dX5_load_86 (lv_at hl 1 rfl) ?_
      refine lv_imul hx hb dX5_load_88 ?_
      refine q_toc (y := 2) (by decide) ?_
      refine lv_iadd hx hb dX5_load_89 ?_
      refine lv_sipush (v := 4096) hx hb dX5_load_90 (by decide) ?_
      refine q_meet (fun H locs ls => ∃ (n9 : Int32) (f9 : Nat → Int32), n9 = nv_10 + dn (pl + 2) ∧ okB f9 ∧ va_P (dC, dI) vwCl [(m0, .inr (5, [.int 0, .ref mB, .ref mR, .int x_flags, .ref mO, .int x_outCount, .int x_steps, .ref mN, .int x_nowFlags, .int x_writePlace, .int x_writeSize, .int x_writeValue, .int x_fault, .int x_halt, .int x_isByte, .int x_atRegister, .int x_atPlace])), (mB, .inl (cY, 4096, .inl f9))] H ∧ va_D A [(m0, .inr (5, [.int 0, .ref mB, .ref mR, .int x_flags, .ref mO, .int x_outCount, .int x_steps, .ref mN, .int x_nowFlags, .int x_writePlace, .int x_writeSize, .int x_writeValue, .int x_fault, .int x_halt, .int x_isByte, .int x_atRegister, .int x_atPlace])), (mB, .inl (cY, 4096, .inl f9))] ∧ va_S A s.heap H locs ∧ lv_has ls 10 [(9, .int a0), (8, .int 1), (7, .int n9), (0, .ref m0), (1, .int pl), (2, .int a0), (3, .int a1), (4, .int a2), (5, .int a3), (6, .int a4)]) 129 [] (fun H locs ls hJ => ?_) (fun jn => ?_)
      · obtain ⟨nv_18, f_19, hn_20, hB_21, hP, hD, hS, hl⟩ := hJ
        refine lv_iinc (v := 2) (lv' := [(8, .int 2), (9, .int a0), (7, .int nv_18), (0, .ref m0), (1, .int pl), (2, .int a0), (3, .int a1), (4, .int a2), (5, .int a3), (6, .int a4)]) hx hb dX5_load_129 hl (k := 1) rfl (by decide) (by decide) rfl (fun ls hl => ?_)
        refine lv_goto (tgt := 22) hx hb dX5_load_132 (by decide) ?_
        refine lv_iload hx hb dX5_load_22 (lv_at hl 0 rfl) ?_
        refine lv_bipush (v := 10) hx hb dX5_load_24 (by decide) ?_
        refine lv_icmp_ge (tgt := 135) hx hb dX5_load_26 (by decide) (fun c9 => absurd c9 (by decide)) (fun c_22 => ?_)
        refine lv_aload_n hx hb dX5_load_29 rfl (lv_at hl 3 rfl) ?_
        refine va_get (D := (dC, dI)) (ci := 5) (v := .int 0) (C := RX5) (T := TX5) (N := 17) hx hb hts (by decide +kernel) hown hK hP 0 rfl rfl 0 (by decide) (hts (.fieldLink RX5 22 "WordGuestModel" "thrown" "I") (by decide +kernel)) (fun _ h9 => h9) rfl dX5_load_30 ?_
        refine lv_if_ne (tgt := 135) hx hb dX5_load_33 (by decide) (fun c9 => absurd (by decide) c9) (fun c_23 => ?_)
        refine lv_iload hx hb dX5_load_36 (lv_at hl 0 rfl) ?_
        refine lv_iconst (v := 2) hx hb dX5_load_38 (by decide) ?_
        refine lv_icmp_ge (tgt := 46) hx hb dX5_load_39 (by decide) (fun c_24 => ?_) (fun c9 => absurd (by decide) c9)
        refine lv_iload hx hb dX5_load_46 (lv_at hl 0 rfl) ?_
        refine lv_iconst (v := 4) hx hb dX5_load_48 (by decide) ?_
        refine lv_icmp_ge (tgt := 56) hx hb dX5_load_49 (by decide) (fun c9 => absurd c9 (by decide)) (fun c_25 => ?_)
        refine lv_iload_n hx hb dX5_load_52 rfl (lv_at hl 6 rfl) ?_
        refine lv_goto (tgt := 82) hx hb dX5_load_53 (by decide) ?_
        refine lv_istore (lv' := [(9, .int a1), (8, .int 2), (7, .int nv_18), (0, .ref m0), (1, .int pl), (2, .int a0), (3, .int a1), (4, .int a2), (5, .int a3), (6, .int a4)]) hx hb dX5_load_82 hl (by decide) rfl (fun ls hl => ?_)
        refine lv_iload_n hx hb dX5_load_84 rfl (lv_at hl 4 rfl) ?_
        refine lv_iconst (v := 2) hx hb dX5_load_85 (by decide) ?_
        refine lv_iload hx hb dX5_load_86 (lv_at hl 1 rfl) ?_
        refine lv_imul hx hb dX5_load_88 ?_
        refine q_toc (y := 4) (by decide) ?_
        refine lv_iadd hx hb dX5_load_89 ?_
        refine lv_sipush (v := 4096) hx hb dX5_load_90 (by decide) ?_
        refine q_meet (fun H locs ls => ∃ (n9 : Int32) (f9 : Nat → Int32), n9 = nv_18 + dn (pl + 4) ∧ okB f9 ∧ va_P (dC, dI) vwCl [(m0, .inr (5, [.int 0, .ref mB, .ref mR, .int x_flags, .ref mO, .int x_outCount, .int x_steps, .ref mN, .int x_nowFlags, .int x_writePlace, .int x_writeSize, .int x_writeValue, .int x_fault, .int x_halt, .int x_isByte, .int x_atRegister, .int x_atPlace])), (mB, .inl (cY, 4096, .inl f9))] H ∧ va_D A [(m0, .inr (5, [.int 0, .ref mB, .ref mR, .int x_flags, .ref mO, .int x_outCount, .int x_steps, .ref mN, .int x_nowFlags, .int x_writePlace, .int x_writeSize, .int x_writeValue, .int x_fault, .int x_halt, .int x_isByte, .int x_atRegister, .int x_atPlace])), (mB, .inl (cY, 4096, .inl f9))] ∧ va_S A s.heap H locs ∧ lv_has ls 10 [(9, .int a1), (8, .int 2), (7, .int n9), (0, .ref m0), (1, .int pl), (2, .int a0), (3, .int a1), (4, .int a2), (5, .int a3), (6, .int a4)]) 129 [] (fun H locs ls hJ => ?_) (fun jn => ?_)
        · obtain ⟨nv_27, f_28, hn_29, hB_30, hP, hD, hS, hl⟩ := hJ
          refine lv_iinc (v := 3) (lv' := [(8, .int 3), (9, .int a1), (7, .int nv_27), (0, .ref m0), (1, .int pl), (2, .int a0), (3, .int a1), (4, .int a2), (5, .int a3), (6, .int a4)]) hx hb dX5_load_129 hl (k := 1) rfl (by decide) (by decide) rfl (fun ls hl => ?_)
          refine lv_goto (tgt := 22) hx hb dX5_load_132 (by decide) ?_
          refine lv_iload hx hb dX5_load_22 (lv_at hl 0 rfl) ?_
          refine lv_bipush (v := 10) hx hb dX5_load_24 (by decide) ?_
          refine lv_icmp_ge (tgt := 135) hx hb dX5_load_26 (by decide) (fun c9 => absurd c9 (by decide)) (fun c_31 => ?_)
          refine lv_aload_n hx hb dX5_load_29 rfl (lv_at hl 3 rfl) ?_
          refine va_get (D := (dC, dI)) (ci := 5) (v := .int 0) (C := RX5) (T := TX5) (N := 17) hx hb hts (by decide +kernel) hown hK hP 0 rfl rfl 0 (by decide) (hts (.fieldLink RX5 22 "WordGuestModel" "thrown" "I") (by decide +kernel)) (fun _ h9 => h9) rfl dX5_load_30 ?_
          refine lv_if_ne (tgt := 135) hx hb dX5_load_33 (by decide) (fun c9 => absurd (by decide) c9) (fun c_32 => ?_)
          refine lv_iload hx hb dX5_load_36 (lv_at hl 0 rfl) ?_
          refine lv_iconst (v := 2) hx hb dX5_load_38 (by decide) ?_
          refine lv_icmp_ge (tgt := 46) hx hb dX5_load_39 (by decide) (fun c_33 => ?_) (fun c9 => absurd (by decide) c9)
          refine lv_iload hx hb dX5_load_46 (lv_at hl 0 rfl) ?_
          refine lv_iconst (v := 4) hx hb dX5_load_48 (by decide) ?_
          refine lv_icmp_ge (tgt := 56) hx hb dX5_load_49 (by decide) (fun c9 => absurd c9 (by decide)) (fun c_34 => ?_)
          refine lv_iload_n hx hb dX5_load_52 rfl (lv_at hl 6 rfl) ?_
          refine lv_goto (tgt := 82) hx hb dX5_load_53 (by decide) ?_
          refine lv_istore (lv' := [(9, .int a1), (8, .int 3), (7, .int nv_27), (0, .ref m0), (1, .int pl), (2, .int a0), (3, .int a1), (4, .int a2), (5, .int a3), (6, .int a4)]) hx hb dX5_load_82 hl (by decide) rfl (fun ls hl => ?_)
          refine lv_iload_n hx hb dX5_load_84 rfl (lv_at hl 4 rfl) ?_
          refine lv_iconst (v := 2) hx hb dX5_load_85 (by decide) ?_
          refine lv_iload hx hb dX5_load_86 (lv_at hl 1 rfl) ?_
          refine lv_imul hx hb dX5_load_88 ?_
          refine q_toc (y := 6) (by decide) ?_
          refine lv_iadd hx hb dX5_load_89 ?_
          refine lv_sipush (v := 4096) hx hb dX5_load_90 (by decide) ?_
          refine q_meet (fun H locs ls => ∃ (n9 : Int32) (f9 : Nat → Int32), n9 = nv_27 + dn (pl + 6) ∧ okB f9 ∧ va_P (dC, dI) vwCl [(m0, .inr (5, [.int 0, .ref mB, .ref mR, .int x_flags, .ref mO, .int x_outCount, .int x_steps, .ref mN, .int x_nowFlags, .int x_writePlace, .int x_writeSize, .int x_writeValue, .int x_fault, .int x_halt, .int x_isByte, .int x_atRegister, .int x_atPlace])), (mB, .inl (cY, 4096, .inl f9))] H ∧ va_D A [(m0, .inr (5, [.int 0, .ref mB, .ref mR, .int x_flags, .ref mO, .int x_outCount, .int x_steps, .ref mN, .int x_nowFlags, .int x_writePlace, .int x_writeSize, .int x_writeValue, .int x_fault, .int x_halt, .int x_isByte, .int x_atRegister, .int x_atPlace])), (mB, .inl (cY, 4096, .inl f9))] ∧ va_S A s.heap H locs ∧ lv_has ls 10 [(9, .int a1), (8, .int 3), (7, .int n9), (0, .ref m0), (1, .int pl), (2, .int a0), (3, .int a1), (4, .int a2), (5, .int a3), (6, .int a4)]) 129 [] (fun H locs ls hJ => ?_) (fun jn => ?_)
          · obtain ⟨nv_36, f_37, hn_38, hB_39, hP, hD, hS, hl⟩ := hJ
            refine lv_iinc (v := 4) (lv' := [(8, .int 4), (9, .int a1), (7, .int nv_36), (0, .ref m0), (1, .int pl), (2, .int a0), (3, .int a1), (4, .int a2), (5, .int a3), (6, .int a4)]) hx hb dX5_load_129 hl (k := 1) rfl (by decide) (by decide) rfl (fun ls hl => ?_)
            refine lv_goto (tgt := 22) hx hb dX5_load_132 (by decide) ?_
            refine lv_iload hx hb dX5_load_22 (lv_at hl 0 rfl) ?_
            refine lv_bipush (v := 10) hx hb dX5_load_24 (by decide) ?_
            refine lv_icmp_ge (tgt := 135) hx hb dX5_load_26 (by decide) (fun c9 => absurd c9 (by decide)) (fun c_40 => ?_)
            refine lv_aload_n hx hb dX5_load_29 rfl (lv_at hl 3 rfl) ?_
            refine va_get (D := (dC, dI)) (ci := 5) (v := .int 0) (C := RX5) (T := TX5) (N := 17) hx hb hts (by decide +kernel) hown hK hP 0 rfl rfl 0 (by decide) (hts (.fieldLink RX5 22 "WordGuestModel" "thrown" "I") (by decide +kernel)) (fun _ h9 => h9) rfl dX5_load_30 ?_
            refine lv_if_ne (tgt := 135) hx hb dX5_load_33 (by decide) (fun c9 => absurd (by decide) c9) (fun c_41 => ?_)
            refine lv_iload hx hb dX5_load_36 (lv_at hl 0 rfl) ?_
            refine lv_iconst (v := 2) hx hb dX5_load_38 (by decide) ?_
            refine lv_icmp_ge (tgt := 46) hx hb dX5_load_39 (by decide) (fun c_42 => ?_) (fun c9 => absurd (by decide) c9)
            refine lv_iload hx hb dX5_load_46 (lv_at hl 0 rfl) ?_
            refine lv_iconst (v := 4) hx hb dX5_load_48 (by decide) ?_
            refine lv_icmp_ge (tgt := 56) hx hb dX5_load_49 (by decide) (fun c_43 => ?_) (fun c9 => absurd (by decide) c9)
            refine lv_iload hx hb dX5_load_56 (lv_at hl 0 rfl) ?_
            refine lv_bipush (v := 6) hx hb dX5_load_58 (by decide) ?_
            refine lv_icmp_ge (tgt := 68) hx hb dX5_load_60 (by decide) (fun c9 => absurd c9 (by decide)) (fun c_44 => ?_)
            refine lv_iload hx hb dX5_load_63 (lv_at hl 7 rfl) ?_
            refine lv_goto (tgt := 82) hx hb dX5_load_65 (by decide) ?_
            refine lv_istore (lv' := [(9, .int a2), (8, .int 4), (7, .int nv_36), (0, .ref m0), (1, .int pl), (2, .int a0), (3, .int a1), (4, .int a2), (5, .int a3), (6, .int a4)]) hx hb dX5_load_82 hl (by decide) rfl (fun ls hl => ?_)
            refine lv_iload_n hx hb dX5_load_84 rfl (lv_at hl 4 rfl) ?_
            refine lv_iconst (v := 2) hx hb dX5_load_85 (by decide) ?_
            refine lv_iload hx hb dX5_load_86 (lv_at hl 1 rfl) ?_
            refine lv_imul hx hb dX5_load_88 ?_
            refine q_toc (y := 8) (by decide) ?_
            refine lv_iadd hx hb dX5_load_89 ?_
            refine lv_sipush (v := 4096) hx hb dX5_load_90 (by decide) ?_
            refine q_meet (fun H locs ls => ∃ (n9 : Int32) (f9 : Nat → Int32), n9 = nv_36 + dn (pl + 8) ∧ okB f9 ∧ va_P (dC, dI) vwCl [(m0, .inr (5, [.int 0, .ref mB, .ref mR, .int x_flags, .ref mO, .int x_outCount, .int x_steps, .ref mN, .int x_nowFlags, .int x_writePlace, .int x_writeSize, .int x_writeValue, .int x_fault, .int x_halt, .int x_isByte, .int x_atRegister, .int x_atPlace])), (mB, .inl (cY, 4096, .inl f9))] H ∧ va_D A [(m0, .inr (5, [.int 0, .ref mB, .ref mR, .int x_flags, .ref mO, .int x_outCount, .int x_steps, .ref mN, .int x_nowFlags, .int x_writePlace, .int x_writeSize, .int x_writeValue, .int x_fault, .int x_halt, .int x_isByte, .int x_atRegister, .int x_atPlace])), (mB, .inl (cY, 4096, .inl f9))] ∧ va_S A s.heap H locs ∧ lv_has ls 10 [(9, .int a2), (8, .int 4), (7, .int n9), (0, .ref m0), (1, .int pl), (2, .int a0), (3, .int a1), (4, .int a2), (5, .int a3), (6, .int a4)]) 129 [] (fun H locs ls hJ => ?_) (fun jn => ?_)
            · obtain ⟨nv_46, f_47, hn_48, hB_49, hP, hD, hS, hl⟩ := hJ
              refine lv_iinc (v := 5) (lv' := [(8, .int 5), (9, .int a2), (7, .int nv_46), (0, .ref m0), (1, .int pl), (2, .int a0), (3, .int a1), (4, .int a2), (5, .int a3), (6, .int a4)]) hx hb dX5_load_129 hl (k := 1) rfl (by decide) (by decide) rfl (fun ls hl => ?_)
              refine lv_goto (tgt := 22) hx hb dX5_load_132 (by decide) ?_
              refine lv_iload hx hb dX5_load_22 (lv_at hl 0 rfl) ?_
              refine lv_bipush (v := 10) hx hb dX5_load_24 (by decide) ?_
              refine lv_icmp_ge (tgt := 135) hx hb dX5_load_26 (by decide) (fun c9 => absurd c9 (by decide)) (fun c_50 => ?_)
              refine lv_aload_n hx hb dX5_load_29 rfl (lv_at hl 3 rfl) ?_
              refine va_get (D := (dC, dI)) (ci := 5) (v := .int 0) (C := RX5) (T := TX5) (N := 17) hx hb hts (by decide +kernel) hown hK hP 0 rfl rfl 0 (by decide) (hts (.fieldLink RX5 22 "WordGuestModel" "thrown" "I") (by decide +kernel)) (fun _ h9 => h9) rfl dX5_load_30 ?_
              refine lv_if_ne (tgt := 135) hx hb dX5_load_33 (by decide) (fun c9 => absurd (by decide) c9) (fun c_51 => ?_)
              refine lv_iload hx hb dX5_load_36 (lv_at hl 0 rfl) ?_
              refine lv_iconst (v := 2) hx hb dX5_load_38 (by decide) ?_
              refine lv_icmp_ge (tgt := 46) hx hb dX5_load_39 (by decide) (fun c_52 => ?_) (fun c9 => absurd (by decide) c9)
              refine lv_iload hx hb dX5_load_46 (lv_at hl 0 rfl) ?_
              refine lv_iconst (v := 4) hx hb dX5_load_48 (by decide) ?_
              refine lv_icmp_ge (tgt := 56) hx hb dX5_load_49 (by decide) (fun c_53 => ?_) (fun c9 => absurd (by decide) c9)
              refine lv_iload hx hb dX5_load_56 (lv_at hl 0 rfl) ?_
              refine lv_bipush (v := 6) hx hb dX5_load_58 (by decide) ?_
              refine lv_icmp_ge (tgt := 68) hx hb dX5_load_60 (by decide) (fun c9 => absurd c9 (by decide)) (fun c_54 => ?_)
              refine lv_iload hx hb dX5_load_63 (lv_at hl 7 rfl) ?_
              refine lv_goto (tgt := 82) hx hb dX5_load_65 (by decide) ?_
              refine lv_istore (lv' := [(9, .int a2), (8, .int 5), (7, .int nv_46), (0, .ref m0), (1, .int pl), (2, .int a0), (3, .int a1), (4, .int a2), (5, .int a3), (6, .int a4)]) hx hb dX5_load_82 hl (by decide) rfl (fun ls hl => ?_)
              refine lv_iload_n hx hb dX5_load_84 rfl (lv_at hl 4 rfl) ?_
              refine lv_iconst (v := 2) hx hb dX5_load_85 (by decide) ?_
              refine lv_iload hx hb dX5_load_86 (lv_at hl 1 rfl) ?_
              refine lv_imul hx hb dX5_load_88 ?_
              refine q_toc (y := 10) (by decide) ?_
              refine lv_iadd hx hb dX5_load_89 ?_
              refine lv_sipush (v := 4096) hx hb dX5_load_90 (by decide) ?_
              refine q_meet (fun H locs ls => ∃ (n9 : Int32) (f9 : Nat → Int32), n9 = nv_46 + dn (pl + 10) ∧ okB f9 ∧ va_P (dC, dI) vwCl [(m0, .inr (5, [.int 0, .ref mB, .ref mR, .int x_flags, .ref mO, .int x_outCount, .int x_steps, .ref mN, .int x_nowFlags, .int x_writePlace, .int x_writeSize, .int x_writeValue, .int x_fault, .int x_halt, .int x_isByte, .int x_atRegister, .int x_atPlace])), (mB, .inl (cY, 4096, .inl f9))] H ∧ va_D A [(m0, .inr (5, [.int 0, .ref mB, .ref mR, .int x_flags, .ref mO, .int x_outCount, .int x_steps, .ref mN, .int x_nowFlags, .int x_writePlace, .int x_writeSize, .int x_writeValue, .int x_fault, .int x_halt, .int x_isByte, .int x_atRegister, .int x_atPlace])), (mB, .inl (cY, 4096, .inl f9))] ∧ va_S A s.heap H locs ∧ lv_has ls 10 [(9, .int a2), (8, .int 5), (7, .int n9), (0, .ref m0), (1, .int pl), (2, .int a0), (3, .int a1), (4, .int a2), (5, .int a3), (6, .int a4)]) 129 [] (fun H locs ls hJ => ?_) (fun jn => ?_)
              · obtain ⟨nv_56, f_57, hn_58, hB_59, hP, hD, hS, hl⟩ := hJ
                refine lv_iinc (v := 6) (lv' := [(8, .int 6), (9, .int a2), (7, .int nv_56), (0, .ref m0), (1, .int pl), (2, .int a0), (3, .int a1), (4, .int a2), (5, .int a3), (6, .int a4)]) hx hb dX5_load_129 hl (k := 1) rfl (by decide) (by decide) rfl (fun ls hl => ?_)
                refine lv_goto (tgt := 22) hx hb dX5_load_132 (by decide) ?_
                refine lv_iload hx hb dX5_load_22 (lv_at hl 0 rfl) ?_
                refine lv_bipush (v := 10) hx hb dX5_load_24 (by decide) ?_
                refine lv_icmp_ge (tgt := 135) hx hb dX5_load_26 (by decide) (fun c9 => absurd c9 (by decide)) (fun c_60 => ?_)
                refine lv_aload_n hx hb dX5_load_29 rfl (lv_at hl 3 rfl) ?_
                refine va_get (D := (dC, dI)) (ci := 5) (v := .int 0) (C := RX5) (T := TX5) (N := 17) hx hb hts (by decide +kernel) hown hK hP 0 rfl rfl 0 (by decide) (hts (.fieldLink RX5 22 "WordGuestModel" "thrown" "I") (by decide +kernel)) (fun _ h9 => h9) rfl dX5_load_30 ?_
                refine lv_if_ne (tgt := 135) hx hb dX5_load_33 (by decide) (fun c9 => absurd (by decide) c9) (fun c_61 => ?_)
                refine lv_iload hx hb dX5_load_36 (lv_at hl 0 rfl) ?_
                refine lv_iconst (v := 2) hx hb dX5_load_38 (by decide) ?_
                refine lv_icmp_ge (tgt := 46) hx hb dX5_load_39 (by decide) (fun c_62 => ?_) (fun c9 => absurd (by decide) c9)
                refine lv_iload hx hb dX5_load_46 (lv_at hl 0 rfl) ?_
                refine lv_iconst (v := 4) hx hb dX5_load_48 (by decide) ?_
                refine lv_icmp_ge (tgt := 56) hx hb dX5_load_49 (by decide) (fun c_63 => ?_) (fun c9 => absurd (by decide) c9)
                refine lv_iload hx hb dX5_load_56 (lv_at hl 0 rfl) ?_
                refine lv_bipush (v := 6) hx hb dX5_load_58 (by decide) ?_
                refine lv_icmp_ge (tgt := 68) hx hb dX5_load_60 (by decide) (fun c_64 => ?_) (fun c9 => absurd (by decide) c9)
                refine lv_iload hx hb dX5_load_68 (lv_at hl 0 rfl) ?_
                refine lv_bipush (v := 8) hx hb dX5_load_70 (by decide) ?_
                refine lv_icmp_ge (tgt := 80) hx hb dX5_load_72 (by decide) (fun c9 => absurd c9 (by decide)) (fun c_65 => ?_)
                refine lv_iload hx hb dX5_load_75 (lv_at hl 8 rfl) ?_
                refine lv_goto (tgt := 82) hx hb dX5_load_77 (by decide) ?_
                refine lv_istore (lv' := [(9, .int a3), (8, .int 6), (7, .int nv_56), (0, .ref m0), (1, .int pl), (2, .int a0), (3, .int a1), (4, .int a2), (5, .int a3), (6, .int a4)]) hx hb dX5_load_82 hl (by decide) rfl (fun ls hl => ?_)
                refine lv_iload_n hx hb dX5_load_84 rfl (lv_at hl 4 rfl) ?_
                refine lv_iconst (v := 2) hx hb dX5_load_85 (by decide) ?_
                refine lv_iload hx hb dX5_load_86 (lv_at hl 1 rfl) ?_
                refine lv_imul hx hb dX5_load_88 ?_
                refine q_toc (y := 12) (by decide) ?_
                refine lv_iadd hx hb dX5_load_89 ?_
                refine lv_sipush (v := 4096) hx hb dX5_load_90 (by decide) ?_
                refine q_meet (fun H locs ls => ∃ (n9 : Int32) (f9 : Nat → Int32), n9 = nv_56 + dn (pl + 12) ∧ okB f9 ∧ va_P (dC, dI) vwCl [(m0, .inr (5, [.int 0, .ref mB, .ref mR, .int x_flags, .ref mO, .int x_outCount, .int x_steps, .ref mN, .int x_nowFlags, .int x_writePlace, .int x_writeSize, .int x_writeValue, .int x_fault, .int x_halt, .int x_isByte, .int x_atRegister, .int x_atPlace])), (mB, .inl (cY, 4096, .inl f9))] H ∧ va_D A [(m0, .inr (5, [.int 0, .ref mB, .ref mR, .int x_flags, .ref mO, .int x_outCount, .int x_steps, .ref mN, .int x_nowFlags, .int x_writePlace, .int x_writeSize, .int x_writeValue, .int x_fault, .int x_halt, .int x_isByte, .int x_atRegister, .int x_atPlace])), (mB, .inl (cY, 4096, .inl f9))] ∧ va_S A s.heap H locs ∧ lv_has ls 10 [(9, .int a3), (8, .int 6), (7, .int n9), (0, .ref m0), (1, .int pl), (2, .int a0), (3, .int a1), (4, .int a2), (5, .int a3), (6, .int a4)]) 129 [] (fun H locs ls hJ => ?_) (fun jn => ?_)
                · obtain ⟨nv_67, f_68, hn_69, hB_70, hP, hD, hS, hl⟩ := hJ
                  refine lv_iinc (v := 7) (lv' := [(8, .int 7), (9, .int a3), (7, .int nv_67), (0, .ref m0), (1, .int pl), (2, .int a0), (3, .int a1), (4, .int a2), (5, .int a3), (6, .int a4)]) hx hb dX5_load_129 hl (k := 1) rfl (by decide) (by decide) rfl (fun ls hl => ?_)
                  refine lv_goto (tgt := 22) hx hb dX5_load_132 (by decide) ?_
                  refine lv_iload hx hb dX5_load_22 (lv_at hl 0 rfl) ?_
                  refine lv_bipush (v := 10) hx hb dX5_load_24 (by decide) ?_
                  refine lv_icmp_ge (tgt := 135) hx hb dX5_load_26 (by decide) (fun c9 => absurd c9 (by decide)) (fun c_71 => ?_)
                  refine lv_aload_n hx hb dX5_load_29 rfl (lv_at hl 3 rfl) ?_
                  refine va_get (D := (dC, dI)) (ci := 5) (v := .int 0) (C := RX5) (T := TX5) (N := 17) hx hb hts (by decide +kernel) hown hK hP 0 rfl rfl 0 (by decide) (hts (.fieldLink RX5 22 "WordGuestModel" "thrown" "I") (by decide +kernel)) (fun _ h9 => h9) rfl dX5_load_30 ?_
                  refine lv_if_ne (tgt := 135) hx hb dX5_load_33 (by decide) (fun c9 => absurd (by decide) c9) (fun c_72 => ?_)
                  refine lv_iload hx hb dX5_load_36 (lv_at hl 0 rfl) ?_
                  refine lv_iconst (v := 2) hx hb dX5_load_38 (by decide) ?_
                  refine lv_icmp_ge (tgt := 46) hx hb dX5_load_39 (by decide) (fun c_73 => ?_) (fun c9 => absurd (by decide) c9)
                  refine lv_iload hx hb dX5_load_46 (lv_at hl 0 rfl) ?_
                  refine lv_iconst (v := 4) hx hb dX5_load_48 (by decide) ?_
                  refine lv_icmp_ge (tgt := 56) hx hb dX5_load_49 (by decide) (fun c_74 => ?_) (fun c9 => absurd (by decide) c9)
                  refine lv_iload hx hb dX5_load_56 (lv_at hl 0 rfl) ?_
                  refine lv_bipush (v := 6) hx hb dX5_load_58 (by decide) ?_
                  refine lv_icmp_ge (tgt := 68) hx hb dX5_load_60 (by decide) (fun c_75 => ?_) (fun c9 => absurd (by decide) c9)
                  refine lv_iload hx hb dX5_load_68 (lv_at hl 0 rfl) ?_
                  refine lv_bipush (v := 8) hx hb dX5_load_70 (by decide) ?_
                  refine lv_icmp_ge (tgt := 80) hx hb dX5_load_72 (by decide) (fun c9 => absurd c9 (by decide)) (fun c_76 => ?_)
                  refine lv_iload hx hb dX5_load_75 (lv_at hl 8 rfl) ?_
                  refine lv_goto (tgt := 82) hx hb dX5_load_77 (by decide) ?_
                  refine lv_istore (lv' := [(9, .int a3), (8, .int 7), (7, .int nv_67), (0, .ref m0), (1, .int pl), (2, .int a0), (3, .int a1), (4, .int a2), (5, .int a3), (6, .int a4)]) hx hb dX5_load_82 hl (by decide) rfl (fun ls hl => ?_)
                  refine lv_iload_n hx hb dX5_load_84 rfl (lv_at hl 4 rfl) ?_
                  refine lv_iconst (v := 2) hx hb dX5_load_85 (by decide) ?_
                  refine lv_iload hx hb dX5_load_86 (lv_at hl 1 rfl) ?_
                  refine lv_imul hx hb dX5_load_88 ?_
                  refine q_toc (y := 14) (by decide) ?_
                  refine lv_iadd hx hb dX5_load_89 ?_
                  refine lv_sipush (v := 4096) hx hb dX5_load_90 (by decide) ?_
                  refine q_meet (fun H locs ls => ∃ (n9 : Int32) (f9 : Nat → Int32), n9 = nv_67 + dn (pl + 14) ∧ okB f9 ∧ va_P (dC, dI) vwCl [(m0, .inr (5, [.int 0, .ref mB, .ref mR, .int x_flags, .ref mO, .int x_outCount, .int x_steps, .ref mN, .int x_nowFlags, .int x_writePlace, .int x_writeSize, .int x_writeValue, .int x_fault, .int x_halt, .int x_isByte, .int x_atRegister, .int x_atPlace])), (mB, .inl (cY, 4096, .inl f9))] H ∧ va_D A [(m0, .inr (5, [.int 0, .ref mB, .ref mR, .int x_flags, .ref mO, .int x_outCount, .int x_steps, .ref mN, .int x_nowFlags, .int x_writePlace, .int x_writeSize, .int x_writeValue, .int x_fault, .int x_halt, .int x_isByte, .int x_atRegister, .int x_atPlace])), (mB, .inl (cY, 4096, .inl f9))] ∧ va_S A s.heap H locs ∧ lv_has ls 10 [(9, .int a3), (8, .int 7), (7, .int n9), (0, .ref m0), (1, .int pl), (2, .int a0), (3, .int a1), (4, .int a2), (5, .int a3), (6, .int a4)]) 129 [] (fun H locs ls hJ => ?_) (fun jn => ?_)
                  · obtain ⟨nv_78, f_79, hn_80, hB_81, hP, hD, hS, hl⟩ := hJ
                    refine lv_iinc (v := 8) (lv' := [(8, .int 8), (9, .int a3), (7, .int nv_78), (0, .ref m0), (1, .int pl), (2, .int a0), (3, .int a1), (4, .int a2), (5, .int a3), (6, .int a4)]) hx hb dX5_load_129 hl (k := 1) rfl (by decide) (by decide) rfl (fun ls hl => ?_)
                    refine lv_goto (tgt := 22) hx hb dX5_load_132 (by decide) ?_
                    refine lv_iload hx hb dX5_load_22 (lv_at hl 0 rfl) ?_
                    refine lv_bipush (v := 10) hx hb dX5_load_24 (by decide) ?_
                    refine lv_icmp_ge (tgt := 135) hx hb dX5_load_26 (by decide) (fun c9 => absurd c9 (by decide)) (fun c_82 => ?_)
                    refine lv_aload_n hx hb dX5_load_29 rfl (lv_at hl 3 rfl) ?_
                    refine va_get (D := (dC, dI)) (ci := 5) (v := .int 0) (C := RX5) (T := TX5) (N := 17) hx hb hts (by decide +kernel) hown hK hP 0 rfl rfl 0 (by decide) (hts (.fieldLink RX5 22 "WordGuestModel" "thrown" "I") (by decide +kernel)) (fun _ h9 => h9) rfl dX5_load_30 ?_
                    refine lv_if_ne (tgt := 135) hx hb dX5_load_33 (by decide) (fun c9 => absurd (by decide) c9) (fun c_83 => ?_)
                    refine lv_iload hx hb dX5_load_36 (lv_at hl 0 rfl) ?_
                    refine lv_iconst (v := 2) hx hb dX5_load_38 (by decide) ?_
                    refine lv_icmp_ge (tgt := 46) hx hb dX5_load_39 (by decide) (fun c_84 => ?_) (fun c9 => absurd (by decide) c9)
                    refine lv_iload hx hb dX5_load_46 (lv_at hl 0 rfl) ?_
                    refine lv_iconst (v := 4) hx hb dX5_load_48 (by decide) ?_
                    refine lv_icmp_ge (tgt := 56) hx hb dX5_load_49 (by decide) (fun c_85 => ?_) (fun c9 => absurd (by decide) c9)
                    refine lv_iload hx hb dX5_load_56 (lv_at hl 0 rfl) ?_
                    refine lv_bipush (v := 6) hx hb dX5_load_58 (by decide) ?_
                    refine lv_icmp_ge (tgt := 68) hx hb dX5_load_60 (by decide) (fun c_86 => ?_) (fun c9 => absurd (by decide) c9)
                    refine lv_iload hx hb dX5_load_68 (lv_at hl 0 rfl) ?_
                    refine lv_bipush (v := 8) hx hb dX5_load_70 (by decide) ?_
                    refine lv_icmp_ge (tgt := 80) hx hb dX5_load_72 (by decide) (fun c_87 => ?_) (fun c9 => absurd (by decide) c9)
                    refine lv_iload hx hb dX5_load_80 (lv_at hl 9 rfl) ?_
                    refine lv_istore (lv' := [(9, .int a4), (8, .int 8), (7, .int nv_78), (0, .ref m0), (1, .int pl), (2, .int a0), (3, .int a1), (4, .int a2), (5, .int a3), (6, .int a4)]) hx hb dX5_load_82 hl (by decide) rfl (fun ls hl => ?_)
                    refine lv_iload_n hx hb dX5_load_84 rfl (lv_at hl 4 rfl) ?_
                    refine lv_iconst (v := 2) hx hb dX5_load_85 (by decide) ?_
                    refine lv_iload hx hb dX5_load_86 (lv_at hl 1 rfl) ?_
                    refine lv_imul hx hb dX5_load_88 ?_
                    refine q_toc (y := 16) (by decide) ?_
                    refine lv_iadd hx hb dX5_load_89 ?_
                    refine lv_sipush (v := 4096) hx hb dX5_load_90 (by decide) ?_
                    refine q_meet (fun H locs ls => ∃ (n9 : Int32) (f9 : Nat → Int32), n9 = nv_78 + dn (pl + 16) ∧ okB f9 ∧ va_P (dC, dI) vwCl [(m0, .inr (5, [.int 0, .ref mB, .ref mR, .int x_flags, .ref mO, .int x_outCount, .int x_steps, .ref mN, .int x_nowFlags, .int x_writePlace, .int x_writeSize, .int x_writeValue, .int x_fault, .int x_halt, .int x_isByte, .int x_atRegister, .int x_atPlace])), (mB, .inl (cY, 4096, .inl f9))] H ∧ va_D A [(m0, .inr (5, [.int 0, .ref mB, .ref mR, .int x_flags, .ref mO, .int x_outCount, .int x_steps, .ref mN, .int x_nowFlags, .int x_writePlace, .int x_writeSize, .int x_writeValue, .int x_fault, .int x_halt, .int x_isByte, .int x_atRegister, .int x_atPlace])), (mB, .inl (cY, 4096, .inl f9))] ∧ va_S A s.heap H locs ∧ lv_has ls 10 [(9, .int a4), (8, .int 8), (7, .int n9), (0, .ref m0), (1, .int pl), (2, .int a0), (3, .int a1), (4, .int a2), (5, .int a3), (6, .int a4)]) 129 [] (fun H locs ls hJ => ?_) (fun jn => ?_)
                    · obtain ⟨nv_89, f_90, hn_91, hB_92, hP, hD, hS, hl⟩ := hJ
                      refine lv_iinc (v := 9) (lv' := [(8, .int 9), (9, .int a4), (7, .int nv_89), (0, .ref m0), (1, .int pl), (2, .int a0), (3, .int a1), (4, .int a2), (5, .int a3), (6, .int a4)]) hx hb dX5_load_129 hl (k := 1) rfl (by decide) (by decide) rfl (fun ls hl => ?_)
                      refine lv_goto (tgt := 22) hx hb dX5_load_132 (by decide) ?_
                      refine lv_iload hx hb dX5_load_22 (lv_at hl 0 rfl) ?_
                      refine lv_bipush (v := 10) hx hb dX5_load_24 (by decide) ?_
                      refine lv_icmp_ge (tgt := 135) hx hb dX5_load_26 (by decide) (fun c9 => absurd c9 (by decide)) (fun c_93 => ?_)
                      refine lv_aload_n hx hb dX5_load_29 rfl (lv_at hl 3 rfl) ?_
                      refine va_get (D := (dC, dI)) (ci := 5) (v := .int 0) (C := RX5) (T := TX5) (N := 17) hx hb hts (by decide +kernel) hown hK hP 0 rfl rfl 0 (by decide) (hts (.fieldLink RX5 22 "WordGuestModel" "thrown" "I") (by decide +kernel)) (fun _ h9 => h9) rfl dX5_load_30 ?_
                      refine lv_if_ne (tgt := 135) hx hb dX5_load_33 (by decide) (fun c9 => absurd (by decide) c9) (fun c_94 => ?_)
                      refine lv_iload hx hb dX5_load_36 (lv_at hl 0 rfl) ?_
                      refine lv_iconst (v := 2) hx hb dX5_load_38 (by decide) ?_
                      refine lv_icmp_ge (tgt := 46) hx hb dX5_load_39 (by decide) (fun c_95 => ?_) (fun c9 => absurd (by decide) c9)
                      refine lv_iload hx hb dX5_load_46 (lv_at hl 0 rfl) ?_
                      refine lv_iconst (v := 4) hx hb dX5_load_48 (by decide) ?_
                      refine lv_icmp_ge (tgt := 56) hx hb dX5_load_49 (by decide) (fun c_96 => ?_) (fun c9 => absurd (by decide) c9)
                      refine lv_iload hx hb dX5_load_56 (lv_at hl 0 rfl) ?_
                      refine lv_bipush (v := 6) hx hb dX5_load_58 (by decide) ?_
                      refine lv_icmp_ge (tgt := 68) hx hb dX5_load_60 (by decide) (fun c_97 => ?_) (fun c9 => absurd (by decide) c9)
                      refine lv_iload hx hb dX5_load_68 (lv_at hl 0 rfl) ?_
                      refine lv_bipush (v := 8) hx hb dX5_load_70 (by decide) ?_
                      refine lv_icmp_ge (tgt := 80) hx hb dX5_load_72 (by decide) (fun c_98 => ?_) (fun c9 => absurd (by decide) c9)
                      refine lv_iload hx hb dX5_load_80 (lv_at hl 9 rfl) ?_
                      refine lv_istore (lv' := [(9, .int a4), (8, .int 9), (7, .int nv_89), (0, .ref m0), (1, .int pl), (2, .int a0), (3, .int a1), (4, .int a2), (5, .int a3), (6, .int a4)]) hx hb dX5_load_82 hl (by decide) rfl (fun ls hl => ?_)
                      refine lv_iload_n hx hb dX5_load_84 rfl (lv_at hl 4 rfl) ?_
                      refine lv_iconst (v := 2) hx hb dX5_load_85 (by decide) ?_
                      refine lv_iload hx hb dX5_load_86 (lv_at hl 1 rfl) ?_
                      refine lv_imul hx hb dX5_load_88 ?_
                      refine q_toc (y := 18) (by decide) ?_
                      refine lv_iadd hx hb dX5_load_89 ?_
                      refine lv_sipush (v := 4096) hx hb dX5_load_90 (by decide) ?_
                      refine q_meet (fun H locs ls => ∃ (n9 : Int32) (f9 : Nat → Int32), n9 = nv_89 + dn (pl + 18) ∧ okB f9 ∧ va_P (dC, dI) vwCl [(m0, .inr (5, [.int 0, .ref mB, .ref mR, .int x_flags, .ref mO, .int x_outCount, .int x_steps, .ref mN, .int x_nowFlags, .int x_writePlace, .int x_writeSize, .int x_writeValue, .int x_fault, .int x_halt, .int x_isByte, .int x_atRegister, .int x_atPlace])), (mB, .inl (cY, 4096, .inl f9))] H ∧ va_D A [(m0, .inr (5, [.int 0, .ref mB, .ref mR, .int x_flags, .ref mO, .int x_outCount, .int x_steps, .ref mN, .int x_nowFlags, .int x_writePlace, .int x_writeSize, .int x_writeValue, .int x_fault, .int x_halt, .int x_isByte, .int x_atRegister, .int x_atPlace])), (mB, .inl (cY, 4096, .inl f9))] ∧ va_S A s.heap H locs ∧ lv_has ls 10 [(9, .int a4), (8, .int 9), (7, .int n9), (0, .ref m0), (1, .int pl), (2, .int a0), (3, .int a1), (4, .int a2), (5, .int a3), (6, .int a4)]) 129 [] (fun H locs ls hJ => ?_) (fun jn => ?_)
                      · obtain ⟨nv_100, f_101, hn_102, hB_103, hP, hD, hS, hl⟩ := hJ
                        refine lv_iinc (v := 10) (lv' := [(8, .int 10), (9, .int a4), (7, .int nv_100), (0, .ref m0), (1, .int pl), (2, .int a0), (3, .int a1), (4, .int a2), (5, .int a3), (6, .int a4)]) hx hb dX5_load_129 hl (k := 1) rfl (by decide) (by decide) rfl (fun ls hl => ?_)
                        refine lv_goto (tgt := 22) hx hb dX5_load_132 (by decide) ?_
                        refine lv_iload hx hb dX5_load_22 (lv_at hl 0 rfl) ?_
                        refine lv_bipush (v := 10) hx hb dX5_load_24 (by decide) ?_
                        refine lv_icmp_ge (tgt := 135) hx hb dX5_load_26 (by decide) (fun c_104 => ?_) (fun c9 => absurd (by decide) c9)
                        refine lv_iload hx hb dX5_load_135 (lv_at hl 2 rfl) ?_
                        have hP9 := hP.sub (ws' := [(m0, .inr (5, [.int 0, .ref mB, .ref mR, .int x_flags, .ref mO, .int x_outCount, .int x_steps, .ref mN, .int x_nowFlags, .int x_writePlace, .int x_writeSize, .int x_writeValue, .int x_fault, .int x_halt, .int x_isByte, .int x_atRegister, .int x_atPlace])), (mB, .inl (cY, 4096, .inl f_101))]) [0, 1] rfl
                        have hD9 := hD.sub (ws' := [(m0, .inr (5, [.int 0, .ref mB, .ref mR, .int x_flags, .ref mO, .int x_outCount, .int x_steps, .ref mN, .int x_nowFlags, .int x_writePlace, .int x_writeSize, .int x_writeValue, .int x_fault, .int x_halt, .int x_isByte, .int x_atRegister, .int x_atPlace])), (mB, .inl (cY, 4096, .inl f_101))]) [0, 1] (by decide) rfl
                        have hK9 := hK.sub (tys' := [(cY, .int)]) [0] rfl
                        exact W.iret (v := nv_100) hx hb hr (fun t ht hW => ⟨⟨nv_100, (0, f_101), rfl, Or.inl ⟨c_3, rfl, hB_103, by rw [hn_102, hn_91, hn_80, hn_69, hn_58, hn_48, hn_38, hn_29, hn_20, hn_12]⟩, by rw [ht]; exact hP9, va_K.moved hW.alike hK9, hD9⟩, hS.F ht⟩) hS.2.2 dX5_load_137
                      refine lv_icmp_ge (tgt := 129) hx hb dX5_load_93 (by decide) (fun c_99 => ?_) (fun c_99 => ?_)
                      · exact jn _ _ _ ⟨nv_89, f_90, (by unfold dn; rw [if_pos c_99] <;> first | decide | exact (Int32.add_zero _).symm), hB_92, hP, hD, hS, hl⟩
                      · refine lv_aload_n hx hb dX5_load_96 rfl (lv_at hl 3 rfl) ?_
                        refine lv_iload_n hx hb dX5_load_97 rfl (lv_at hl 4 rfl) ?_
                        refine lv_iconst (v := 2) hx hb dX5_load_98 (by decide) ?_
                        refine lv_iload hx hb dX5_load_99 (lv_at hl 1 rfl) ?_
                        refine lv_imul hx hb dX5_load_101 ?_
                        refine q_toc (y := 18) (by decide) ?_
                        refine lv_iadd hx hb dX5_load_102 ?_
                        refine lv_iload hx hb dX5_load_103 (lv_at hl 1 rfl) ?_
                        refine lv_iconst (v := 2) hx hb dX5_load_105 (by decide) ?_
                        refine lv_irem hx hb dX5_load_106 (by decide) ?_
                        refine q_toc (y := 1) (by decide) ?_
                        refine lv_if_ne (tgt := 118) hx hb dX5_load_107 (by decide) (fun c_105 => ?_) (fun c9 => absurd c9 (by decide))
                        refine lv_iload hx hb dX5_load_118 (lv_at hl 0 rfl) ?_
                        refine lv_ldc (v := 65535) hx hb hown (hts (.constant RX5 30 (65535)) (by decide +kernel)) dX5_load_120 ?_
                        refine lv_iand hx hb dX5_load_122 ?_
                        have hPc := hP.sub (ws' := [(m0, .inr (5, [.int 0, .ref mB, .ref mR, .int x_flags, .ref mO, .int x_outCount, .int x_steps, .ref mN, .int x_nowFlags, .int x_writePlace, .int x_writeSize, .int x_writeValue, .int x_fault, .int x_halt, .int x_isByte, .int x_atRegister, .int x_atPlace])), (mB, .inl (cY, 4096, .inl f_90))]) [0, 1] rfl
                        have hDc := hD.sub (ws' := [(m0, .inr (5, [.int 0, .ref mB, .ref mR, .int x_flags, .ref mO, .int x_outCount, .int x_steps, .ref mN, .int x_nowFlags, .int x_writePlace, .int x_writeSize, .int x_writeValue, .int x_fault, .int x_halt, .int x_isByte, .int x_atRegister, .int x_atPlace])), (mB, .inl (cY, 4096, .inl f_90))]) [0, 1] (by decide) rfl
                        have hKc := hK.sub (tys' := [(cY, .int)]) [0] rfl
                        have hFc := va_free (wc := [(m0, .inr (5, [.int 0, .ref mB, .ref mR, .int x_flags, .ref mO, .int x_outCount, .int x_steps, .ref mN, .int x_nowFlags, .int x_writePlace, .int x_writeSize, .int x_writeValue, .int x_fault, .int x_halt, .int x_isByte, .int x_atRegister, .int x_atPlace])), (mB, .inl (cY, 4096, .inl f_90))]) hD hS hA [0, 1] rfl
                        refine va_callv (va_runV (C := RX5) (b := m0) (As := [.int (pl + 18), .int (a4 &&& 65535)]) (rest := []) ⟨hx, hb, hml, hown, hts⟩ (s_X5_setWord l dC dI H.size m0 (pl + 18) (a4 &&& 65535) (0 : Int32) mB mR x_flags mO x_outCount x_steps mN x_nowFlags x_writePlace x_writeSize x_writeValue x_fault x_halt x_isByte x_atRegister x_atPlace cY f_90 ((iw_ink (k := 18) (by decide) (by decide) (by decide) (by decide) c_3 c_99).1) ((iw_ink (k := 18) (by decide) (by decide) (by decide) (by decide) c_3 c_99).2) hB_92) (cwV 2 hts gX5_load_X5_setWord rfl rfl rfl (by decide +kernel) ⟨Nat.le_of_ble_eq_true rfl, Nat.le_of_ble_eq_true rfl⟩) ⟨q_blind, va_recv hK hP (ci := 5) (q0 := 0) rfl rfl, fun U hU hW => ⟨rfl, q_pay hU hW hPc hKc hDc hN⟩⟩ rfl rfl hl.1 rfl (lv_room (Nat.le_of_ble_eq_true rfl)) dX5_load_123 ⟨show 0 + 0 ≤ 0 from by omega, show 0 + 0 ≤ 0 from by omega⟩) hS (fun q _ h => hFc q h) hFc (fun u9 t H locs ht hvm hw_107 hB hz1 hk1 hS => ?_)
                        obtain ⟨bf2_108, rfl⟩ : ∃ z, z = u9 := ⟨_, rfl⟩
                        obtain ⟨hP1, hK1, hD1⟩ := hB
                        rw [ht] at hP1
                        obtain ⟨hP, hD⟩ := va_join (wr := []) (w1 := [(m0, .inr (5, [.int 0, .ref mB, .ref mR, .int x_flags, .ref mO, .int x_outCount, .int x_steps, .ref mN, .int x_nowFlags, .int x_writePlace, .int x_writeSize, .int x_writeValue, .int x_fault, .int x_halt, .int x_isByte, .int x_atRegister, .int x_atPlace])), (mB, .inl (cY, 4096, .inl bf2_108))]) hP hD [0, 1] [] rfl rfl (by decide) (by decide) hk1 hFc hP1 hD1
                        have hP : va_P (dC, dI) vwCl [(m0, .inr (5, [.int 0, .ref mB, .ref mR, .int x_flags, .ref mO, .int x_outCount, .int x_steps, .ref mN, .int x_nowFlags, .int x_writePlace, .int x_writeSize, .int x_writeValue, .int x_fault, .int x_halt, .int x_isByte, .int x_atRegister, .int x_atPlace])), (mB, .inl (cY, 4096, .inl bf2_108))] H := hP
                        have hD : va_D A [(m0, .inr (5, [.int 0, .ref mB, .ref mR, .int x_flags, .ref mO, .int x_outCount, .int x_steps, .ref mN, .int x_nowFlags, .int x_writePlace, .int x_writeSize, .int x_writeValue, .int x_fault, .int x_halt, .int x_isByte, .int x_atRegister, .int x_atPlace])), (mB, .inl (cY, 4096, .inl bf2_108))] := hD
                        refine W.widen (k := 0) (n := 0) (by omega) (by omega) ?_
                        try dsimp only at hw_107
                        refine lv_iinc (v := nv_89 + 1) (lv' := [(7, .int (nv_89 + 1)), (9, .int a4), (8, .int 9), (0, .ref m0), (1, .int pl), (2, .int a0), (3, .int a1), (4, .int a2), (5, .int a3), (6, .int a4)]) hx hb dX5_load_126 hl (k := 2) rfl (by rfl) (by decide) rfl (fun ls hl => ?_)
                        exact jn _ _ _ ⟨nv_89 + 1, _, (by unfold dn; rw [if_neg c_99] <;> first | rfl | decide), hw_107, hP, hD, hS, lv_sub hl [1, 2, 0, 3, 4, 5, 6, 7, 8, 9] rfl⟩
                    refine lv_icmp_ge (tgt := 129) hx hb dX5_load_93 (by decide) (fun c_88 => ?_) (fun c_88 => ?_)
                    · exact jn _ _ _ ⟨nv_78, f_79, (by unfold dn; rw [if_pos c_88] <;> first | decide | exact (Int32.add_zero _).symm), hB_81, hP, hD, hS, hl⟩
                    · refine lv_aload_n hx hb dX5_load_96 rfl (lv_at hl 3 rfl) ?_
                      refine lv_iload_n hx hb dX5_load_97 rfl (lv_at hl 4 rfl) ?_
                      refine lv_iconst (v := 2) hx hb dX5_load_98 (by decide) ?_
                      refine lv_iload hx hb dX5_load_99 (lv_at hl 1 rfl) ?_
                      refine lv_imul hx hb dX5_load_101 ?_
                      refine q_toc (y := 16) (by decide) ?_
                      refine lv_iadd hx hb dX5_load_102 ?_
                      refine lv_iload hx hb dX5_load_103 (lv_at hl 1 rfl) ?_
                      refine lv_iconst (v := 2) hx hb dX5_load_105 (by decide) ?_
                      refine lv_irem hx hb dX5_load_106 (by decide) ?_
                      refine q_toc (y := 0) (by decide) ?_
                      refine lv_if_ne (tgt := 118) hx hb dX5_load_107 (by decide) (fun c9 => absurd (by decide) c9) (fun c_109 => ?_)
                      refine lv_iload hx hb dX5_load_110 (lv_at hl 0 rfl) ?_
                      refine lv_bipush (v := 16) hx hb dX5_load_112 (by decide) ?_
                      refine lv_iushr (v := (a4.toUInt32 >>> (Int32.toUInt32 16 &&& Int32.toUInt32 31)).toInt32) hx hb dX5_load_114 rfl ?_
                      refine lv_goto (tgt := 123) hx hb dX5_load_115 (by decide) ?_
                      have hPc := hP.sub (ws' := [(m0, .inr (5, [.int 0, .ref mB, .ref mR, .int x_flags, .ref mO, .int x_outCount, .int x_steps, .ref mN, .int x_nowFlags, .int x_writePlace, .int x_writeSize, .int x_writeValue, .int x_fault, .int x_halt, .int x_isByte, .int x_atRegister, .int x_atPlace])), (mB, .inl (cY, 4096, .inl f_79))]) [0, 1] rfl
                      have hDc := hD.sub (ws' := [(m0, .inr (5, [.int 0, .ref mB, .ref mR, .int x_flags, .ref mO, .int x_outCount, .int x_steps, .ref mN, .int x_nowFlags, .int x_writePlace, .int x_writeSize, .int x_writeValue, .int x_fault, .int x_halt, .int x_isByte, .int x_atRegister, .int x_atPlace])), (mB, .inl (cY, 4096, .inl f_79))]) [0, 1] (by decide) rfl
                      have hKc := hK.sub (tys' := [(cY, .int)]) [0] rfl
                      have hFc := va_free (wc := [(m0, .inr (5, [.int 0, .ref mB, .ref mR, .int x_flags, .ref mO, .int x_outCount, .int x_steps, .ref mN, .int x_nowFlags, .int x_writePlace, .int x_writeSize, .int x_writeValue, .int x_fault, .int x_halt, .int x_isByte, .int x_atRegister, .int x_atPlace])), (mB, .inl (cY, 4096, .inl f_79))]) hD hS hA [0, 1] rfl
                      refine va_callv (va_runV (C := RX5) (b := m0) (As := [.int (pl + 16), .int ((a4.toUInt32 >>> (Int32.toUInt32 16 &&& Int32.toUInt32 31)).toInt32)]) (rest := []) ⟨hx, hb, hml, hown, hts⟩ (s_X5_setWord l dC dI H.size m0 (pl + 16) ((a4.toUInt32 >>> (Int32.toUInt32 16 &&& Int32.toUInt32 31)).toInt32) (0 : Int32) mB mR x_flags mO x_outCount x_steps mN x_nowFlags x_writePlace x_writeSize x_writeValue x_fault x_halt x_isByte x_atRegister x_atPlace cY f_79 ((iw_ink (k := 16) (by decide) (by decide) (by decide) (by decide) c_3 c_88).1) ((iw_ink (k := 16) (by decide) (by decide) (by decide) (by decide) c_3 c_88).2) hB_81) (cwV 2 hts gX5_load_X5_setWord rfl rfl rfl (by decide +kernel) ⟨Nat.le_of_ble_eq_true rfl, Nat.le_of_ble_eq_true rfl⟩) ⟨q_blind, va_recv hK hP (ci := 5) (q0 := 0) rfl rfl, fun U hU hW => ⟨rfl, q_pay hU hW hPc hKc hDc hN⟩⟩ rfl rfl hl.1 rfl (lv_room (Nat.le_of_ble_eq_true rfl)) dX5_load_123 ⟨show 0 + 0 ≤ 0 from by omega, show 0 + 0 ≤ 0 from by omega⟩) hS (fun q _ h => hFc q h) hFc (fun u9 t H locs ht hvm hw_111 hB hz1 hk1 hS => ?_)
                      obtain ⟨bf2_112, rfl⟩ : ∃ z, z = u9 := ⟨_, rfl⟩
                      obtain ⟨hP1, hK1, hD1⟩ := hB
                      rw [ht] at hP1
                      obtain ⟨hP, hD⟩ := va_join (wr := []) (w1 := [(m0, .inr (5, [.int 0, .ref mB, .ref mR, .int x_flags, .ref mO, .int x_outCount, .int x_steps, .ref mN, .int x_nowFlags, .int x_writePlace, .int x_writeSize, .int x_writeValue, .int x_fault, .int x_halt, .int x_isByte, .int x_atRegister, .int x_atPlace])), (mB, .inl (cY, 4096, .inl bf2_112))]) hP hD [0, 1] [] rfl rfl (by decide) (by decide) hk1 hFc hP1 hD1
                      have hP : va_P (dC, dI) vwCl [(m0, .inr (5, [.int 0, .ref mB, .ref mR, .int x_flags, .ref mO, .int x_outCount, .int x_steps, .ref mN, .int x_nowFlags, .int x_writePlace, .int x_writeSize, .int x_writeValue, .int x_fault, .int x_halt, .int x_isByte, .int x_atRegister, .int x_atPlace])), (mB, .inl (cY, 4096, .inl bf2_112))] H := hP
                      have hD : va_D A [(m0, .inr (5, [.int 0, .ref mB, .ref mR, .int x_flags, .ref mO, .int x_outCount, .int x_steps, .ref mN, .int x_nowFlags, .int x_writePlace, .int x_writeSize, .int x_writeValue, .int x_fault, .int x_halt, .int x_isByte, .int x_atRegister, .int x_atPlace])), (mB, .inl (cY, 4096, .inl bf2_112))] := hD
                      refine W.widen (k := 0) (n := 0) (by omega) (by omega) ?_
                      try dsimp only at hw_111
                      refine lv_iinc (v := nv_78 + 1) (lv' := [(7, .int (nv_78 + 1)), (9, .int a4), (8, .int 8), (0, .ref m0), (1, .int pl), (2, .int a0), (3, .int a1), (4, .int a2), (5, .int a3), (6, .int a4)]) hx hb dX5_load_126 hl (k := 2) rfl (by rfl) (by decide) rfl (fun ls hl => ?_)
                      exact jn _ _ _ ⟨nv_78 + 1, _, (by unfold dn; rw [if_neg c_88] <;> first | rfl | decide), hw_111, hP, hD, hS, lv_sub hl [1, 2, 0, 3, 4, 5, 6, 7, 8, 9] rfl⟩
                  refine lv_icmp_ge (tgt := 129) hx hb dX5_load_93 (by decide) (fun c_77 => ?_) (fun c_77 => ?_)
                  · exact jn _ _ _ ⟨nv_67, f_68, (by unfold dn; rw [if_pos c_77] <;> first | decide | exact (Int32.add_zero _).symm), hB_70, hP, hD, hS, hl⟩
                  · refine lv_aload_n hx hb dX5_load_96 rfl (lv_at hl 3 rfl) ?_
                    refine lv_iload_n hx hb dX5_load_97 rfl (lv_at hl 4 rfl) ?_
                    refine lv_iconst (v := 2) hx hb dX5_load_98 (by decide) ?_
                    refine lv_iload hx hb dX5_load_99 (lv_at hl 1 rfl) ?_
                    refine lv_imul hx hb dX5_load_101 ?_
                    refine q_toc (y := 14) (by decide) ?_
                    refine lv_iadd hx hb dX5_load_102 ?_
                    refine lv_iload hx hb dX5_load_103 (lv_at hl 1 rfl) ?_
                    refine lv_iconst (v := 2) hx hb dX5_load_105 (by decide) ?_
                    refine lv_irem hx hb dX5_load_106 (by decide) ?_
                    refine q_toc (y := 1) (by decide) ?_
                    refine lv_if_ne (tgt := 118) hx hb dX5_load_107 (by decide) (fun c_113 => ?_) (fun c9 => absurd c9 (by decide))
                    refine lv_iload hx hb dX5_load_118 (lv_at hl 0 rfl) ?_
                    refine lv_ldc (v := 65535) hx hb hown (hts (.constant RX5 30 (65535)) (by decide +kernel)) dX5_load_120 ?_
                    refine lv_iand hx hb dX5_load_122 ?_
                    have hPc := hP.sub (ws' := [(m0, .inr (5, [.int 0, .ref mB, .ref mR, .int x_flags, .ref mO, .int x_outCount, .int x_steps, .ref mN, .int x_nowFlags, .int x_writePlace, .int x_writeSize, .int x_writeValue, .int x_fault, .int x_halt, .int x_isByte, .int x_atRegister, .int x_atPlace])), (mB, .inl (cY, 4096, .inl f_68))]) [0, 1] rfl
                    have hDc := hD.sub (ws' := [(m0, .inr (5, [.int 0, .ref mB, .ref mR, .int x_flags, .ref mO, .int x_outCount, .int x_steps, .ref mN, .int x_nowFlags, .int x_writePlace, .int x_writeSize, .int x_writeValue, .int x_fault, .int x_halt, .int x_isByte, .int x_atRegister, .int x_atPlace])), (mB, .inl (cY, 4096, .inl f_68))]) [0, 1] (by decide) rfl
                    have hKc := hK.sub (tys' := [(cY, .int)]) [0] rfl
                    have hFc := va_free (wc := [(m0, .inr (5, [.int 0, .ref mB, .ref mR, .int x_flags, .ref mO, .int x_outCount, .int x_steps, .ref mN, .int x_nowFlags, .int x_writePlace, .int x_writeSize, .int x_writeValue, .int x_fault, .int x_halt, .int x_isByte, .int x_atRegister, .int x_atPlace])), (mB, .inl (cY, 4096, .inl f_68))]) hD hS hA [0, 1] rfl
                    refine va_callv (va_runV (C := RX5) (b := m0) (As := [.int (pl + 14), .int (a3 &&& 65535)]) (rest := []) ⟨hx, hb, hml, hown, hts⟩ (s_X5_setWord l dC dI H.size m0 (pl + 14) (a3 &&& 65535) (0 : Int32) mB mR x_flags mO x_outCount x_steps mN x_nowFlags x_writePlace x_writeSize x_writeValue x_fault x_halt x_isByte x_atRegister x_atPlace cY f_68 ((iw_ink (k := 14) (by decide) (by decide) (by decide) (by decide) c_3 c_77).1) ((iw_ink (k := 14) (by decide) (by decide) (by decide) (by decide) c_3 c_77).2) hB_70) (cwV 2 hts gX5_load_X5_setWord rfl rfl rfl (by decide +kernel) ⟨Nat.le_of_ble_eq_true rfl, Nat.le_of_ble_eq_true rfl⟩) ⟨q_blind, va_recv hK hP (ci := 5) (q0 := 0) rfl rfl, fun U hU hW => ⟨rfl, q_pay hU hW hPc hKc hDc hN⟩⟩ rfl rfl hl.1 rfl (lv_room (Nat.le_of_ble_eq_true rfl)) dX5_load_123 ⟨show 0 + 0 ≤ 0 from by omega, show 0 + 0 ≤ 0 from by omega⟩) hS (fun q _ h => hFc q h) hFc (fun u9 t H locs ht hvm hw_115 hB hz1 hk1 hS => ?_)
                    obtain ⟨bf2_116, rfl⟩ : ∃ z, z = u9 := ⟨_, rfl⟩
                    obtain ⟨hP1, hK1, hD1⟩ := hB
                    rw [ht] at hP1
                    obtain ⟨hP, hD⟩ := va_join (wr := []) (w1 := [(m0, .inr (5, [.int 0, .ref mB, .ref mR, .int x_flags, .ref mO, .int x_outCount, .int x_steps, .ref mN, .int x_nowFlags, .int x_writePlace, .int x_writeSize, .int x_writeValue, .int x_fault, .int x_halt, .int x_isByte, .int x_atRegister, .int x_atPlace])), (mB, .inl (cY, 4096, .inl bf2_116))]) hP hD [0, 1] [] rfl rfl (by decide) (by decide) hk1 hFc hP1 hD1
                    have hP : va_P (dC, dI) vwCl [(m0, .inr (5, [.int 0, .ref mB, .ref mR, .int x_flags, .ref mO, .int x_outCount, .int x_steps, .ref mN, .int x_nowFlags, .int x_writePlace, .int x_writeSize, .int x_writeValue, .int x_fault, .int x_halt, .int x_isByte, .int x_atRegister, .int x_atPlace])), (mB, .inl (cY, 4096, .inl bf2_116))] H := hP
                    have hD : va_D A [(m0, .inr (5, [.int 0, .ref mB, .ref mR, .int x_flags, .ref mO, .int x_outCount, .int x_steps, .ref mN, .int x_nowFlags, .int x_writePlace, .int x_writeSize, .int x_writeValue, .int x_fault, .int x_halt, .int x_isByte, .int x_atRegister, .int x_atPlace])), (mB, .inl (cY, 4096, .inl bf2_116))] := hD
                    refine W.widen (k := 0) (n := 0) (by omega) (by omega) ?_
                    try dsimp only at hw_115
                    refine lv_iinc (v := nv_67 + 1) (lv' := [(7, .int (nv_67 + 1)), (9, .int a3), (8, .int 7), (0, .ref m0), (1, .int pl), (2, .int a0), (3, .int a1), (4, .int a2), (5, .int a3), (6, .int a4)]) hx hb dX5_load_126 hl (k := 2) rfl (by rfl) (by decide) rfl (fun ls hl => ?_)
                    exact jn _ _ _ ⟨nv_67 + 1, _, (by unfold dn; rw [if_neg c_77] <;> first | rfl | decide), hw_115, hP, hD, hS, lv_sub hl [1, 2, 0, 3, 4, 5, 6, 7, 8, 9] rfl⟩
                refine lv_icmp_ge (tgt := 129) hx hb dX5_load_93 (by decide) (fun c_66 => ?_) (fun c_66 => ?_)
                · exact jn _ _ _ ⟨nv_56, f_57, (by unfold dn; rw [if_pos c_66] <;> first | decide | exact (Int32.add_zero _).symm), hB_59, hP, hD, hS, hl⟩
                · refine lv_aload_n hx hb dX5_load_96 rfl (lv_at hl 3 rfl) ?_
                  refine lv_iload_n hx hb dX5_load_97 rfl (lv_at hl 4 rfl) ?_
                  refine lv_iconst (v := 2) hx hb dX5_load_98 (by decide) ?_
                  refine lv_iload hx hb dX5_load_99 (lv_at hl 1 rfl) ?_
                  refine lv_imul hx hb dX5_load_101 ?_
                  refine q_toc (y := 12) (by decide) ?_
                  refine lv_iadd hx hb dX5_load_102 ?_
                  refine lv_iload hx hb dX5_load_103 (lv_at hl 1 rfl) ?_
                  refine lv_iconst (v := 2) hx hb dX5_load_105 (by decide) ?_
                  refine lv_irem hx hb dX5_load_106 (by decide) ?_
                  refine q_toc (y := 0) (by decide) ?_
                  refine lv_if_ne (tgt := 118) hx hb dX5_load_107 (by decide) (fun c9 => absurd (by decide) c9) (fun c_117 => ?_)
                  refine lv_iload hx hb dX5_load_110 (lv_at hl 0 rfl) ?_
                  refine lv_bipush (v := 16) hx hb dX5_load_112 (by decide) ?_
                  refine lv_iushr (v := (a3.toUInt32 >>> (Int32.toUInt32 16 &&& Int32.toUInt32 31)).toInt32) hx hb dX5_load_114 rfl ?_
                  refine lv_goto (tgt := 123) hx hb dX5_load_115 (by decide) ?_
                  have hPc := hP.sub (ws' := [(m0, .inr (5, [.int 0, .ref mB, .ref mR, .int x_flags, .ref mO, .int x_outCount, .int x_steps, .ref mN, .int x_nowFlags, .int x_writePlace, .int x_writeSize, .int x_writeValue, .int x_fault, .int x_halt, .int x_isByte, .int x_atRegister, .int x_atPlace])), (mB, .inl (cY, 4096, .inl f_57))]) [0, 1] rfl
                  have hDc := hD.sub (ws' := [(m0, .inr (5, [.int 0, .ref mB, .ref mR, .int x_flags, .ref mO, .int x_outCount, .int x_steps, .ref mN, .int x_nowFlags, .int x_writePlace, .int x_writeSize, .int x_writeValue, .int x_fault, .int x_halt, .int x_isByte, .int x_atRegister, .int x_atPlace])), (mB, .inl (cY, 4096, .inl f_57))]) [0, 1] (by decide) rfl
                  have hKc := hK.sub (tys' := [(cY, .int)]) [0] rfl
                  have hFc := va_free (wc := [(m0, .inr (5, [.int 0, .ref mB, .ref mR, .int x_flags, .ref mO, .int x_outCount, .int x_steps, .ref mN, .int x_nowFlags, .int x_writePlace, .int x_writeSize, .int x_writeValue, .int x_fault, .int x_halt, .int x_isByte, .int x_atRegister, .int x_atPlace])), (mB, .inl (cY, 4096, .inl f_57))]) hD hS hA [0, 1] rfl
                  refine va_callv (va_runV (C := RX5) (b := m0) (As := [.int (pl + 12), .int ((a3.toUInt32 >>> (Int32.toUInt32 16 &&& Int32.toUInt32 31)).toInt32)]) (rest := []) ⟨hx, hb, hml, hown, hts⟩ (s_X5_setWord l dC dI H.size m0 (pl + 12) ((a3.toUInt32 >>> (Int32.toUInt32 16 &&& Int32.toUInt32 31)).toInt32) (0 : Int32) mB mR x_flags mO x_outCount x_steps mN x_nowFlags x_writePlace x_writeSize x_writeValue x_fault x_halt x_isByte x_atRegister x_atPlace cY f_57 ((iw_ink (k := 12) (by decide) (by decide) (by decide) (by decide) c_3 c_66).1) ((iw_ink (k := 12) (by decide) (by decide) (by decide) (by decide) c_3 c_66).2) hB_59) (cwV 2 hts gX5_load_X5_setWord rfl rfl rfl (by decide +kernel) ⟨Nat.le_of_ble_eq_true rfl, Nat.le_of_ble_eq_true rfl⟩) ⟨q_blind, va_recv hK hP (ci := 5) (q0 := 0) rfl rfl, fun U hU hW => ⟨rfl, q_pay hU hW hPc hKc hDc hN⟩⟩ rfl rfl hl.1 rfl (lv_room (Nat.le_of_ble_eq_true rfl)) dX5_load_123 ⟨show 0 + 0 ≤ 0 from by omega, show 0 + 0 ≤ 0 from by omega⟩) hS (fun q _ h => hFc q h) hFc (fun u9 t H locs ht hvm hw_119 hB hz1 hk1 hS => ?_)
                  obtain ⟨bf2_120, rfl⟩ : ∃ z, z = u9 := ⟨_, rfl⟩
                  obtain ⟨hP1, hK1, hD1⟩ := hB
                  rw [ht] at hP1
                  obtain ⟨hP, hD⟩ := va_join (wr := []) (w1 := [(m0, .inr (5, [.int 0, .ref mB, .ref mR, .int x_flags, .ref mO, .int x_outCount, .int x_steps, .ref mN, .int x_nowFlags, .int x_writePlace, .int x_writeSize, .int x_writeValue, .int x_fault, .int x_halt, .int x_isByte, .int x_atRegister, .int x_atPlace])), (mB, .inl (cY, 4096, .inl bf2_120))]) hP hD [0, 1] [] rfl rfl (by decide) (by decide) hk1 hFc hP1 hD1
                  have hP : va_P (dC, dI) vwCl [(m0, .inr (5, [.int 0, .ref mB, .ref mR, .int x_flags, .ref mO, .int x_outCount, .int x_steps, .ref mN, .int x_nowFlags, .int x_writePlace, .int x_writeSize, .int x_writeValue, .int x_fault, .int x_halt, .int x_isByte, .int x_atRegister, .int x_atPlace])), (mB, .inl (cY, 4096, .inl bf2_120))] H := hP
                  have hD : va_D A [(m0, .inr (5, [.int 0, .ref mB, .ref mR, .int x_flags, .ref mO, .int x_outCount, .int x_steps, .ref mN, .int x_nowFlags, .int x_writePlace, .int x_writeSize, .int x_writeValue, .int x_fault, .int x_halt, .int x_isByte, .int x_atRegister, .int x_atPlace])), (mB, .inl (cY, 4096, .inl bf2_120))] := hD
                  refine W.widen (k := 0) (n := 0) (by omega) (by omega) ?_
                  try dsimp only at hw_119
                  refine lv_iinc (v := nv_56 + 1) (lv' := [(7, .int (nv_56 + 1)), (9, .int a3), (8, .int 6), (0, .ref m0), (1, .int pl), (2, .int a0), (3, .int a1), (4, .int a2), (5, .int a3), (6, .int a4)]) hx hb dX5_load_126 hl (k := 2) rfl (by rfl) (by decide) rfl (fun ls hl => ?_)
                  exact jn _ _ _ ⟨nv_56 + 1, _, (by unfold dn; rw [if_neg c_66] <;> first | rfl | decide), hw_119, hP, hD, hS, lv_sub hl [1, 2, 0, 3, 4, 5, 6, 7, 8, 9] rfl⟩
              refine lv_icmp_ge (tgt := 129) hx hb dX5_load_93 (by decide) (fun c_55 => ?_) (fun c_55 => ?_)
              · exact jn _ _ _ ⟨nv_46, f_47, (by unfold dn; rw [if_pos c_55] <;> first | decide | exact (Int32.add_zero _).symm), hB_49, hP, hD, hS, hl⟩
              · refine lv_aload_n hx hb dX5_load_96 rfl (lv_at hl 3 rfl) ?_
                refine lv_iload_n hx hb dX5_load_97 rfl (lv_at hl 4 rfl) ?_
                refine lv_iconst (v := 2) hx hb dX5_load_98 (by decide) ?_
                refine lv_iload hx hb dX5_load_99 (lv_at hl 1 rfl) ?_
                refine lv_imul hx hb dX5_load_101 ?_
                refine q_toc (y := 10) (by decide) ?_
                refine lv_iadd hx hb dX5_load_102 ?_
                refine lv_iload hx hb dX5_load_103 (lv_at hl 1 rfl) ?_
                refine lv_iconst (v := 2) hx hb dX5_load_105 (by decide) ?_
                refine lv_irem hx hb dX5_load_106 (by decide) ?_
                refine q_toc (y := 1) (by decide) ?_
                refine lv_if_ne (tgt := 118) hx hb dX5_load_107 (by decide) (fun c_121 => ?_) (fun c9 => absurd c9 (by decide))
                refine lv_iload hx hb dX5_load_118 (lv_at hl 0 rfl) ?_
                refine lv_ldc (v := 65535) hx hb hown (hts (.constant RX5 30 (65535)) (by decide +kernel)) dX5_load_120 ?_
                refine lv_iand hx hb dX5_load_122 ?_
                have hPc := hP.sub (ws' := [(m0, .inr (5, [.int 0, .ref mB, .ref mR, .int x_flags, .ref mO, .int x_outCount, .int x_steps, .ref mN, .int x_nowFlags, .int x_writePlace, .int x_writeSize, .int x_writeValue, .int x_fault, .int x_halt, .int x_isByte, .int x_atRegister, .int x_atPlace])), (mB, .inl (cY, 4096, .inl f_47))]) [0, 1] rfl
                have hDc := hD.sub (ws' := [(m0, .inr (5, [.int 0, .ref mB, .ref mR, .int x_flags, .ref mO, .int x_outCount, .int x_steps, .ref mN, .int x_nowFlags, .int x_writePlace, .int x_writeSize, .int x_writeValue, .int x_fault, .int x_halt, .int x_isByte, .int x_atRegister, .int x_atPlace])), (mB, .inl (cY, 4096, .inl f_47))]) [0, 1] (by decide) rfl
                have hKc := hK.sub (tys' := [(cY, .int)]) [0] rfl
                have hFc := va_free (wc := [(m0, .inr (5, [.int 0, .ref mB, .ref mR, .int x_flags, .ref mO, .int x_outCount, .int x_steps, .ref mN, .int x_nowFlags, .int x_writePlace, .int x_writeSize, .int x_writeValue, .int x_fault, .int x_halt, .int x_isByte, .int x_atRegister, .int x_atPlace])), (mB, .inl (cY, 4096, .inl f_47))]) hD hS hA [0, 1] rfl
                refine va_callv (va_runV (C := RX5) (b := m0) (As := [.int (pl + 10), .int (a2 &&& 65535)]) (rest := []) ⟨hx, hb, hml, hown, hts⟩ (s_X5_setWord l dC dI H.size m0 (pl + 10) (a2 &&& 65535) (0 : Int32) mB mR x_flags mO x_outCount x_steps mN x_nowFlags x_writePlace x_writeSize x_writeValue x_fault x_halt x_isByte x_atRegister x_atPlace cY f_47 ((iw_ink (k := 10) (by decide) (by decide) (by decide) (by decide) c_3 c_55).1) ((iw_ink (k := 10) (by decide) (by decide) (by decide) (by decide) c_3 c_55).2) hB_49) (cwV 2 hts gX5_load_X5_setWord rfl rfl rfl (by decide +kernel) ⟨Nat.le_of_ble_eq_true rfl, Nat.le_of_ble_eq_true rfl⟩) ⟨q_blind, va_recv hK hP (ci := 5) (q0 := 0) rfl rfl, fun U hU hW => ⟨rfl, q_pay hU hW hPc hKc hDc hN⟩⟩ rfl rfl hl.1 rfl (lv_room (Nat.le_of_ble_eq_true rfl)) dX5_load_123 ⟨show 0 + 0 ≤ 0 from by omega, show 0 + 0 ≤ 0 from by omega⟩) hS (fun q _ h => hFc q h) hFc (fun u9 t H locs ht hvm hw_123 hB hz1 hk1 hS => ?_)
                obtain ⟨bf2_124, rfl⟩ : ∃ z, z = u9 := ⟨_, rfl⟩
                obtain ⟨hP1, hK1, hD1⟩ := hB
                rw [ht] at hP1
                obtain ⟨hP, hD⟩ := va_join (wr := []) (w1 := [(m0, .inr (5, [.int 0, .ref mB, .ref mR, .int x_flags, .ref mO, .int x_outCount, .int x_steps, .ref mN, .int x_nowFlags, .int x_writePlace, .int x_writeSize, .int x_writeValue, .int x_fault, .int x_halt, .int x_isByte, .int x_atRegister, .int x_atPlace])), (mB, .inl (cY, 4096, .inl bf2_124))]) hP hD [0, 1] [] rfl rfl (by decide) (by decide) hk1 hFc hP1 hD1
                have hP : va_P (dC, dI) vwCl [(m0, .inr (5, [.int 0, .ref mB, .ref mR, .int x_flags, .ref mO, .int x_outCount, .int x_steps, .ref mN, .int x_nowFlags, .int x_writePlace, .int x_writeSize, .int x_writeValue, .int x_fault, .int x_halt, .int x_isByte, .int x_atRegister, .int x_atPlace])), (mB, .inl (cY, 4096, .inl bf2_124))] H := hP
                have hD : va_D A [(m0, .inr (5, [.int 0, .ref mB, .ref mR, .int x_flags, .ref mO, .int x_outCount, .int x_steps, .ref mN, .int x_nowFlags, .int x_writePlace, .int x_writeSize, .int x_writeValue, .int x_fault, .int x_halt, .int x_isByte, .int x_atRegister, .int x_atPlace])), (mB, .inl (cY, 4096, .inl bf2_124))] := hD
                refine W.widen (k := 0) (n := 0) (by omega) (by omega) ?_
                try dsimp only at hw_123
                refine lv_iinc (v := nv_46 + 1) (lv' := [(7, .int (nv_46 + 1)), (9, .int a2), (8, .int 5), (0, .ref m0), (1, .int pl), (2, .int a0), (3, .int a1), (4, .int a2), (5, .int a3), (6, .int a4)]) hx hb dX5_load_126 hl (k := 2) rfl (by rfl) (by decide) rfl (fun ls hl => ?_)
                exact jn _ _ _ ⟨nv_46 + 1, _, (by unfold dn; rw [if_neg c_55] <;> first | rfl | decide), hw_123, hP, hD, hS, lv_sub hl [1, 2, 0, 3, 4, 5, 6, 7, 8, 9] rfl⟩
            refine lv_icmp_ge (tgt := 129) hx hb dX5_load_93 (by decide) (fun c_45 => ?_) (fun c_45 => ?_)
            · exact jn _ _ _ ⟨nv_36, f_37, (by unfold dn; rw [if_pos c_45] <;> first | decide | exact (Int32.add_zero _).symm), hB_39, hP, hD, hS, hl⟩
            · refine lv_aload_n hx hb dX5_load_96 rfl (lv_at hl 3 rfl) ?_
              refine lv_iload_n hx hb dX5_load_97 rfl (lv_at hl 4 rfl) ?_
              refine lv_iconst (v := 2) hx hb dX5_load_98 (by decide) ?_
              refine lv_iload hx hb dX5_load_99 (lv_at hl 1 rfl) ?_
              refine lv_imul hx hb dX5_load_101 ?_
              refine q_toc (y := 8) (by decide) ?_
              refine lv_iadd hx hb dX5_load_102 ?_
              refine lv_iload hx hb dX5_load_103 (lv_at hl 1 rfl) ?_
              refine lv_iconst (v := 2) hx hb dX5_load_105 (by decide) ?_
              refine lv_irem hx hb dX5_load_106 (by decide) ?_
              refine q_toc (y := 0) (by decide) ?_
              refine lv_if_ne (tgt := 118) hx hb dX5_load_107 (by decide) (fun c9 => absurd (by decide) c9) (fun c_125 => ?_)
              refine lv_iload hx hb dX5_load_110 (lv_at hl 0 rfl) ?_
              refine lv_bipush (v := 16) hx hb dX5_load_112 (by decide) ?_
              refine lv_iushr (v := (a2.toUInt32 >>> (Int32.toUInt32 16 &&& Int32.toUInt32 31)).toInt32) hx hb dX5_load_114 rfl ?_
              refine lv_goto (tgt := 123) hx hb dX5_load_115 (by decide) ?_
              have hPc := hP.sub (ws' := [(m0, .inr (5, [.int 0, .ref mB, .ref mR, .int x_flags, .ref mO, .int x_outCount, .int x_steps, .ref mN, .int x_nowFlags, .int x_writePlace, .int x_writeSize, .int x_writeValue, .int x_fault, .int x_halt, .int x_isByte, .int x_atRegister, .int x_atPlace])), (mB, .inl (cY, 4096, .inl f_37))]) [0, 1] rfl
              have hDc := hD.sub (ws' := [(m0, .inr (5, [.int 0, .ref mB, .ref mR, .int x_flags, .ref mO, .int x_outCount, .int x_steps, .ref mN, .int x_nowFlags, .int x_writePlace, .int x_writeSize, .int x_writeValue, .int x_fault, .int x_halt, .int x_isByte, .int x_atRegister, .int x_atPlace])), (mB, .inl (cY, 4096, .inl f_37))]) [0, 1] (by decide) rfl
              have hKc := hK.sub (tys' := [(cY, .int)]) [0] rfl
              have hFc := va_free (wc := [(m0, .inr (5, [.int 0, .ref mB, .ref mR, .int x_flags, .ref mO, .int x_outCount, .int x_steps, .ref mN, .int x_nowFlags, .int x_writePlace, .int x_writeSize, .int x_writeValue, .int x_fault, .int x_halt, .int x_isByte, .int x_atRegister, .int x_atPlace])), (mB, .inl (cY, 4096, .inl f_37))]) hD hS hA [0, 1] rfl
              refine va_callv (va_runV (C := RX5) (b := m0) (As := [.int (pl + 8), .int ((a2.toUInt32 >>> (Int32.toUInt32 16 &&& Int32.toUInt32 31)).toInt32)]) (rest := []) ⟨hx, hb, hml, hown, hts⟩ (s_X5_setWord l dC dI H.size m0 (pl + 8) ((a2.toUInt32 >>> (Int32.toUInt32 16 &&& Int32.toUInt32 31)).toInt32) (0 : Int32) mB mR x_flags mO x_outCount x_steps mN x_nowFlags x_writePlace x_writeSize x_writeValue x_fault x_halt x_isByte x_atRegister x_atPlace cY f_37 ((iw_ink (k := 8) (by decide) (by decide) (by decide) (by decide) c_3 c_45).1) ((iw_ink (k := 8) (by decide) (by decide) (by decide) (by decide) c_3 c_45).2) hB_39) (cwV 2 hts gX5_load_X5_setWord rfl rfl rfl (by decide +kernel) ⟨Nat.le_of_ble_eq_true rfl, Nat.le_of_ble_eq_true rfl⟩) ⟨q_blind, va_recv hK hP (ci := 5) (q0 := 0) rfl rfl, fun U hU hW => ⟨rfl, q_pay hU hW hPc hKc hDc hN⟩⟩ rfl rfl hl.1 rfl (lv_room (Nat.le_of_ble_eq_true rfl)) dX5_load_123 ⟨show 0 + 0 ≤ 0 from by omega, show 0 + 0 ≤ 0 from by omega⟩) hS (fun q _ h => hFc q h) hFc (fun u9 t H locs ht hvm hw_127 hB hz1 hk1 hS => ?_)
              obtain ⟨bf2_128, rfl⟩ : ∃ z, z = u9 := ⟨_, rfl⟩
              obtain ⟨hP1, hK1, hD1⟩ := hB
              rw [ht] at hP1
              obtain ⟨hP, hD⟩ := va_join (wr := []) (w1 := [(m0, .inr (5, [.int 0, .ref mB, .ref mR, .int x_flags, .ref mO, .int x_outCount, .int x_steps, .ref mN, .int x_nowFlags, .int x_writePlace, .int x_writeSize, .int x_writeValue, .int x_fault, .int x_halt, .int x_isByte, .int x_atRegister, .int x_atPlace])), (mB, .inl (cY, 4096, .inl bf2_128))]) hP hD [0, 1] [] rfl rfl (by decide) (by decide) hk1 hFc hP1 hD1
              have hP : va_P (dC, dI) vwCl [(m0, .inr (5, [.int 0, .ref mB, .ref mR, .int x_flags, .ref mO, .int x_outCount, .int x_steps, .ref mN, .int x_nowFlags, .int x_writePlace, .int x_writeSize, .int x_writeValue, .int x_fault, .int x_halt, .int x_isByte, .int x_atRegister, .int x_atPlace])), (mB, .inl (cY, 4096, .inl bf2_128))] H := hP
              have hD : va_D A [(m0, .inr (5, [.int 0, .ref mB, .ref mR, .int x_flags, .ref mO, .int x_outCount, .int x_steps, .ref mN, .int x_nowFlags, .int x_writePlace, .int x_writeSize, .int x_writeValue, .int x_fault, .int x_halt, .int x_isByte, .int x_atRegister, .int x_atPlace])), (mB, .inl (cY, 4096, .inl bf2_128))] := hD
              refine W.widen (k := 0) (n := 0) (by omega) (by omega) ?_
              try dsimp only at hw_127
              refine lv_iinc (v := nv_36 + 1) (lv' := [(7, .int (nv_36 + 1)), (9, .int a2), (8, .int 4), (0, .ref m0), (1, .int pl), (2, .int a0), (3, .int a1), (4, .int a2), (5, .int a3), (6, .int a4)]) hx hb dX5_load_126 hl (k := 2) rfl (by rfl) (by decide) rfl (fun ls hl => ?_)
              exact jn _ _ _ ⟨nv_36 + 1, _, (by unfold dn; rw [if_neg c_45] <;> first | rfl | decide), hw_127, hP, hD, hS, lv_sub hl [1, 2, 0, 3, 4, 5, 6, 7, 8, 9] rfl⟩
          refine lv_icmp_ge (tgt := 129) hx hb dX5_load_93 (by decide) (fun c_35 => ?_) (fun c_35 => ?_)
          · exact jn _ _ _ ⟨nv_27, f_28, (by unfold dn; rw [if_pos c_35] <;> first | decide | exact (Int32.add_zero _).symm), hB_30, hP, hD, hS, hl⟩
          · refine lv_aload_n hx hb dX5_load_96 rfl (lv_at hl 3 rfl) ?_
            refine lv_iload_n hx hb dX5_load_97 rfl (lv_at hl 4 rfl) ?_
            refine lv_iconst (v := 2) hx hb dX5_load_98 (by decide) ?_
            refine lv_iload hx hb dX5_load_99 (lv_at hl 1 rfl) ?_
            refine lv_imul hx hb dX5_load_101 ?_
            refine q_toc (y := 6) (by decide) ?_
            refine lv_iadd hx hb dX5_load_102 ?_
            refine lv_iload hx hb dX5_load_103 (lv_at hl 1 rfl) ?_
            refine lv_iconst (v := 2) hx hb dX5_load_105 (by decide) ?_
            refine lv_irem hx hb dX5_load_106 (by decide) ?_
            refine q_toc (y := 1) (by decide) ?_
            refine lv_if_ne (tgt := 118) hx hb dX5_load_107 (by decide) (fun c_129 => ?_) (fun c9 => absurd c9 (by decide))
            refine lv_iload hx hb dX5_load_118 (lv_at hl 0 rfl) ?_
            refine lv_ldc (v := 65535) hx hb hown (hts (.constant RX5 30 (65535)) (by decide +kernel)) dX5_load_120 ?_
            refine lv_iand hx hb dX5_load_122 ?_
            have hPc := hP.sub (ws' := [(m0, .inr (5, [.int 0, .ref mB, .ref mR, .int x_flags, .ref mO, .int x_outCount, .int x_steps, .ref mN, .int x_nowFlags, .int x_writePlace, .int x_writeSize, .int x_writeValue, .int x_fault, .int x_halt, .int x_isByte, .int x_atRegister, .int x_atPlace])), (mB, .inl (cY, 4096, .inl f_28))]) [0, 1] rfl
            have hDc := hD.sub (ws' := [(m0, .inr (5, [.int 0, .ref mB, .ref mR, .int x_flags, .ref mO, .int x_outCount, .int x_steps, .ref mN, .int x_nowFlags, .int x_writePlace, .int x_writeSize, .int x_writeValue, .int x_fault, .int x_halt, .int x_isByte, .int x_atRegister, .int x_atPlace])), (mB, .inl (cY, 4096, .inl f_28))]) [0, 1] (by decide) rfl
            have hKc := hK.sub (tys' := [(cY, .int)]) [0] rfl
            have hFc := va_free (wc := [(m0, .inr (5, [.int 0, .ref mB, .ref mR, .int x_flags, .ref mO, .int x_outCount, .int x_steps, .ref mN, .int x_nowFlags, .int x_writePlace, .int x_writeSize, .int x_writeValue, .int x_fault, .int x_halt, .int x_isByte, .int x_atRegister, .int x_atPlace])), (mB, .inl (cY, 4096, .inl f_28))]) hD hS hA [0, 1] rfl
            refine va_callv (va_runV (C := RX5) (b := m0) (As := [.int (pl + 6), .int (a1 &&& 65535)]) (rest := []) ⟨hx, hb, hml, hown, hts⟩ (s_X5_setWord l dC dI H.size m0 (pl + 6) (a1 &&& 65535) (0 : Int32) mB mR x_flags mO x_outCount x_steps mN x_nowFlags x_writePlace x_writeSize x_writeValue x_fault x_halt x_isByte x_atRegister x_atPlace cY f_28 ((iw_ink (k := 6) (by decide) (by decide) (by decide) (by decide) c_3 c_35).1) ((iw_ink (k := 6) (by decide) (by decide) (by decide) (by decide) c_3 c_35).2) hB_30) (cwV 2 hts gX5_load_X5_setWord rfl rfl rfl (by decide +kernel) ⟨Nat.le_of_ble_eq_true rfl, Nat.le_of_ble_eq_true rfl⟩) ⟨q_blind, va_recv hK hP (ci := 5) (q0 := 0) rfl rfl, fun U hU hW => ⟨rfl, q_pay hU hW hPc hKc hDc hN⟩⟩ rfl rfl hl.1 rfl (lv_room (Nat.le_of_ble_eq_true rfl)) dX5_load_123 ⟨show 0 + 0 ≤ 0 from by omega, show 0 + 0 ≤ 0 from by omega⟩) hS (fun q _ h => hFc q h) hFc (fun u9 t H locs ht hvm hw_131 hB hz1 hk1 hS => ?_)
            obtain ⟨bf2_132, rfl⟩ : ∃ z, z = u9 := ⟨_, rfl⟩
            obtain ⟨hP1, hK1, hD1⟩ := hB
            rw [ht] at hP1
            obtain ⟨hP, hD⟩ := va_join (wr := []) (w1 := [(m0, .inr (5, [.int 0, .ref mB, .ref mR, .int x_flags, .ref mO, .int x_outCount, .int x_steps, .ref mN, .int x_nowFlags, .int x_writePlace, .int x_writeSize, .int x_writeValue, .int x_fault, .int x_halt, .int x_isByte, .int x_atRegister, .int x_atPlace])), (mB, .inl (cY, 4096, .inl bf2_132))]) hP hD [0, 1] [] rfl rfl (by decide) (by decide) hk1 hFc hP1 hD1
            have hP : va_P (dC, dI) vwCl [(m0, .inr (5, [.int 0, .ref mB, .ref mR, .int x_flags, .ref mO, .int x_outCount, .int x_steps, .ref mN, .int x_nowFlags, .int x_writePlace, .int x_writeSize, .int x_writeValue, .int x_fault, .int x_halt, .int x_isByte, .int x_atRegister, .int x_atPlace])), (mB, .inl (cY, 4096, .inl bf2_132))] H := hP
            have hD : va_D A [(m0, .inr (5, [.int 0, .ref mB, .ref mR, .int x_flags, .ref mO, .int x_outCount, .int x_steps, .ref mN, .int x_nowFlags, .int x_writePlace, .int x_writeSize, .int x_writeValue, .int x_fault, .int x_halt, .int x_isByte, .int x_atRegister, .int x_atPlace])), (mB, .inl (cY, 4096, .inl bf2_132))] := hD
            refine W.widen (k := 0) (n := 0) (by omega) (by omega) ?_
            try dsimp only at hw_131
            refine lv_iinc (v := nv_27 + 1) (lv' := [(7, .int (nv_27 + 1)), (9, .int a1), (8, .int 3), (0, .ref m0), (1, .int pl), (2, .int a0), (3, .int a1), (4, .int a2), (5, .int a3), (6, .int a4)]) hx hb dX5_load_126 hl (k := 2) rfl (by rfl) (by decide) rfl (fun ls hl => ?_)
            exact jn _ _ _ ⟨nv_27 + 1, _, (by unfold dn; rw [if_neg c_35] <;> first | rfl | decide), hw_131, hP, hD, hS, lv_sub hl [1, 2, 0, 3, 4, 5, 6, 7, 8, 9] rfl⟩
        refine lv_icmp_ge (tgt := 129) hx hb dX5_load_93 (by decide) (fun c_26 => ?_) (fun c_26 => ?_)
        · exact jn _ _ _ ⟨nv_18, f_19, (by unfold dn; rw [if_pos c_26] <;> first | decide | exact (Int32.add_zero _).symm), hB_21, hP, hD, hS, hl⟩
        · refine lv_aload_n hx hb dX5_load_96 rfl (lv_at hl 3 rfl) ?_
          refine lv_iload_n hx hb dX5_load_97 rfl (lv_at hl 4 rfl) ?_
          refine lv_iconst (v := 2) hx hb dX5_load_98 (by decide) ?_
          refine lv_iload hx hb dX5_load_99 (lv_at hl 1 rfl) ?_
          refine lv_imul hx hb dX5_load_101 ?_
          refine q_toc (y := 4) (by decide) ?_
          refine lv_iadd hx hb dX5_load_102 ?_
          refine lv_iload hx hb dX5_load_103 (lv_at hl 1 rfl) ?_
          refine lv_iconst (v := 2) hx hb dX5_load_105 (by decide) ?_
          refine lv_irem hx hb dX5_load_106 (by decide) ?_
          refine q_toc (y := 0) (by decide) ?_
          refine lv_if_ne (tgt := 118) hx hb dX5_load_107 (by decide) (fun c9 => absurd (by decide) c9) (fun c_133 => ?_)
          refine lv_iload hx hb dX5_load_110 (lv_at hl 0 rfl) ?_
          refine lv_bipush (v := 16) hx hb dX5_load_112 (by decide) ?_
          refine lv_iushr (v := (a1.toUInt32 >>> (Int32.toUInt32 16 &&& Int32.toUInt32 31)).toInt32) hx hb dX5_load_114 rfl ?_
          refine lv_goto (tgt := 123) hx hb dX5_load_115 (by decide) ?_
          have hPc := hP.sub (ws' := [(m0, .inr (5, [.int 0, .ref mB, .ref mR, .int x_flags, .ref mO, .int x_outCount, .int x_steps, .ref mN, .int x_nowFlags, .int x_writePlace, .int x_writeSize, .int x_writeValue, .int x_fault, .int x_halt, .int x_isByte, .int x_atRegister, .int x_atPlace])), (mB, .inl (cY, 4096, .inl f_19))]) [0, 1] rfl
          have hDc := hD.sub (ws' := [(m0, .inr (5, [.int 0, .ref mB, .ref mR, .int x_flags, .ref mO, .int x_outCount, .int x_steps, .ref mN, .int x_nowFlags, .int x_writePlace, .int x_writeSize, .int x_writeValue, .int x_fault, .int x_halt, .int x_isByte, .int x_atRegister, .int x_atPlace])), (mB, .inl (cY, 4096, .inl f_19))]) [0, 1] (by decide) rfl
          have hKc := hK.sub (tys' := [(cY, .int)]) [0] rfl
          have hFc := va_free (wc := [(m0, .inr (5, [.int 0, .ref mB, .ref mR, .int x_flags, .ref mO, .int x_outCount, .int x_steps, .ref mN, .int x_nowFlags, .int x_writePlace, .int x_writeSize, .int x_writeValue, .int x_fault, .int x_halt, .int x_isByte, .int x_atRegister, .int x_atPlace])), (mB, .inl (cY, 4096, .inl f_19))]) hD hS hA [0, 1] rfl
          refine va_callv (va_runV (C := RX5) (b := m0) (As := [.int (pl + 4), .int ((a1.toUInt32 >>> (Int32.toUInt32 16 &&& Int32.toUInt32 31)).toInt32)]) (rest := []) ⟨hx, hb, hml, hown, hts⟩ (s_X5_setWord l dC dI H.size m0 (pl + 4) ((a1.toUInt32 >>> (Int32.toUInt32 16 &&& Int32.toUInt32 31)).toInt32) (0 : Int32) mB mR x_flags mO x_outCount x_steps mN x_nowFlags x_writePlace x_writeSize x_writeValue x_fault x_halt x_isByte x_atRegister x_atPlace cY f_19 ((iw_ink (k := 4) (by decide) (by decide) (by decide) (by decide) c_3 c_26).1) ((iw_ink (k := 4) (by decide) (by decide) (by decide) (by decide) c_3 c_26).2) hB_21) (cwV 2 hts gX5_load_X5_setWord rfl rfl rfl (by decide +kernel) ⟨Nat.le_of_ble_eq_true rfl, Nat.le_of_ble_eq_true rfl⟩) ⟨q_blind, va_recv hK hP (ci := 5) (q0 := 0) rfl rfl, fun U hU hW => ⟨rfl, q_pay hU hW hPc hKc hDc hN⟩⟩ rfl rfl hl.1 rfl (lv_room (Nat.le_of_ble_eq_true rfl)) dX5_load_123 ⟨show 0 + 0 ≤ 0 from by omega, show 0 + 0 ≤ 0 from by omega⟩) hS (fun q _ h => hFc q h) hFc (fun u9 t H locs ht hvm hw_135 hB hz1 hk1 hS => ?_)
          obtain ⟨bf2_136, rfl⟩ : ∃ z, z = u9 := ⟨_, rfl⟩
          obtain ⟨hP1, hK1, hD1⟩ := hB
          rw [ht] at hP1
          obtain ⟨hP, hD⟩ := va_join (wr := []) (w1 := [(m0, .inr (5, [.int 0, .ref mB, .ref mR, .int x_flags, .ref mO, .int x_outCount, .int x_steps, .ref mN, .int x_nowFlags, .int x_writePlace, .int x_writeSize, .int x_writeValue, .int x_fault, .int x_halt, .int x_isByte, .int x_atRegister, .int x_atPlace])), (mB, .inl (cY, 4096, .inl bf2_136))]) hP hD [0, 1] [] rfl rfl (by decide) (by decide) hk1 hFc hP1 hD1
          have hP : va_P (dC, dI) vwCl [(m0, .inr (5, [.int 0, .ref mB, .ref mR, .int x_flags, .ref mO, .int x_outCount, .int x_steps, .ref mN, .int x_nowFlags, .int x_writePlace, .int x_writeSize, .int x_writeValue, .int x_fault, .int x_halt, .int x_isByte, .int x_atRegister, .int x_atPlace])), (mB, .inl (cY, 4096, .inl bf2_136))] H := hP
          have hD : va_D A [(m0, .inr (5, [.int 0, .ref mB, .ref mR, .int x_flags, .ref mO, .int x_outCount, .int x_steps, .ref mN, .int x_nowFlags, .int x_writePlace, .int x_writeSize, .int x_writeValue, .int x_fault, .int x_halt, .int x_isByte, .int x_atRegister, .int x_atPlace])), (mB, .inl (cY, 4096, .inl bf2_136))] := hD
          refine W.widen (k := 0) (n := 0) (by omega) (by omega) ?_
          try dsimp only at hw_135
          refine lv_iinc (v := nv_18 + 1) (lv' := [(7, .int (nv_18 + 1)), (9, .int a1), (8, .int 2), (0, .ref m0), (1, .int pl), (2, .int a0), (3, .int a1), (4, .int a2), (5, .int a3), (6, .int a4)]) hx hb dX5_load_126 hl (k := 2) rfl (by rfl) (by decide) rfl (fun ls hl => ?_)
          exact jn _ _ _ ⟨nv_18 + 1, _, (by unfold dn; rw [if_neg c_26] <;> first | rfl | decide), hw_135, hP, hD, hS, lv_sub hl [1, 2, 0, 3, 4, 5, 6, 7, 8, 9] rfl⟩
      refine lv_icmp_ge (tgt := 129) hx hb dX5_load_93 (by decide) (fun c_17 => ?_) (fun c_17 => ?_)
      · exact jn _ _ _ ⟨nv_10, f_11, (by unfold dn; rw [if_pos c_17] <;> first | decide | exact (Int32.add_zero _).symm), hB_13, hP, hD, hS, hl⟩
      · refine lv_aload_n hx hb dX5_load_96 rfl (lv_at hl 3 rfl) ?_
        refine lv_iload_n hx hb dX5_load_97 rfl (lv_at hl 4 rfl) ?_
        refine lv_iconst (v := 2) hx hb dX5_load_98 (by decide) ?_
        refine lv_iload hx hb dX5_load_99 (lv_at hl 1 rfl) ?_
        refine lv_imul hx hb dX5_load_101 ?_
        refine q_toc (y := 2) (by decide) ?_
        refine lv_iadd hx hb dX5_load_102 ?_
        refine lv_iload hx hb dX5_load_103 (lv_at hl 1 rfl) ?_
        refine lv_iconst (v := 2) hx hb dX5_load_105 (by decide) ?_
        refine lv_irem hx hb dX5_load_106 (by decide) ?_
        refine q_toc (y := 1) (by decide) ?_
        refine lv_if_ne (tgt := 118) hx hb dX5_load_107 (by decide) (fun c_137 => ?_) (fun c9 => absurd c9 (by decide))
        refine lv_iload hx hb dX5_load_118 (lv_at hl 0 rfl) ?_
        refine lv_ldc (v := 65535) hx hb hown (hts (.constant RX5 30 (65535)) (by decide +kernel)) dX5_load_120 ?_
        refine lv_iand hx hb dX5_load_122 ?_
        have hPc := hP.sub (ws' := [(m0, .inr (5, [.int 0, .ref mB, .ref mR, .int x_flags, .ref mO, .int x_outCount, .int x_steps, .ref mN, .int x_nowFlags, .int x_writePlace, .int x_writeSize, .int x_writeValue, .int x_fault, .int x_halt, .int x_isByte, .int x_atRegister, .int x_atPlace])), (mB, .inl (cY, 4096, .inl f_11))]) [0, 1] rfl
        have hDc := hD.sub (ws' := [(m0, .inr (5, [.int 0, .ref mB, .ref mR, .int x_flags, .ref mO, .int x_outCount, .int x_steps, .ref mN, .int x_nowFlags, .int x_writePlace, .int x_writeSize, .int x_writeValue, .int x_fault, .int x_halt, .int x_isByte, .int x_atRegister, .int x_atPlace])), (mB, .inl (cY, 4096, .inl f_11))]) [0, 1] (by decide) rfl
        have hKc := hK.sub (tys' := [(cY, .int)]) [0] rfl
        have hFc := va_free (wc := [(m0, .inr (5, [.int 0, .ref mB, .ref mR, .int x_flags, .ref mO, .int x_outCount, .int x_steps, .ref mN, .int x_nowFlags, .int x_writePlace, .int x_writeSize, .int x_writeValue, .int x_fault, .int x_halt, .int x_isByte, .int x_atRegister, .int x_atPlace])), (mB, .inl (cY, 4096, .inl f_11))]) hD hS hA [0, 1] rfl
        refine va_callv (va_runV (C := RX5) (b := m0) (As := [.int (pl + 2), .int (a0 &&& 65535)]) (rest := []) ⟨hx, hb, hml, hown, hts⟩ (s_X5_setWord l dC dI H.size m0 (pl + 2) (a0 &&& 65535) (0 : Int32) mB mR x_flags mO x_outCount x_steps mN x_nowFlags x_writePlace x_writeSize x_writeValue x_fault x_halt x_isByte x_atRegister x_atPlace cY f_11 ((iw_ink (k := 2) (by decide) (by decide) (by decide) (by decide) c_3 c_17).1) ((iw_ink (k := 2) (by decide) (by decide) (by decide) (by decide) c_3 c_17).2) hB_13) (cwV 2 hts gX5_load_X5_setWord rfl rfl rfl (by decide +kernel) ⟨Nat.le_of_ble_eq_true rfl, Nat.le_of_ble_eq_true rfl⟩) ⟨q_blind, va_recv hK hP (ci := 5) (q0 := 0) rfl rfl, fun U hU hW => ⟨rfl, q_pay hU hW hPc hKc hDc hN⟩⟩ rfl rfl hl.1 rfl (lv_room (Nat.le_of_ble_eq_true rfl)) dX5_load_123 ⟨show 0 + 0 ≤ 0 from by omega, show 0 + 0 ≤ 0 from by omega⟩) hS (fun q _ h => hFc q h) hFc (fun u9 t H locs ht hvm hw_139 hB hz1 hk1 hS => ?_)
        obtain ⟨bf2_140, rfl⟩ : ∃ z, z = u9 := ⟨_, rfl⟩
        obtain ⟨hP1, hK1, hD1⟩ := hB
        rw [ht] at hP1
        obtain ⟨hP, hD⟩ := va_join (wr := []) (w1 := [(m0, .inr (5, [.int 0, .ref mB, .ref mR, .int x_flags, .ref mO, .int x_outCount, .int x_steps, .ref mN, .int x_nowFlags, .int x_writePlace, .int x_writeSize, .int x_writeValue, .int x_fault, .int x_halt, .int x_isByte, .int x_atRegister, .int x_atPlace])), (mB, .inl (cY, 4096, .inl bf2_140))]) hP hD [0, 1] [] rfl rfl (by decide) (by decide) hk1 hFc hP1 hD1
        have hP : va_P (dC, dI) vwCl [(m0, .inr (5, [.int 0, .ref mB, .ref mR, .int x_flags, .ref mO, .int x_outCount, .int x_steps, .ref mN, .int x_nowFlags, .int x_writePlace, .int x_writeSize, .int x_writeValue, .int x_fault, .int x_halt, .int x_isByte, .int x_atRegister, .int x_atPlace])), (mB, .inl (cY, 4096, .inl bf2_140))] H := hP
        have hD : va_D A [(m0, .inr (5, [.int 0, .ref mB, .ref mR, .int x_flags, .ref mO, .int x_outCount, .int x_steps, .ref mN, .int x_nowFlags, .int x_writePlace, .int x_writeSize, .int x_writeValue, .int x_fault, .int x_halt, .int x_isByte, .int x_atRegister, .int x_atPlace])), (mB, .inl (cY, 4096, .inl bf2_140))] := hD
        refine W.widen (k := 0) (n := 0) (by omega) (by omega) ?_
        try dsimp only at hw_139
        refine lv_iinc (v := nv_10 + 1) (lv' := [(7, .int (nv_10 + 1)), (9, .int a0), (8, .int 1), (0, .ref m0), (1, .int pl), (2, .int a0), (3, .int a1), (4, .int a2), (5, .int a3), (6, .int a4)]) hx hb dX5_load_126 hl (k := 2) rfl (by rfl) (by decide) rfl (fun ls hl => ?_)
        exact jn _ _ _ ⟨nv_10 + 1, _, (by unfold dn; rw [if_neg c_17] <;> first | rfl | decide), hw_139, hP, hD, hS, lv_sub hl [1, 2, 0, 3, 4, 5, 6, 7, 8, 9] rfl⟩
    refine lv_icmp_ge (tgt := 129) hx hb dX5_load_93 (by decide) (fun c_9 => ?_) (fun c_9 => ?_)
    · exact jn _ _ _ ⟨0, bf, (by unfold dn; rw [if_pos c_9] <;> first | decide | exact (Int32.add_zero _).symm), hB, hP, hD, hS, hl⟩
    · refine lv_aload_n hx hb dX5_load_96 rfl (lv_at hl 3 rfl) ?_
      refine lv_iload_n hx hb dX5_load_97 rfl (lv_at hl 4 rfl) ?_
      refine lv_iconst (v := 2) hx hb dX5_load_98 (by decide) ?_
      refine lv_iload hx hb dX5_load_99 (lv_at hl 1 rfl) ?_
      refine lv_imul hx hb dX5_load_101 ?_
      refine q_toc (y := 0) (by decide) ?_
      refine lv_iadd hx hb dX5_load_102 ?_
      refine lv_iload hx hb dX5_load_103 (lv_at hl 1 rfl) ?_
      refine lv_iconst (v := 2) hx hb dX5_load_105 (by decide) ?_
      refine lv_irem hx hb dX5_load_106 (by decide) ?_
      refine q_toc (y := 0) (by decide) ?_
      refine lv_if_ne (tgt := 118) hx hb dX5_load_107 (by decide) (fun c9 => absurd (by decide) c9) (fun c_141 => ?_)
      refine lv_iload hx hb dX5_load_110 (lv_at hl 0 rfl) ?_
      refine lv_bipush (v := 16) hx hb dX5_load_112 (by decide) ?_
      refine lv_iushr (v := (a0.toUInt32 >>> (Int32.toUInt32 16 &&& Int32.toUInt32 31)).toInt32) hx hb dX5_load_114 rfl ?_
      refine lv_goto (tgt := 123) hx hb dX5_load_115 (by decide) ?_
      have hPc := hP.sub (ws' := [(m0, .inr (5, [.int 0, .ref mB, .ref mR, .int x_flags, .ref mO, .int x_outCount, .int x_steps, .ref mN, .int x_nowFlags, .int x_writePlace, .int x_writeSize, .int x_writeValue, .int x_fault, .int x_halt, .int x_isByte, .int x_atRegister, .int x_atPlace])), (mB, .inl (cY, 4096, .inl bf))]) [0, 1] rfl
      have hDc := hD.sub (ws' := [(m0, .inr (5, [.int 0, .ref mB, .ref mR, .int x_flags, .ref mO, .int x_outCount, .int x_steps, .ref mN, .int x_nowFlags, .int x_writePlace, .int x_writeSize, .int x_writeValue, .int x_fault, .int x_halt, .int x_isByte, .int x_atRegister, .int x_atPlace])), (mB, .inl (cY, 4096, .inl bf))]) [0, 1] (by decide) rfl
      have hKc := hK.sub (tys' := [(cY, .int)]) [0] rfl
      have hFc := va_free (wc := [(m0, .inr (5, [.int 0, .ref mB, .ref mR, .int x_flags, .ref mO, .int x_outCount, .int x_steps, .ref mN, .int x_nowFlags, .int x_writePlace, .int x_writeSize, .int x_writeValue, .int x_fault, .int x_halt, .int x_isByte, .int x_atRegister, .int x_atPlace])), (mB, .inl (cY, 4096, .inl bf))]) hD hS hA [0, 1] rfl
      refine va_callv (va_runV (C := RX5) (b := m0) (As := [.int (pl + 0), .int ((a0.toUInt32 >>> (Int32.toUInt32 16 &&& Int32.toUInt32 31)).toInt32)]) (rest := []) ⟨hx, hb, hml, hown, hts⟩ (s_X5_setWord l dC dI H.size m0 (pl + 0) ((a0.toUInt32 >>> (Int32.toUInt32 16 &&& Int32.toUInt32 31)).toInt32) (0 : Int32) mB mR x_flags mO x_outCount x_steps mN x_nowFlags x_writePlace x_writeSize x_writeValue x_fault x_halt x_isByte x_atRegister x_atPlace cY bf ((iw_ink (k := 0) (by decide) (by decide) (by decide) (by decide) c_3 c_9).1) ((iw_ink (k := 0) (by decide) (by decide) (by decide) (by decide) c_3 c_9).2) hB) (cwV 2 hts gX5_load_X5_setWord rfl rfl rfl (by decide +kernel) ⟨Nat.le_of_ble_eq_true rfl, Nat.le_of_ble_eq_true rfl⟩) ⟨q_blind, va_recv hK hP (ci := 5) (q0 := 0) rfl rfl, fun U hU hW => ⟨rfl, q_pay hU hW hPc hKc hDc hN⟩⟩ rfl rfl hl.1 rfl (lv_room (Nat.le_of_ble_eq_true rfl)) dX5_load_123 ⟨show 0 + 0 ≤ 0 from by omega, show 0 + 0 ≤ 0 from by omega⟩) hS (fun q _ h => hFc q h) hFc (fun u9 t H locs ht hvm hw_143 hB hz1 hk1 hS => ?_)
      obtain ⟨bf2_144, rfl⟩ : ∃ z, z = u9 := ⟨_, rfl⟩
      obtain ⟨hP1, hK1, hD1⟩ := hB
      rw [ht] at hP1
      obtain ⟨hP, hD⟩ := va_join (wr := []) (w1 := [(m0, .inr (5, [.int 0, .ref mB, .ref mR, .int x_flags, .ref mO, .int x_outCount, .int x_steps, .ref mN, .int x_nowFlags, .int x_writePlace, .int x_writeSize, .int x_writeValue, .int x_fault, .int x_halt, .int x_isByte, .int x_atRegister, .int x_atPlace])), (mB, .inl (cY, 4096, .inl bf2_144))]) hP hD [0, 1] [] rfl rfl (by decide) (by decide) hk1 hFc hP1 hD1
      have hP : va_P (dC, dI) vwCl [(m0, .inr (5, [.int 0, .ref mB, .ref mR, .int x_flags, .ref mO, .int x_outCount, .int x_steps, .ref mN, .int x_nowFlags, .int x_writePlace, .int x_writeSize, .int x_writeValue, .int x_fault, .int x_halt, .int x_isByte, .int x_atRegister, .int x_atPlace])), (mB, .inl (cY, 4096, .inl bf2_144))] H := hP
      have hD : va_D A [(m0, .inr (5, [.int 0, .ref mB, .ref mR, .int x_flags, .ref mO, .int x_outCount, .int x_steps, .ref mN, .int x_nowFlags, .int x_writePlace, .int x_writeSize, .int x_writeValue, .int x_fault, .int x_halt, .int x_isByte, .int x_atRegister, .int x_atPlace])), (mB, .inl (cY, 4096, .inl bf2_144))] := hD
      refine W.widen (k := 0) (n := 0) (by omega) (by omega) ?_
      try dsimp only at hw_143
      refine lv_iinc (v := 1) (lv' := [(7, .int 1), (9, .int a0), (8, .int 0), (0, .ref m0), (1, .int pl), (2, .int a0), (3, .int a1), (4, .int a2), (5, .int a3), (6, .int a4)]) hx hb dX5_load_126 hl (k := 2) rfl (by decide) (by decide) rfl (fun ls hl => ?_)
      exact jn _ _ _ ⟨1, _, (by unfold dn; rw [if_neg c_9] <;> first | rfl | decide), hw_143, hP, hD, hS, lv_sub hl [1, 2, 0, 3, 4, 5, 6, 7, 8, 9] rfl⟩
