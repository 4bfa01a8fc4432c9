set_option maxHeartbeats 4000000 in
set_option maxRecDepth 100000 in
theorem s_X5_step (l : Launch) (dC : Nat → ClassId) (dI : Nat → Nat → Nat) (sz : Nat) (m0 : Nat) (x_thrown : Int32) (mB : Nat) (mR : Nat) (x_flags : Int32) (mO : Nat) (x_outCount : Int32) (x_steps : Int32) (mN : Nat) (x_nowFlags : Int32) (x_writePlace : Int32) (x_writeSize : Int32) (x_writeValue : Int32) (x_fault : Int32) (x_halt : Int32) (x_isByte : Int32) (x_atRegister : Int32) (x_atPlace : Int32) (cY : ClassId) (bf : Nat → Int32) (cG : ClassId) (rf : Nat → Int32) (cN : ClassId) (nf : Nat → Int32) (cO : ClassId) (uf : Nat → Int32) (hB : okB bf) (hR : okW rf) (hO : ok4 x_outCount) : Met l yX5_step wsX5_step ({ frames := 7, cells := 0, slots := 0, locals := 164 }) (va_Pc [.ref m0] (q_pre dC dI sz [(m0, .inr (5, [.int x_thrown, .ref mB, .ref mR, .int x_flags, .ref mO, .int x_outCount, .int x_steps, .ref mN, .int x_nowFlags, .int x_writePlace, .int x_writeSize, .int x_writeValue, .int x_fault, .int x_halt, .int x_isByte, .int x_atRegister, .int x_atPlace])), (mB, .inl (cY, 4096, .inl bf)), (mR, .inl (cG, 8, .inl rf)), (mN, .inl (cN, 8, .inl nf)), (mO, .inl (cO, 400, .inl uf))] [(cY, .int), (cG, .int), (cN, .int), (cO, .int)])) (va_Qv (fun (u9 : Int32 × Int32 × Int32 × Int32 × Int32 × Int32 × Int32 × Int32 × Int32 × Int32 × Int32 × Int32 × (Nat → Int32) × (Nat → Int32) × (Nat → Int32) × (Nat → Int32)) => (ok4 u9.2.1) ∧ (okB u9.2.2.2.2.2.2.2.2.2.2.2.2.1) ∧ (okW u9.2.2.2.2.2.2.2.2.2.2.2.2.2.1)) (q_at dC dI (va_A [(m0, .inr (5, [.int x_thrown, .ref mB, .ref mR, .int x_flags, .ref mO, .int x_outCount, .int x_steps, .ref mN, .int x_nowFlags, .int x_writePlace, .int x_writeSize, .int x_writeValue, .int x_fault, .int x_halt, .int x_isByte, .int x_atRegister, .int x_atPlace])), (mB, .inl (cY, 4096, .inl bf)), (mR, .inl (cG, 8, .inl rf)), (mN, .inl (cN, 8, .inl nf)), (mO, .inl (cO, 400, .inl uf))] sz) (fun (u9 : Int32 × Int32 × Int32 × Int32 × Int32 × Int32 × Int32 × Int32 × Int32 × Int32 × Int32 × Int32 × (Nat → Int32) × (Nat → Int32) × (Nat → Int32) × (Nat → Int32)) => [(cY, .int), (cG, .int), (cN, .int), (cO, .int)]) (fun (u9 : Int32 × Int32 × Int32 × Int32 × Int32 × Int32 × Int32 × Int32 × Int32 × Int32 × Int32 × Int32 × (Nat → Int32) × (Nat → Int32) × (Nat → Int32) × (Nat → Int32)) => [(m0, .inr (5, [.int x_thrown, .ref mB, .ref mR, .int u9.1, .ref mO, .int u9.2.1, .int u9.2.2.1, .ref mN, .int u9.2.2.2.1, .int u9.2.2.2.2.1, .int u9.2.2.2.2.2.1, .int u9.2.2.2.2.2.2.1, .int u9.2.2.2.2.2.2.2.1, .int u9.2.2.2.2.2.2.2.2.1, .int u9.2.2.2.2.2.2.2.2.2.1, .int u9.2.2.2.2.2.2.2.2.2.2.1, .int u9.2.2.2.2.2.2.2.2.2.2.2.1])), (mB, .inl (cY, 4096, .inl u9.2.2.2.2.2.2.2.2.2.2.2.2.1)), (mR, .inl (cG, 8, .inl u9.2.2.2.2.2.2.2.2.2.2.2.2.2.1)), (mN, .inl (cN, 8, .inl u9.2.2.2.2.2.2.2.2.2.2.2.2.2.2.1)), (mO, .inl (cO, 400, .inl u9.2.2.2.2.2.2.2.2.2.2.2.2.2.2.2))])) (va_A [(m0, .inr (5, [.int x_thrown, .ref mB, .ref mR, .int x_flags, .ref mO, .int x_outCount, .int x_steps, .ref mN, .int x_nowFlags, .int x_writePlace, .int x_writeSize, .int x_writeValue, .int x_fault, .int x_halt, .int x_isByte, .int x_atRegister, .int x_atPlace])), (mB, .inl (cY, 4096, .inl bf)), (mR, .inl (cG, 8, .inl rf)), (mN, .inl (cN, 8, .inl nf)), (mO, .inl (cO, 400, .inl uf))] sz)) 0 0 (va_A [(m0, .inr (5, [.int x_thrown, .ref mB, .ref mR, .int x_flags, .ref mO, .int x_outCount, .int x_steps, .ref mN, .int x_nowFlags, .int x_writePlace, .int x_writeSize, .int x_writeValue, .int x_fault, .int x_halt, .int x_isByte, .int x_atRegister, .int x_atPlace])), (mB, .inl (cY, 4096, .inl bf)), (mR, .inl (cG, 8, .inl rf)), (mN, .inl (cN, 8, .inl nf)), (mO, .inl (cO, 400, .inl uf))] sz) := by
  refine Met.ofW (cc := cX5_step) (maxL := 3) (ret := none) (by decide) rfl ?_
  intro p e s m args below meth c s₁ B hml hv
  obtain ⟨rfl, hsz, hP, hK, hD0, hN⟩ := hv
  have hx := B.exec
  have hb := B.bytes
  have hr := B.returns
  have hts := atoms_spec (ws := wsX5_step) B.pre
  have hown : s.vm.findClass RX5 = some m.cls := findClass_of_methodNamed B.named
  have hlocks := B.notSynchronized
  subst hsz
  have hD := hD0.self (sz := s.heap.size)
  generalize hAe : va_A [(m0, .inr (5, [.int x_thrown, .ref mB, .ref mR, .int x_flags, .ref mO, .int x_outCount, .int x_steps, .ref mN, .int x_nowFlags, .int x_writePlace, .int x_writeSize, .int x_writeValue, .int x_fault, .int x_halt, .int x_isByte, .int x_atRegister, .int x_atPlace])), (mB, .inl (cY, 4096, .inl bf)), (mR, .inl (cG, 8, .inl rf)), (mN, .inl (cN, 8, .inl nf)), (mO, .inl (cO, 400, .inl uf))] s.heap.size = A at hD ⊢
  have hA : ∀ q : Nat, s.heap.size ≤ q → A q := fun q h => by rw [← hAe]; exact Or.inr h
  have hS : va_S A s.heap s.heap [] := va_S.rf
  have hP : va_P (dC, dI) vwCl [(m0, .inr (5, [.int x_thrown, .ref mB, .ref mR, .int x_flags, .ref mO, .int x_outCount, .int x_steps, .ref mN, .int x_nowFlags, .int x_writePlace, .int x_writeSize, .int x_writeValue, .int x_fault, .int x_halt, .int x_isByte, .int x_atRegister, .int x_atPlace])), (mB, .inl (cY, 4096, .inl bf)), (mR, .inl (cG, 8, .inl rf)), (mN, .inl (cN, 8, .inl nf)), (mO, .inl (cO, 400, .inl uf))] s.heap := hP
  have hl := lv_entry ([.ref m0]) (n := 3) (Nat.le_of_ble_eq_true rfl)
  rw [lg_entry_eq]
  generalize (lg_sl ([.ref m0]) ++ List.replicate (3 - (lg_sl ([.ref m0])).length) Slot.unset).toArray = ls at hl ⊢
  have hl : lv_has ls 3 [(0, .ref m0)] := hl
  refine lv_iconst (v := 0) hx hb dX5_step_0 (by decide) ?_
  refine lv_istore_n (lv' := [(1, .int 0), (0, .ref m0)]) hx hb dX5_step_1 rfl hl (by decide) rfl (fun ls hl => ?_)
  refine lv_iload_n hx hb dX5_step_2 rfl (lv_at hl 0 rfl) ?_
  refine lv_bipush (v := 8) hx hb dX5_step_3 (by decide) ?_
  refine lv_icmp_ge (tgt := 26) hx hb dX5_step_5 (by decide) (fun c9 => absurd c9 (by decide)) (fun c_1 => ?_)
  refine lv_aload_n hx hb dX5_step_8 rfl (lv_at hl 1 rfl) ?_
  refine va_get (D := (dC, dI)) (ci := 5) (v := .ref mN) (C := RX5) (T := TX5) (N := 17) hx hb hts (by decide +kernel) hown hK hP 0 rfl rfl 7 (by decide) (hts (.fieldLink RX5 19 "WordGuestModel" "now" "[I") (by decide +kernel)) (fun _ h9 => h9) rfl dX5_step_9 ?_
  refine lv_iload_n hx hb dX5_step_12 rfl (lv_at hl 0 rfl) ?_
  refine lv_aload_n hx hb dX5_step_13 rfl (lv_at hl 1 rfl) ?_
  refine va_get (D := (dC, dI)) (ci := 5) (v := .ref mR) (C := RX5) (T := TX5) (N := 17) hx hb hts (by decide +kernel) hown hK hP 0 rfl rfl 2 (by decide) (hts (.fieldLink RX5 13 "WordGuestModel" "registers" "[I") (by decide +kernel)) (fun _ h9 => h9) rfl dX5_step_14 ?_
  refine lv_iload_n hx hb dX5_step_17 rfl (lv_at hl 0 rfl) ?_
  refine va_iald hx hb hK hP 2 1 rfl rfl (by unfold vp_in; decide) dX5_step_18 ?_
  have hw_2 : isW (rf (0 : Int32).toNatClampNeg) := hR _ (in_lt (by unfold vp_in; decide))
  refine va_iast hx hb hK hP hD hS 3 2 rfl rfl (by unfold vp_in; decide) dX5_step_19 (fun H locs hP hD hS => ?_)
  have hP : va_P (dC, dI) vwCl [(m0, .inr (5, [.int x_thrown, .ref mB, .ref mR, .int x_flags, .ref mO, .int x_outCount, .int x_steps, .ref mN, .int x_nowFlags, .int x_writePlace, .int x_writeSize, .int x_writeValue, .int x_fault, .int x_halt, .int x_isByte, .int x_atRegister, .int x_atPlace])), (mB, .inl (cY, 4096, .inl bf)), (mR, .inl (cG, 8, .inl rf)), (mN, .inl (cN, 8, .inl (upd nf (0 : Int32).toNatClampNeg (rf (0 : Int32).toNatClampNeg)))), (mO, .inl (cO, 400, .inl uf))] H := hP
  have hD : va_D A [(m0, .inr (5, [.int x_thrown, .ref mB, .ref mR, .int x_flags, .ref mO, .int x_outCount, .int x_steps, .ref mN, .int x_nowFlags, .int x_writePlace, .int x_writeSize, .int x_writeValue, .int x_fault, .int x_halt, .int x_isByte, .int x_atRegister, .int x_atPlace])), (mB, .inl (cY, 4096, .inl bf)), (mR, .inl (cG, 8, .inl rf)), (mN, .inl (cN, 8, .inl (upd nf (0 : Int32).toNatClampNeg (rf (0 : Int32).toNatClampNeg)))), (mO, .inl (cO, 400, .inl uf))] := hD
  have hN_3 : okP (0 + 1) (upd nf (0 : Int32).toNatClampNeg (rf (0 : Int32).toNatClampNeg)) := okP_s (okP_0 _) hw_2 rfl
  generalize (upd nf (0 : Int32).toNatClampNeg (rf (0 : Int32).toNatClampNeg)) = g_4 at hP hD hN_3
  refine lv_iinc (v := 1) (lv' := [(1, .int 1), (0, .ref m0)]) hx hb dX5_step_20 hl (k := 0) rfl (by decide) (by decide) rfl (fun ls hl => ?_)
  refine lv_goto (tgt := 2) hx hb dX5_step_23 (by decide) ?_
  refine lv_iload_n hx hb dX5_step_2 rfl (lv_at hl 0 rfl) ?_
  refine lv_bipush (v := 8) hx hb dX5_step_3 (by decide) ?_
  refine lv_icmp_ge (tgt := 26) hx hb dX5_step_5 (by decide) (fun c9 => absurd c9 (by decide)) (fun c_5 => ?_)
  refine lv_aload_n hx hb dX5_step_8 rfl (lv_at hl 1 rfl) ?_
  refine va_get (D := (dC, dI)) (ci := 5) (v := .ref mN) (C := RX5) (T := TX5) (N := 17) hx hb hts (by decide +kernel) hown hK hP 0 rfl rfl 7 (by decide) (hts (.fieldLink RX5 19 "WordGuestModel" "now" "[I") (by decide +kernel)) (fun _ h9 => h9) rfl dX5_step_9 ?_
  refine lv_iload_n hx hb dX5_step_12 rfl (lv_at hl 0 rfl) ?_
  refine lv_aload_n hx hb dX5_step_13 rfl (lv_at hl 1 rfl) ?_
  refine va_get (D := (dC, dI)) (ci := 5) (v := .ref mR) (C := RX5) (T := TX5) (N := 17) hx hb hts (by decide +kernel) hown hK hP 0 rfl rfl 2 (by decide) (hts (.fieldLink RX5 13 "WordGuestModel" "registers" "[I") (by decide +kernel)) (fun _ h9 => h9) rfl dX5_step_14 ?_
  refine lv_iload_n hx hb dX5_step_17 rfl (lv_at hl 0 rfl) ?_
  refine va_iald hx hb hK hP 2 1 rfl rfl (by unfold vp_in; decide) dX5_step_18 ?_
  have hw_6 : isW (rf (1 : Int32).toNatClampNeg) := hR _ (in_lt (by unfold vp_in; decide))
  refine va_iast hx hb hK hP hD hS 3 2 rfl rfl (by unfold vp_in; decide) dX5_step_19 (fun H locs hP hD hS => ?_)
  have hP : va_P (dC, dI) vwCl [(m0, .inr (5, [.int x_thrown, .ref mB, .ref mR, .int x_flags, .ref mO, .int x_outCount, .int x_steps, .ref mN, .int x_nowFlags, .int x_writePlace, .int x_writeSize, .int x_writeValue, .int x_fault, .int x_halt, .int x_isByte, .int x_atRegister, .int x_atPlace])), (mB, .inl (cY, 4096, .inl bf)), (mR, .inl (cG, 8, .inl rf)), (mN, .inl (cN, 8, .inl (upd g_4 (1 : Int32).toNatClampNeg (rf (1 : Int32).toNatClampNeg)))), (mO, .inl (cO, 400, .inl uf))] H := hP
  have hD : va_D A [(m0, .inr (5, [.int x_thrown, .ref mB, .ref mR, .int x_flags, .ref mO, .int x_outCount, .int x_steps, .ref mN, .int x_nowFlags, .int x_writePlace, .int x_writeSize, .int x_writeValue, .int x_fault, .int x_halt, .int x_isByte, .int x_atRegister, .int x_atPlace])), (mB, .inl (cY, 4096, .inl bf)), (mR, .inl (cG, 8, .inl rf)), (mN, .inl (cN, 8, .inl (upd g_4 (1 : Int32).toNatClampNeg (rf (1 : Int32).toNatClampNeg)))), (mO, .inl (cO, 400, .inl uf))] := hD
  have hN_7 : okP (1 + 1) (upd g_4 (1 : Int32).toNatClampNeg (rf (1 : Int32).toNatClampNeg)) := okP_s hN_3 hw_6 rfl
  generalize (upd g_4 (1 : Int32).toNatClampNeg (rf (1 : Int32).toNatClampNeg)) = g_8 at hP hD hN_7
  refine lv_iinc (v := 2) (lv' := [(1, .int 2), (0, .ref m0)]) hx hb dX5_step_20 hl (k := 0) rfl (by decide) (by decide) rfl (fun ls hl => ?_)
  refine lv_goto (tgt := 2) hx hb dX5_step_23 (by decide) ?_
  refine lv_iload_n hx hb dX5_step_2 rfl (lv_at hl 0 rfl) ?_
  refine lv_bipush (v := 8) hx hb dX5_step_3 (by decide) ?_
  refine lv_icmp_ge (tgt := 26) hx hb dX5_step_5 (by decide) (fun c9 => absurd c9 (by decide)) (fun c_9 => ?_)
  refine lv_aload_n hx hb dX5_step_8 rfl (lv_at hl 1 rfl) ?_
  refine va_get (D := (dC, dI)) (ci := 5) (v := .ref mN) (C := RX5) (T := TX5) (N := 17) hx hb hts (by decide +kernel) hown hK hP 0 rfl rfl 7 (by decide) (hts (.fieldLink RX5 19 "WordGuestModel" "now" "[I") (by decide +kernel)) (fun _ h9 => h9) rfl dX5_step_9 ?_
  refine lv_iload_n hx hb dX5_step_12 rfl (lv_at hl 0 rfl) ?_
  refine lv_aload_n hx hb dX5_step_13 rfl (lv_at hl 1 rfl) ?_
  refine va_get (D := (dC, dI)) (ci := 5) (v := .ref mR) (C := RX5) (T := TX5) (N := 17) hx hb hts (by decide +kernel) hown hK hP 0 rfl rfl 2 (by decide) (hts (.fieldLink RX5 13 "WordGuestModel" "registers" "[I") (by decide +kernel)) (fun _ h9 => h9) rfl dX5_step_14 ?_
  refine lv_iload_n hx hb dX5_step_17 rfl (lv_at hl 0 rfl) ?_
  refine va_iald hx hb hK hP 2 1 rfl rfl (by unfold vp_in; decide) dX5_step_18 ?_
  have hw_10 : isW (rf (2 : Int32).toNatClampNeg) := hR _ (in_lt (by unfold vp_in; decide))
  refine va_iast hx hb hK hP hD hS 3 2 rfl rfl (by unfold vp_in; decide) dX5_step_19 (fun H locs hP hD hS => ?_)
  have hP : va_P (dC, dI) vwCl [(m0, .inr (5, [.int x_thrown, .ref mB, .ref mR, .int x_flags, .ref mO, .int x_outCount, .int x_steps, .ref mN, .int x_nowFlags, .int x_writePlace, .int x_writeSize, .int x_writeValue, .int x_fault, .int x_halt, .int x_isByte, .int x_atRegister, .int x_atPlace])), (mB, .inl (cY, 4096, .inl bf)), (mR, .inl (cG, 8, .inl rf)), (mN, .inl (cN, 8, .inl (upd g_8 (2 : Int32).toNatClampNeg (rf (2 : Int32).toNatClampNeg)))), (mO, .inl (cO, 400, .inl uf))] H := hP
  have hD : va_D A [(m0, .inr (5, [.int x_thrown, .ref mB, .ref mR, .int x_flags, .ref mO, .int x_outCount, .int x_steps, .ref mN, .int x_nowFlags, .int x_writePlace, .int x_writeSize, .int x_writeValue, .int x_fault, .int x_halt, .int x_isByte, .int x_atRegister, .int x_atPlace])), (mB, .inl (cY, 4096, .inl bf)), (mR, .inl (cG, 8, .inl rf)), (mN, .inl (cN, 8, .inl (upd g_8 (2 : Int32).toNatClampNeg (rf (2 : Int32).toNatClampNeg)))), (mO, .inl (cO, 400, .inl uf))] := hD
  have hN_11 : okP (2 + 1) (upd g_8 (2 : Int32).toNatClampNeg (rf (2 : Int32).toNatClampNeg)) := okP_s hN_7 hw_10 rfl
  generalize (upd g_8 (2 : Int32).toNatClampNeg (rf (2 : Int32).toNatClampNeg)) = g_12 at hP hD hN_11
  refine lv_iinc (v := 3) (lv' := [(1, .int 3), (0, .ref m0)]) hx hb dX5_step_20 hl (k := 0) rfl (by decide) (by decide) rfl (fun ls hl => ?_)
  refine lv_goto (tgt := 2) hx hb dX5_step_23 (by decide) ?_
  refine lv_iload_n hx hb dX5_step_2 rfl (lv_at hl 0 rfl) ?_
  refine lv_bipush (v := 8) hx hb dX5_step_3 (by decide) ?_
  refine lv_icmp_ge (tgt := 26) hx hb dX5_step_5 (by decide) (fun c9 => absurd c9 (by decide)) (fun c_13 => ?_)
  refine lv_aload_n hx hb dX5_step_8 rfl (lv_at hl 1 rfl) ?_
  refine va_get (D := (dC, dI)) (ci := 5) (v := .ref mN) (C := RX5) (T := TX5) (N := 17) hx hb hts (by decide +kernel) hown hK hP 0 rfl rfl 7 (by decide) (hts (.fieldLink RX5 19 "WordGuestModel" "now" "[I") (by decide +kernel)) (fun _ h9 => h9) rfl dX5_step_9 ?_
  refine lv_iload_n hx hb dX5_step_12 rfl (lv_at hl 0 rfl) ?_
  refine lv_aload_n hx hb dX5_step_13 rfl (lv_at hl 1 rfl) ?_
  refine va_get (D := (dC, dI)) (ci := 5) (v := .ref mR) (C := RX5) (T := TX5) (N := 17) hx hb hts (by decide +kernel) hown hK hP 0 rfl rfl 2 (by decide) (hts (.fieldLink RX5 13 "WordGuestModel" "registers" "[I") (by decide +kernel)) (fun _ h9 => h9) rfl dX5_step_14 ?_
  refine lv_iload_n hx hb dX5_step_17 rfl (lv_at hl 0 rfl) ?_
  refine va_iald hx hb hK hP 2 1 rfl rfl (by unfold vp_in; decide) dX5_step_18 ?_
  have hw_14 : isW (rf (3 : Int32).toNatClampNeg) := hR _ (in_lt (by unfold vp_in; decide))
  refine va_iast hx hb hK hP hD hS 3 2 rfl rfl (by unfold vp_in; decide) dX5_step_19 (fun H locs hP hD hS => ?_)
  have hP : va_P (dC, dI) vwCl [(m0, .inr (5, [.int x_thrown, .ref mB, .ref mR, .int x_flags, .ref mO, .int x_outCount, .int x_steps, .ref mN, .int x_nowFlags, .int x_writePlace, .int x_writeSize, .int x_writeValue, .int x_fault, .int x_halt, .int x_isByte, .int x_atRegister, .int x_atPlace])), (mB, .inl (cY, 4096, .inl bf)), (mR, .inl (cG, 8, .inl rf)), (mN, .inl (cN, 8, .inl (upd g_12 (3 : Int32).toNatClampNeg (rf (3 : Int32).toNatClampNeg)))), (mO, .inl (cO, 400, .inl uf))] H := hP
  have hD : va_D A [(m0, .inr (5, [.int x_thrown, .ref mB, .ref mR, .int x_flags, .ref mO, .int x_outCount, .int x_steps, .ref mN, .int x_nowFlags, .int x_writePlace, .int x_writeSize, .int x_writeValue, .int x_fault, .int x_halt, .int x_isByte, .int x_atRegister, .int x_atPlace])), (mB, .inl (cY, 4096, .inl bf)), (mR, .inl (cG, 8, .inl rf)), (mN, .inl (cN, 8, .inl (upd g_12 (3 : Int32).toNatClampNeg (rf (3 : Int32).toNatClampNeg)))), (mO, .inl (cO, 400, .inl uf))] := hD
  have hN_15 : okP (3 + 1) (upd g_12 (3 : Int32).toNatClampNeg (rf (3 : Int32).toNatClampNeg)) := okP_s hN_11 hw_14 rfl
  generalize (upd g_12 (3 : Int32).toNatClampNeg (rf (3 : Int32).toNatClampNeg)) = g_16 at hP hD hN_15
  refine lv_iinc (v := 4) (lv' := [(1, .int 4), (0, .ref m0)]) hx hb dX5_step_20 hl (k := 0) rfl (by decide) (by decide) rfl (fun ls hl => ?_)
  refine lv_goto (tgt := 2) hx hb dX5_step_23 (by decide) ?_
  refine lv_iload_n hx hb dX5_step_2 rfl (lv_at hl 0 rfl) ?_
  refine lv_bipush (v := 8) hx hb dX5_step_3 (by decide) ?_
  refine lv_icmp_ge (tgt := 26) hx hb dX5_step_5 (by decide) (fun c9 => absurd c9 (by decide)) (fun c_17 => ?_)
  refine lv_aload_n hx hb dX5_step_8 rfl (lv_at hl 1 rfl) ?_
  refine va_get (D := (dC, dI)) (ci := 5) (v := .ref mN) (C := RX5) (T := TX5) (N := 17) hx hb hts (by decide +kernel) hown hK hP 0 rfl rfl 7 (by decide) (hts (.fieldLink RX5 19 "WordGuestModel" "now" "[I") (by decide +kernel)) (fun _ h9 => h9) rfl dX5_step_9 ?_
  refine lv_iload_n hx hb dX5_step_12 rfl (lv_at hl 0 rfl) ?_
  refine lv_aload_n hx hb dX5_step_13 rfl (lv_at hl 1 rfl) ?_
  refine va_get (D := (dC, dI)) (ci := 5) (v := .ref mR) (C := RX5) (T := TX5) (N := 17) hx hb hts (by decide +kernel) hown hK hP 0 rfl rfl 2 (by decide) (hts (.fieldLink RX5 13 "WordGuestModel" "registers" "[I") (by decide +kernel)) (fun _ h9 => h9) rfl dX5_step_14 ?_
  refine lv_iload_n hx hb dX5_step_17 rfl (lv_at hl 0 rfl) ?_
  refine va_iald hx hb hK hP 2 1 rfl rfl (by unfold vp_in; decide) dX5_step_18 ?_
  have hw_18 : isW (rf (4 : Int32).toNatClampNeg) := hR _ (in_lt (by unfold vp_in; decide))
  refine va_iast hx hb hK hP hD hS 3 2 rfl rfl (by unfold vp_in; decide) dX5_step_19 (fun H locs hP hD hS => ?_)
  have hP : va_P (dC, dI) vwCl [(m0, .inr (5, [.int x_thrown, .ref mB, .ref mR, .int x_flags, .ref mO, .int x_outCount, .int x_steps, .ref mN, .int x_nowFlags, .int x_writePlace, .int x_writeSize, .int x_writeValue, .int x_fault, .int x_halt, .int x_isByte, .int x_atRegister, .int x_atPlace])), (mB, .inl (cY, 4096, .inl bf)), (mR, .inl (cG, 8, .inl rf)), (mN, .inl (cN, 8, .inl (upd g_16 (4 : Int32).toNatClampNeg (rf (4 : Int32).toNatClampNeg)))), (mO, .inl (cO, 400, .inl uf))] H := hP
  have hD : va_D A [(m0, .inr (5, [.int x_thrown, .ref mB, .ref mR, .int x_flags, .ref mO, .int x_outCount, .int x_steps, .ref mN, .int x_nowFlags, .int x_writePlace, .int x_writeSize, .int x_writeValue, .int x_fault, .int x_halt, .int x_isByte, .int x_atRegister, .int x_atPlace])), (mB, .inl (cY, 4096, .inl bf)), (mR, .inl (cG, 8, .inl rf)), (mN, .inl (cN, 8, .inl (upd g_16 (4 : Int32).toNatClampNeg (rf (4 : Int32).toNatClampNeg)))), (mO, .inl (cO, 400, .inl uf))] := hD
  have hN_19 : okP (4 + 1) (upd g_16 (4 : Int32).toNatClampNeg (rf (4 : Int32).toNatClampNeg)) := okP_s hN_15 hw_18 rfl
  generalize (upd g_16 (4 : Int32).toNatClampNeg (rf (4 : Int32).toNatClampNeg)) = g_20 at hP hD hN_19
  refine lv_iinc (v := 5) (lv' := [(1, .int 5), (0, .ref m0)]) hx hb dX5_step_20 hl (k := 0) rfl (by decide) (by decide) rfl (fun ls hl => ?_)
  refine lv_goto (tgt := 2) hx hb dX5_step_23 (by decide) ?_
  refine lv_iload_n hx hb dX5_step_2 rfl (lv_at hl 0 rfl) ?_
  refine lv_bipush (v := 8) hx hb dX5_step_3 (by decide) ?_
  refine lv_icmp_ge (tgt := 26) hx hb dX5_step_5 (by decide) (fun c9 => absurd c9 (by decide)) (fun c_21 => ?_)
  refine lv_aload_n hx hb dX5_step_8 rfl (lv_at hl 1 rfl) ?_
  refine va_get (D := (dC, dI)) (ci := 5) (v := .ref mN) (C := RX5) (T := TX5) (N := 17) hx hb hts (by decide +kernel) hown hK hP 0 rfl rfl 7 (by decide) (hts (.fieldLink RX5 19 "WordGuestModel" "now" "[I") (by decide +kernel)) (fun _ h9 => h9) rfl dX5_step_9 ?_
  refine lv_iload_n hx hb dX5_step_12 rfl (lv_at hl 0 rfl) ?_
  refine lv_aload_n hx hb dX5_step_13 rfl (lv_at hl 1 rfl) ?_
  refine va_get (D := (dC, dI)) (ci := 5) (v := .ref mR) (C := RX5) (T := TX5) (N := 17) hx hb hts (by decide +kernel) hown hK hP 0 rfl rfl 2 (by decide) (hts (.fieldLink RX5 13 "WordGuestModel" "registers" "[I") (by decide +kernel)) (fun _ h9 => h9) rfl dX5_step_14 ?_
  refine lv_iload_n hx hb dX5_step_17 rfl (lv_at hl 0 rfl) ?_
  refine va_iald hx hb hK hP 2 1 rfl rfl (by unfold vp_in; decide) dX5_step_18 ?_
  have hw_22 : isW (rf (5 : Int32).toNatClampNeg) := hR _ (in_lt (by unfold vp_in; decide))
  refine va_iast hx hb hK hP hD hS 3 2 rfl rfl (by unfold vp_in; decide) dX5_step_19 (fun H locs hP hD hS => ?_)
  have hP : va_P (dC, dI) vwCl [(m0, .inr (5, [.int x_thrown, .ref mB, .ref mR, .int x_flags, .ref mO, .int x_outCount, .int x_steps, .ref mN, .int x_nowFlags, .int x_writePlace, .int x_writeSize, .int x_writeValue, .int x_fault, .int x_halt, .int x_isByte, .int x_atRegister, .int x_atPlace])), (mB, .inl (cY, 4096, .inl bf)), (mR, .inl (cG, 8, .inl rf)), (mN, .inl (cN, 8, .inl (upd g_20 (5 : Int32).toNatClampNeg (rf (5 : Int32).toNatClampNeg)))), (mO, .inl (cO, 400, .inl uf))] H := hP
  have hD : va_D A [(m0, .inr (5, [.int x_thrown, .ref mB, .ref mR, .int x_flags, .ref mO, .int x_outCount, .int x_steps, .ref mN, .int x_nowFlags, .int x_writePlace, .int x_writeSize, .int x_writeValue, .int x_fault, .int x_halt, .int x_isByte, .int x_atRegister, .int x_atPlace])), (mB, .inl (cY, 4096, .inl bf)), (mR, .inl (cG, 8, .inl rf)), (mN, .inl (cN, 8, .inl (upd g_20 (5 : Int32).toNatClampNeg (rf (5 : Int32).toNatClampNeg)))), (mO, .inl (cO, 400, .inl uf))] := hD
  have hN_23 : okP (5 + 1) (upd g_20 (5 : Int32).toNatClampNeg (rf (5 : Int32).toNatClampNeg)) := okP_s hN_19 hw_22 rfl
  generalize (upd g_20 (5 : Int32).toNatClampNeg (rf (5 : Int32).toNatClampNeg)) = g_24 at hP hD hN_23
  refine lv_iinc (v := 6) (lv' := [(1, .int 6), (0, .ref m0)]) hx hb dX5_step_20 hl (k := 0) rfl (by decide) (by decide) rfl (fun ls hl => ?_)
  refine lv_goto (tgt := 2) hx hb dX5_step_23 (by decide) ?_
  refine lv_iload_n hx hb dX5_step_2 rfl (lv_at hl 0 rfl) ?_
  refine lv_bipush (v := 8) hx hb dX5_step_3 (by decide) ?_
  refine lv_icmp_ge (tgt := 26) hx hb dX5_step_5 (by decide) (fun c9 => absurd c9 (by decide)) (fun c_25 => ?_)
  refine lv_aload_n hx hb dX5_step_8 rfl (lv_at hl 1 rfl) ?_
  refine va_get (D := (dC, dI)) (ci := 5) (v := .ref mN) (C := RX5) (T := TX5) (N := 17) hx hb hts (by decide +kernel) hown hK hP 0 rfl rfl 7 (by decide) (hts (.fieldLink RX5 19 "WordGuestModel" "now" "[I") (by decide +kernel)) (fun _ h9 => h9) rfl dX5_step_9 ?_
  refine lv_iload_n hx hb dX5_step_12 rfl (lv_at hl 0 rfl) ?_
  refine lv_aload_n hx hb dX5_step_13 rfl (lv_at hl 1 rfl) ?_
  refine va_get (D := (dC, dI)) (ci := 5) (v := .ref mR) (C := RX5) (T := TX5) (N := 17) hx hb hts (by decide +kernel) hown hK hP 0 rfl rfl 2 (by decide) (hts (.fieldLink RX5 13 "WordGuestModel" "registers" "[I") (by decide +kernel)) (fun _ h9 => h9) rfl dX5_step_14 ?_
  refine lv_iload_n hx hb dX5_step_17 rfl (lv_at hl 0 rfl) ?_
  refine va_iald hx hb hK hP 2 1 rfl rfl (by unfold vp_in; decide) dX5_step_18 ?_
  have hw_26 : isW (rf (6 : Int32).toNatClampNeg) := hR _ (in_lt (by unfold vp_in; decide))
  refine va_iast hx hb hK hP hD hS 3 2 rfl rfl (by unfold vp_in; decide) dX5_step_19 (fun H locs hP hD hS => ?_)
  have hP : va_P (dC, dI) vwCl [(m0, .inr (5, [.int x_thrown, .ref mB, .ref mR, .int x_flags, .ref mO, .int x_outCount, .int x_steps, .ref mN, .int x_nowFlags, .int x_writePlace, .int x_writeSize, .int x_writeValue, .int x_fault, .int x_halt, .int x_isByte, .int x_atRegister, .int x_atPlace])), (mB, .inl (cY, 4096, .inl bf)), (mR, .inl (cG, 8, .inl rf)), (mN, .inl (cN, 8, .inl (upd g_24 (6 : Int32).toNatClampNeg (rf (6 : Int32).toNatClampNeg)))), (mO, .inl (cO, 400, .inl uf))] H := hP
  have hD : va_D A [(m0, .inr (5, [.int x_thrown, .ref mB, .ref mR, .int x_flags, .ref mO, .int x_outCount, .int x_steps, .ref mN, .int x_nowFlags, .int x_writePlace, .int x_writeSize, .int x_writeValue, .int x_fault, .int x_halt, .int x_isByte, .int x_atRegister, .int x_atPlace])), (mB, .inl (cY, 4096, .inl bf)), (mR, .inl (cG, 8, .inl rf)), (mN, .inl (cN, 8, .inl (upd g_24 (6 : Int32).toNatClampNeg (rf (6 : Int32).toNatClampNeg)))), (mO, .inl (cO, 400, .inl uf))] := hD
  have hN_27 : okP (6 + 1) (upd g_24 (6 : Int32).toNatClampNeg (rf (6 : Int32).toNatClampNeg)) := okP_s hN_23 hw_26 rfl
  generalize (upd g_24 (6 : Int32).toNatClampNeg (rf (6 : Int32).toNatClampNeg)) = g_28 at hP hD hN_27
  refine lv_iinc (v := 7) (lv' := [(1, .int 7), (0, .ref m0)]) hx hb dX5_step_20 hl (k := 0) rfl (by decide) (by decide) rfl (fun ls hl => ?_)
  refine lv_goto (tgt := 2) hx hb dX5_step_23 (by decide) ?_
  refine lv_iload_n hx hb dX5_step_2 rfl (lv_at hl 0 rfl) ?_
  refine lv_bipush (v := 8) hx hb dX5_step_3 (by decide) ?_
  refine lv_icmp_ge (tgt := 26) hx hb dX5_step_5 (by decide) (fun c9 => absurd c9 (by decide)) (fun c_29 => ?_)
  refine lv_aload_n hx hb dX5_step_8 rfl (lv_at hl 1 rfl) ?_
  refine va_get (D := (dC, dI)) (ci := 5) (v := .ref mN) (C := RX5) (T := TX5) (N := 17) hx hb hts (by decide +kernel) hown hK hP 0 rfl rfl 7 (by decide) (hts (.fieldLink RX5 19 "WordGuestModel" "now" "[I") (by decide +kernel)) (fun _ h9 => h9) rfl dX5_step_9 ?_
  refine lv_iload_n hx hb dX5_step_12 rfl (lv_at hl 0 rfl) ?_
  refine lv_aload_n hx hb dX5_step_13 rfl (lv_at hl 1 rfl) ?_
  refine va_get (D := (dC, dI)) (ci := 5) (v := .ref mR) (C := RX5) (T := TX5) (N := 17) hx hb hts (by decide +kernel) hown hK hP 0 rfl rfl 2 (by decide) (hts (.fieldLink RX5 13 "WordGuestModel" "registers" "[I") (by decide +kernel)) (fun _ h9 => h9) rfl dX5_step_14 ?_
  refine lv_iload_n hx hb dX5_step_17 rfl (lv_at hl 0 rfl) ?_
  refine va_iald hx hb hK hP 2 1 rfl rfl (by unfold vp_in; decide) dX5_step_18 ?_
  have hw_30 : isW (rf (7 : Int32).toNatClampNeg) := hR _ (in_lt (by unfold vp_in; decide))
  refine va_iast hx hb hK hP hD hS 3 2 rfl rfl (by unfold vp_in; decide) dX5_step_19 (fun H locs hP hD hS => ?_)
  have hP : va_P (dC, dI) vwCl [(m0, .inr (5, [.int x_thrown, .ref mB, .ref mR, .int x_flags, .ref mO, .int x_outCount, .int x_steps, .ref mN, .int x_nowFlags, .int x_writePlace, .int x_writeSize, .int x_writeValue, .int x_fault, .int x_halt, .int x_isByte, .int x_atRegister, .int x_atPlace])), (mB, .inl (cY, 4096, .inl bf)), (mR, .inl (cG, 8, .inl rf)), (mN, .inl (cN, 8, .inl (upd g_28 (7 : Int32).toNatClampNeg (rf (7 : Int32).toNatClampNeg)))), (mO, .inl (cO, 400, .inl uf))] H := hP
  have hD : va_D A [(m0, .inr (5, [.int x_thrown, .ref mB, .ref mR, .int x_flags, .ref mO, .int x_outCount, .int x_steps, .ref mN, .int x_nowFlags, .int x_writePlace, .int x_writeSize, .int x_writeValue, .int x_fault, .int x_halt, .int x_isByte, .int x_atRegister, .int x_atPlace])), (mB, .inl (cY, 4096, .inl bf)), (mR, .inl (cG, 8, .inl rf)), (mN, .inl (cN, 8, .inl (upd g_28 (7 : Int32).toNatClampNeg (rf (7 : Int32).toNatClampNeg)))), (mO, .inl (cO, 400, .inl uf))] := hD
  have hN_31 : okP (7 + 1) (upd g_28 (7 : Int32).toNatClampNeg (rf (7 : Int32).toNatClampNeg)) := okP_s hN_27 hw_30 rfl
  generalize (upd g_28 (7 : Int32).toNatClampNeg (rf (7 : Int32).toNatClampNeg)) = g_32 at hP hD hN_31
  refine lv_iinc (v := 8) (lv' := [(1, .int 8), (0, .ref m0)]) hx hb dX5_step_20 hl (k := 0) rfl (by decide) (by decide) rfl (fun ls hl => ?_)
  refine lv_goto (tgt := 2) hx hb dX5_step_23 (by decide) ?_
  refine lv_iload_n hx hb dX5_step_2 rfl (lv_at hl 0 rfl) ?_
  refine lv_bipush (v := 8) hx hb dX5_step_3 (by decide) ?_
  refine lv_icmp_ge (tgt := 26) hx hb dX5_step_5 (by decide) (fun c_33 => ?_) (fun c9 => absurd (by decide) c9)
  refine lv_aload_n hx hb dX5_step_26 rfl (lv_at hl 1 rfl) ?_
  refine lv_aload_n hx hb dX5_step_27 rfl (lv_at hl 1 rfl) ?_
  refine va_get (D := (dC, dI)) (ci := 5) (v := .int x_flags) (C := RX5) (T := TX5) (N := 17) hx hb hts (by decide +kernel) hown hK hP 0 rfl rfl 3 (by decide) (hts (.fieldLink RX5 39 "WordGuestModel" "flags" "I") (by decide +kernel)) (fun _ h9 => h9) rfl dX5_step_28 ?_
  refine va_put (D := (dC, dI)) (ci := 5) (v := .int x_flags) (ty := .int) (C := RX5) (T := TX5) (N := 17) hx hb hts (by decide +kernel) tyX5 tyX5_ok nmX5 hown hK hP hD hS 0 rfl rfl 8 (by decide) (hts (.fieldLink RX5 90 "WordGuestModel" "nowFlags" "I") (by decide +kernel)) (fun _ h9 => h9) rfl (by decide +kernel) rfl rfl (Nat.le_of_ble_eq_true rfl) dX5_step_31 (fun H locs hP hD hS => ?_)
  have hP : va_P (dC, dI) vwCl [(m0, .inr (5, [.int x_thrown, .ref mB, .ref mR, .int x_flags, .ref mO, .int x_outCount, .int x_steps, .ref mN, .int x_flags, .int x_writePlace, .int x_writeSize, .int x_writeValue, .int x_fault, .int x_halt, .int x_isByte, .int x_atRegister, .int x_atPlace])), (mB, .inl (cY, 4096, .inl bf)), (mR, .inl (cG, 8, .inl rf)), (mN, .inl (cN, 8, .inl g_32)), (mO, .inl (cO, 400, .inl uf))] H := hP
  have hD : va_D A [(m0, .inr (5, [.int x_thrown, .ref mB, .ref mR, .int x_flags, .ref mO, .int x_outCount, .int x_steps, .ref mN, .int x_flags, .int x_writePlace, .int x_writeSize, .int x_writeValue, .int x_fault, .int x_halt, .int x_isByte, .int x_atRegister, .int x_atPlace])), (mB, .inl (cY, 4096, .inl bf)), (mR, .inl (cG, 8, .inl rf)), (mN, .inl (cN, 8, .inl g_32)), (mO, .inl (cO, 400, .inl uf))] := hD
  refine lv_aload_n hx hb dX5_step_34 rfl (lv_at hl 1 rfl) ?_
  refine lv_iconst (v := 0) hx hb dX5_step_35 (by decide) ?_
  refine va_put (D := (dC, dI)) (ci := 5) (v := .int 0) (ty := .int) (C := RX5) (T := TX5) (N := 17) hx hb hts (by decide +kernel) tyX5 tyX5_ok nmX5 hown hK hP hD hS 0 rfl rfl 12 (by decide) (hts (.fieldLink RX5 48 "WordGuestModel" "fault" "I") (by decide +kernel)) (fun _ h9 => h9) rfl (by decide +kernel) rfl rfl (Nat.le_of_ble_eq_true rfl) dX5_step_36 (fun H locs hP hD hS => ?_)
  have hP : va_P (dC, dI) vwCl [(m0, .inr (5, [.int x_thrown, .ref mB, .ref mR, .int x_flags, .ref mO, .int x_outCount, .int x_steps, .ref mN, .int x_flags, .int x_writePlace, .int x_writeSize, .int x_writeValue, .int 0, .int x_halt, .int x_isByte, .int x_atRegister, .int x_atPlace])), (mB, .inl (cY, 4096, .inl bf)), (mR, .inl (cG, 8, .inl rf)), (mN, .inl (cN, 8, .inl g_32)), (mO, .inl (cO, 400, .inl uf))] H := hP
  have hD : va_D A [(m0, .inr (5, [.int x_thrown, .ref mB, .ref mR, .int x_flags, .ref mO, .int x_outCount, .int x_steps, .ref mN, .int x_flags, .int x_writePlace, .int x_writeSize, .int x_writeValue, .int 0, .int x_halt, .int x_isByte, .int x_atRegister, .int x_atPlace])), (mB, .inl (cY, 4096, .inl bf)), (mR, .inl (cG, 8, .inl rf)), (mN, .inl (cN, 8, .inl g_32)), (mO, .inl (cO, 400, .inl uf))] := hD
  refine lv_aload_n hx hb dX5_step_39 rfl (lv_at hl 1 rfl) ?_
  refine lv_iconst (v := 0) hx hb dX5_step_40 (by decide) ?_
  refine va_put (D := (dC, dI)) (ci := 5) (v := .int 0) (ty := .int) (C := RX5) (T := TX5) (N := 17) hx hb hts (by decide +kernel) tyX5 tyX5_ok nmX5 hown hK hP hD hS 0 rfl rfl 10 (by decide) (hts (.fieldLink RX5 80 "WordGuestModel" "writeSize" "I") (by decide +kernel)) (fun _ h9 => h9) rfl (by decide +kernel) rfl rfl (Nat.le_of_ble_eq_true rfl) dX5_step_41 (fun H locs hP hD hS => ?_)
  have hP : va_P (dC, dI) vwCl [(m0, .inr (5, [.int x_thrown, .ref mB, .ref mR, .int x_flags, .ref mO, .int x_outCount, .int x_steps, .ref mN, .int x_flags, .int x_writePlace, .int 0, .int x_writeValue, .int 0, .int x_halt, .int x_isByte, .int x_atRegister, .int x_atPlace])), (mB, .inl (cY, 4096, .inl bf)), (mR, .inl (cG, 8, .inl rf)), (mN, .inl (cN, 8, .inl g_32)), (mO, .inl (cO, 400, .inl uf))] H := hP
  have hD : va_D A [(m0, .inr (5, [.int x_thrown, .ref mB, .ref mR, .int x_flags, .ref mO, .int x_outCount, .int x_steps, .ref mN, .int x_flags, .int x_writePlace, .int 0, .int x_writeValue, .int 0, .int x_halt, .int x_isByte, .int x_atRegister, .int x_atPlace])), (mB, .inl (cY, 4096, .inl bf)), (mR, .inl (cG, 8, .inl rf)), (mN, .inl (cN, 8, .inl g_32)), (mO, .inl (cO, 400, .inl uf))] := hD
  refine lv_aload_n hx hb dX5_step_44 rfl (lv_at hl 1 rfl) ?_
  refine lv_iconst (v := 0) hx hb dX5_step_45 (by decide) ?_
  refine va_put (D := (dC, dI)) (ci := 5) (v := .int 0) (ty := .boolean) (C := RX5) (T := TX5) (N := 17) hx hb hts (by decide +kernel) tyX5 tyX5_ok nmX5 hown hK hP hD hS 0 rfl rfl 13 (by decide) (hts (.fieldLink RX5 143 "WordGuestModel" "halt" "Z") (by decide +kernel)) (fun _ h9 => h9) rfl (by decide +kernel) (by decide) (by decide) (Nat.le_of_ble_eq_true rfl) dX5_step_46 (fun H locs hP hD hS => ?_)
  have hP : va_P (dC, dI) vwCl [(m0, .inr (5, [.int x_thrown, .ref mB, .ref mR, .int x_flags, .ref mO, .int x_outCount, .int x_steps, .ref mN, .int x_flags, .int x_writePlace, .int 0, .int x_writeValue, .int 0, .int 0, .int x_isByte, .int x_atRegister, .int x_atPlace])), (mB, .inl (cY, 4096, .inl bf)), (mR, .inl (cG, 8, .inl rf)), (mN, .inl (cN, 8, .inl g_32)), (mO, .inl (cO, 400, .inl uf))] H := hP
  have hD : va_D A [(m0, .inr (5, [.int x_thrown, .ref mB, .ref mR, .int x_flags, .ref mO, .int x_outCount, .int x_steps, .ref mN, .int x_flags, .int x_writePlace, .int 0, .int x_writeValue, .int 0, .int 0, .int x_isByte, .int x_atRegister, .int x_atPlace])), (mB, .inl (cY, 4096, .inl bf)), (mR, .inl (cG, 8, .inl rf)), (mN, .inl (cN, 8, .inl g_32)), (mO, .inl (cO, 400, .inl uf))] := hD
  refine lv_aload_n hx hb dX5_step_49 rfl (lv_at hl 1 rfl) ?_
  refine lv_iconst (v := 0) hx hb dX5_step_50 (by decide) ?_
  refine va_put (D := (dC, dI)) (ci := 5) (v := .int 0) (ty := .boolean) (C := RX5) (T := TX5) (N := 17) hx hb hts (by decide +kernel) tyX5 tyX5_ok nmX5 hown hK hP hD hS 0 rfl rfl 14 (by decide) (hts (.fieldLink RX5 59 "WordGuestModel" "isByte" "Z") (by decide +kernel)) (fun _ h9 => h9) rfl (by decide +kernel) (by decide) (by decide) (Nat.le_of_ble_eq_true rfl) dX5_step_51 (fun H locs hP hD hS => ?_)
  have hP : va_P (dC, dI) vwCl [(m0, .inr (5, [.int x_thrown, .ref mB, .ref mR, .int x_flags, .ref mO, .int x_outCount, .int x_steps, .ref mN, .int x_flags, .int x_writePlace, .int 0, .int x_writeValue, .int 0, .int 0, .int 0, .int x_atRegister, .int x_atPlace])), (mB, .inl (cY, 4096, .inl bf)), (mR, .inl (cG, 8, .inl rf)), (mN, .inl (cN, 8, .inl g_32)), (mO, .inl (cO, 400, .inl uf))] H := hP
  have hD : va_D A [(m0, .inr (5, [.int x_thrown, .ref mB, .ref mR, .int x_flags, .ref mO, .int x_outCount, .int x_steps, .ref mN, .int x_flags, .int x_writePlace, .int 0, .int x_writeValue, .int 0, .int 0, .int 0, .int x_atRegister, .int x_atPlace])), (mB, .inl (cY, 4096, .inl bf)), (mR, .inl (cG, 8, .inl rf)), (mN, .inl (cN, 8, .inl g_32)), (mO, .inl (cO, 400, .inl uf))] := hD
  refine lv_aload_n hx hb dX5_step_54 rfl (lv_at hl 1 rfl) ?_
  have hPc := hP.sub (ws' := [(m0, .inr (5, [.int x_thrown, .ref mB, .ref mR, .int x_flags, .ref mO, .int x_outCount, .int x_steps, .ref mN, .int x_flags, .int x_writePlace, .int 0, .int x_writeValue, .int 0, .int 0, .int 0, .int x_atRegister, .int x_atPlace])), (mB, .inl (cY, 4096, .inl bf)), (mN, .inl (cN, 8, .inl g_32))]) [0, 1, 3] rfl
  have hDc := hD.sub (ws' := [(m0, .inr (5, [.int x_thrown, .ref mB, .ref mR, .int x_flags, .ref mO, .int x_outCount, .int x_steps, .ref mN, .int x_flags, .int x_writePlace, .int 0, .int x_writeValue, .int 0, .int 0, .int 0, .int x_atRegister, .int x_atPlace])), (mB, .inl (cY, 4096, .inl bf)), (mN, .inl (cN, 8, .inl g_32))]) [0, 1, 3] (by decide) rfl
  have hKc := hK.sub (tys' := [(cY, .int), (cN, .int)]) [0, 2] rfl
  have hFc := va_free (wc := [(m0, .inr (5, [.int x_thrown, .ref mB, .ref mR, .int x_flags, .ref mO, .int x_outCount, .int x_steps, .ref mN, .int x_flags, .int x_writePlace, .int 0, .int x_writeValue, .int 0, .int 0, .int 0, .int x_atRegister, .int x_atPlace])), (mB, .inl (cY, 4096, .inl bf)), (mN, .inl (cN, 8, .inl g_32))]) hD hS hA [0, 1, 3] rfl
  refine va_calli (va_runV (C := RX5) (b := m0) (As := []) (rest := []) ⟨hx, hb, hml, hown, hts⟩ (s_X5_fetch l dC dI H.size m0 x_thrown mB mR x_flags mO x_outCount x_steps mN x_flags x_writePlace (0 : Int32) x_writeValue (0 : Int32) (0 : Int32) (0 : Int32) x_atRegister x_atPlace cY bf cN g_32 (Or.inl rfl) (Or.inr hN_31) hB) (cwV 0 hts gX5_step_X5_fetch rfl rfl rfl (by decide +kernel) ⟨Nat.le_of_ble_eq_true rfl, Nat.le_of_ble_eq_true rfl⟩) ⟨q_blind, va_recv hK hP (ci := 5) (q0 := 0) rfl rfl, fun U hU hW => ⟨rfl, q_pay hU hW hPc hKc hDc hN⟩⟩ rfl rfl hl.1 rfl (lv_room (Nat.le_of_ble_eq_true rfl)) dX5_step_55 ⟨show 0 + 0 ≤ 0 from by omega, show 0 + 0 ≤ 0 from by omega⟩) hS (fun q _ h => hFc q h) hFc (fun r_34 u9 t H locs ht hvm hw_35 hB hz1 hk1 hS => ?_)
  obtain ⟨y_fault_36, nf2_37⟩ := u9
  obtain ⟨hP1, hK1, hD1⟩ := hB
  rw [ht] at hP1
  obtain ⟨hP, hD⟩ := va_join (wr := [(mR, .inl (cG, 8, .inl rf)), (mO, .inl (cO, 400, .inl uf))]) (w1 := [(m0, .inr (5, [.int x_thrown, .ref mB, .ref mR, .int x_flags, .ref mO, .int x_outCount, .int x_steps, .ref mN, .int x_flags, .int x_writePlace, .int 0, .int x_writeValue, .int y_fault_36, .int 0, .int 0, .int x_atRegister, .int x_atPlace])), (mB, .inl (cY, 4096, .inl bf)), (mN, .inl (cN, 8, .inl nf2_37))]) hP hD [0, 1, 3] [2, 4] rfl rfl (by decide) (by decide) hk1 hFc hP1 hD1
  have hP : va_P (dC, dI) vwCl [(mR, .inl (cG, 8, .inl rf)), (mO, .inl (cO, 400, .inl uf)), (m0, .inr (5, [.int x_thrown, .ref mB, .ref mR, .int x_flags, .ref mO, .int x_outCount, .int x_steps, .ref mN, .int x_flags, .int x_writePlace, .int 0, .int x_writeValue, .int y_fault_36, .int 0, .int 0, .int x_atRegister, .int x_atPlace])), (mB, .inl (cY, 4096, .inl bf)), (mN, .inl (cN, 8, .inl nf2_37))] H := hP
  have hD : va_D A [(mR, .inl (cG, 8, .inl rf)), (mO, .inl (cO, 400, .inl uf)), (m0, .inr (5, [.int x_thrown, .ref mB, .ref mR, .int x_flags, .ref mO, .int x_outCount, .int x_steps, .ref mN, .int x_flags, .int x_writePlace, .int 0, .int x_writeValue, .int y_fault_36, .int 0, .int 0, .int x_atRegister, .int x_atPlace])), (mB, .inl (cY, 4096, .inl bf)), (mN, .inl (cN, 8, .inl nf2_37))] := hD
  refine W.widen (k := 0) (n := 0) (by omega) (by omega) ?_
  try dsimp only at hw_35
  refine lv_istore_n (lv' := [(1, .int r_34), (0, .ref m0)]) hx hb dX5_step_58 rfl hl (by decide) rfl (fun ls hl => ?_)
  refine lv_aload_n hx hb dX5_step_59 rfl (lv_at hl 1 rfl) ?_
  refine va_get (D := (dC, dI)) (ci := 5) (v := .int y_fault_36) (C := RX5) (T := TX5) (N := 17) hx hb hts (by decide +kernel) hown hK hP 2 rfl rfl 12 (by decide) (hts (.fieldLink RX5 48 "WordGuestModel" "fault" "I") (by decide +kernel)) (fun _ h9 => h9) rfl dX5_step_60 ?_
  refine lv_if_ne (tgt := 71) hx hb dX5_step_63 (by decide) (fun c_38 => ?_) (fun c_38 => ?_)
  · refine lv_aload_n hx hb dX5_step_71 rfl (lv_at hl 1 rfl) ?_
    refine va_get (D := (dC, dI)) (ci := 5) (v := .int y_fault_36) (C := RX5) (T := TX5) (N := 17) hx hb hts (by decide +kernel) hown hK hP 2 rfl rfl 12 (by decide) (hts (.fieldLink RX5 48 "WordGuestModel" "fault" "I") (by decide +kernel)) (fun _ h9 => h9) rfl dX5_step_72 ?_
    refine lv_if_le (tgt := 79) hx hb dX5_step_75 (by decide) (fun c9 => absurd c9 (Int32.not_le.mpr (okF_ne hw_35.1 c_38))) (fun c_39 => ?_)
    have hP9 := hP.sub (ws' := [(m0, .inr (5, [.int x_thrown, .ref mB, .ref mR, .int x_flags, .ref mO, .int x_outCount, .int x_steps, .ref mN, .int x_flags, .int x_writePlace, .int 0, .int x_writeValue, .int y_fault_36, .int 0, .int 0, .int x_atRegister, .int x_atPlace])), (mB, .inl (cY, 4096, .inl bf)), (mR, .inl (cG, 8, .inl rf)), (mN, .inl (cN, 8, .inl nf2_37)), (mO, .inl (cO, 400, .inl uf))]) [2, 3, 0, 4, 1] rfl
    have hD9 := hD.sub (ws' := [(m0, .inr (5, [.int x_thrown, .ref mB, .ref mR, .int x_flags, .ref mO, .int x_outCount, .int x_steps, .ref mN, .int x_flags, .int x_writePlace, .int 0, .int x_writeValue, .int y_fault_36, .int 0, .int 0, .int x_atRegister, .int x_atPlace])), (mB, .inl (cY, 4096, .inl bf)), (mR, .inl (cG, 8, .inl rf)), (mN, .inl (cN, 8, .inl nf2_37)), (mO, .inl (cO, 400, .inl uf))]) [2, 3, 0, 4, 1] (by decide) rfl
    have hK9 := hK.sub (tys' := [(cY, .int), (cG, .int), (cN, .int), (cO, .int)]) [0, 1, 2, 3] rfl
    exact W.vret hx hb hr (fun t ht hW => ⟨⟨(x_flags, x_outCount, x_steps, x_flags, x_writePlace, 0, x_writeValue, y_fault_36, 0, 0, x_atRegister, x_atPlace, bf, rf, nf2_37, uf), rfl, ⟨hO, hB, hR⟩, by rw [ht]; exact hP9, va_K.moved hW.alike hK9, hD9⟩, hS.F ht⟩) hS.2.2 dX5_step_78
  · refine lv_aload_n hx hb dX5_step_66 rfl (lv_at hl 1 rfl) ?_
    refine lv_iload_n hx hb dX5_step_67 rfl (lv_at hl 0 rfl) ?_
    have hPc := hP.sub (ws' := [(m0, .inr (5, [.int x_thrown, .ref mB, .ref mR, .int x_flags, .ref mO, .int x_outCount, .int x_steps, .ref mN, .int x_flags, .int x_writePlace, .int 0, .int x_writeValue, .int y_fault_36, .int 0, .int 0, .int x_atRegister, .int x_atPlace])), (mB, .inl (cY, 4096, .inl bf)), (mN, .inl (cN, 8, .inl nf2_37))]) [2, 3, 4] rfl
    have hDc := hD.sub (ws' := [(m0, .inr (5, [.int x_thrown, .ref mB, .ref mR, .int x_flags, .ref mO, .int x_outCount, .int x_steps, .ref mN, .int x_flags, .int x_writePlace, .int 0, .int x_writeValue, .int y_fault_36, .int 0, .int 0, .int x_atRegister, .int x_atPlace])), (mB, .inl (cY, 4096, .inl bf)), (mN, .inl (cN, 8, .inl nf2_37))]) [2, 3, 4] (by decide) rfl
    have hKc := hK.sub (tys' := [(cY, .int), (cN, .int)]) [0, 2] rfl
    have hFc := va_free (wc := [(m0, .inr (5, [.int x_thrown, .ref mB, .ref mR, .int x_flags, .ref mO, .int x_outCount, .int x_steps, .ref mN, .int x_flags, .int x_writePlace, .int 0, .int x_writeValue, .int y_fault_36, .int 0, .int 0, .int x_atRegister, .int x_atPlace])), (mB, .inl (cY, 4096, .inl bf)), (mN, .inl (cN, 8, .inl nf2_37))]) hD hS hA [2, 3, 4] rfl
    refine va_callv (va_runV (C := RX5) (b := m0) (As := [.int r_34]) (rest := []) ⟨hx, hb, hml, hown, hts⟩ (s_X5_does l dC dI H.size m0 r_34 x_thrown mB mR x_flags mO x_outCount x_steps mN x_flags x_writePlace (0 : Int32) x_writeValue y_fault_36 (0 : Int32) (0 : Int32) x_atRegister x_atPlace cY bf cN nf2_37 hw_35.1 hw_35.2.1 (Or.inl rfl) hB) (cwV 1 hts gX5_step_X5_does rfl rfl rfl (by decide +kernel) ⟨Nat.le_of_ble_eq_true rfl, Nat.le_of_ble_eq_true rfl⟩) ⟨q_blind, va_recv hK hP (ci := 5) (q0 := 2) rfl rfl, fun U hU hW => ⟨rfl, q_pay hU hW hPc hKc hDc hN⟩⟩ rfl rfl hl.1 rfl (lv_room (Nat.le_of_ble_eq_true rfl)) dX5_step_68 ⟨show 0 + 0 ≤ 0 from by omega, show 0 + 0 ≤ 0 from by omega⟩) hS (fun q _ h => hFc q h) hFc (fun u9 t H locs ht hvm hw_41 hB hz1 hk1 hS => ?_)
    obtain ⟨y_nowFlags_42, y_writePlace_43, y_writeSize_44, y_writeValue_45, y_fault_46, y_halt_47, y_isByte_48, y_atRegister_49, y_atPlace_50, nf2_51⟩ := u9
    obtain ⟨hP1, hK1, hD1⟩ := hB
    rw [ht] at hP1
    obtain ⟨hP, hD⟩ := va_join (wr := [(mR, .inl (cG, 8, .inl rf)), (mO, .inl (cO, 400, .inl uf))]) (w1 := [(m0, .inr (5, [.int x_thrown, .ref mB, .ref mR, .int x_flags, .ref mO, .int x_outCount, .int x_steps, .ref mN, .int y_nowFlags_42, .int y_writePlace_43, .int y_writeSize_44, .int y_writeValue_45, .int y_fault_46, .int y_halt_47, .int y_isByte_48, .int y_atRegister_49, .int y_atPlace_50])), (mB, .inl (cY, 4096, .inl bf)), (mN, .inl (cN, 8, .inl nf2_51))]) hP hD [2, 3, 4] [0, 1] rfl rfl (by decide) (by decide) hk1 hFc hP1 hD1
    have hP : va_P (dC, dI) vwCl [(mR, .inl (cG, 8, .inl rf)), (mO, .inl (cO, 400, .inl uf)), (m0, .inr (5, [.int x_thrown, .ref mB, .ref mR, .int x_flags, .ref mO, .int x_outCount, .int x_steps, .ref mN, .int y_nowFlags_42, .int y_writePlace_43, .int y_writeSize_44, .int y_writeValue_45, .int y_fault_46, .int y_halt_47, .int y_isByte_48, .int y_atRegister_49, .int y_atPlace_50])), (mB, .inl (cY, 4096, .inl bf)), (mN, .inl (cN, 8, .inl nf2_51))] H := hP
    have hD : va_D A [(mR, .inl (cG, 8, .inl rf)), (mO, .inl (cO, 400, .inl uf)), (m0, .inr (5, [.int x_thrown, .ref mB, .ref mR, .int x_flags, .ref mO, .int x_outCount, .int x_steps, .ref mN, .int y_nowFlags_42, .int y_writePlace_43, .int y_writeSize_44, .int y_writeValue_45, .int y_fault_46, .int y_halt_47, .int y_isByte_48, .int y_atRegister_49, .int y_atPlace_50])), (mB, .inl (cY, 4096, .inl bf)), (mN, .inl (cN, 8, .inl nf2_51))] := hD
    refine W.widen (k := 0) (n := 0) (by omega) (by omega) ?_
    try dsimp only at hw_41
    refine lv_aload_n hx hb dX5_step_71 rfl (lv_at hl 1 rfl) ?_
    refine va_get (D := (dC, dI)) (ci := 5) (v := .int y_fault_46) (C := RX5) (T := TX5) (N := 17) hx hb hts (by decide +kernel) hown hK hP 2 rfl rfl 12 (by decide) (hts (.fieldLink RX5 48 "WordGuestModel" "fault" "I") (by decide +kernel)) (fun _ h9 => h9) rfl dX5_step_72 ?_
    refine lv_if_le (tgt := 79) hx hb dX5_step_75 (by decide) (fun c_52 => ?_) (fun c_52 => ?_)
    · refine lv_iconst (v := 0) hx hb dX5_step_79 (by decide) ?_
      refine lv_istore_n (lv' := [(2, .int 0), (1, .int r_34), (0, .ref m0)]) hx hb dX5_step_80 rfl hl (by decide) rfl (fun ls hl => ?_)
      refine lv_iload_n hx hb dX5_step_81 rfl (lv_at hl 0 rfl) ?_
      refine lv_bipush (v := 8) hx hb dX5_step_82 (by decide) ?_
      refine lv_icmp_ge (tgt := 105) hx hb dX5_step_84 (by decide) (fun c9 => absurd c9 (by decide)) (fun c_53 => ?_)
      refine lv_aload_n hx hb dX5_step_87 rfl (lv_at hl 2 rfl) ?_
      refine va_get (D := (dC, dI)) (ci := 5) (v := .ref mR) (C := RX5) (T := TX5) (N := 17) hx hb hts (by decide +kernel) hown hK hP 2 rfl rfl 2 (by decide) (hts (.fieldLink RX5 13 "WordGuestModel" "registers" "[I") (by decide +kernel)) (fun _ h9 => h9) rfl dX5_step_88 ?_
      refine lv_iload_n hx hb dX5_step_91 rfl (lv_at hl 0 rfl) ?_
      refine lv_aload_n hx hb dX5_step_92 rfl (lv_at hl 2 rfl) ?_
      refine va_get (D := (dC, dI)) (ci := 5) (v := .ref mN) (C := RX5) (T := TX5) (N := 17) hx hb hts (by decide +kernel) hown hK hP 2 rfl rfl 7 (by decide) (hts (.fieldLink RX5 19 "WordGuestModel" "now" "[I") (by decide +kernel)) (fun _ h9 => h9) rfl dX5_step_93 ?_
      refine lv_iload_n hx hb dX5_step_96 rfl (lv_at hl 0 rfl) ?_
      refine va_iald hx hb hK hP 4 2 rfl rfl (by unfold vp_in; decide) dX5_step_97 ?_
      have hw_54 : isW (nf2_51 (0 : Int32).toNatClampNeg) := okN_at hw_41.2.1 (fle c_52) (by unfold vp_in; decide)
      refine va_iast hx hb hK hP hD hS 0 1 rfl rfl (by unfold vp_in; decide) dX5_step_98 (fun H locs hP hD hS => ?_)
      have hP : va_P (dC, dI) vwCl [(mR, .inl (cG, 8, .inl (upd rf (0 : Int32).toNatClampNeg (nf2_51 (0 : Int32).toNatClampNeg)))), (mO, .inl (cO, 400, .inl uf)), (m0, .inr (5, [.int x_thrown, .ref mB, .ref mR, .int x_flags, .ref mO, .int x_outCount, .int x_steps, .ref mN, .int y_nowFlags_42, .int y_writePlace_43, .int y_writeSize_44, .int y_writeValue_45, .int y_fault_46, .int y_halt_47, .int y_isByte_48, .int y_atRegister_49, .int y_atPlace_50])), (mB, .inl (cY, 4096, .inl bf)), (mN, .inl (cN, 8, .inl nf2_51))] H := hP
      have hD : va_D A [(mR, .inl (cG, 8, .inl (upd rf (0 : Int32).toNatClampNeg (nf2_51 (0 : Int32).toNatClampNeg)))), (mO, .inl (cO, 400, .inl uf)), (m0, .inr (5, [.int x_thrown, .ref mB, .ref mR, .int x_flags, .ref mO, .int x_outCount, .int x_steps, .ref mN, .int y_nowFlags_42, .int y_writePlace_43, .int y_writeSize_44, .int y_writeValue_45, .int y_fault_46, .int y_halt_47, .int y_isByte_48, .int y_atRegister_49, .int y_atPlace_50])), (mB, .inl (cY, 4096, .inl bf)), (mN, .inl (cN, 8, .inl nf2_51))] := hD
      have hR_55 : okW (upd rf (0 : Int32).toNatClampNeg (nf2_51 (0 : Int32).toNatClampNeg)) := okW_upd hR hw_54 _
      generalize (upd rf (0 : Int32).toNatClampNeg (nf2_51 (0 : Int32).toNatClampNeg)) = g_56 at hP hD hR_55
      refine lv_iinc (v := 1) (lv' := [(2, .int 1), (1, .int r_34), (0, .ref m0)]) hx hb dX5_step_99 hl (k := 0) rfl (by decide) (by decide) rfl (fun ls hl => ?_)
      refine lv_goto (tgt := 81) hx hb dX5_step_102 (by decide) ?_
      refine lv_iload_n hx hb dX5_step_81 rfl (lv_at hl 0 rfl) ?_
      refine lv_bipush (v := 8) hx hb dX5_step_82 (by decide) ?_
      refine lv_icmp_ge (tgt := 105) hx hb dX5_step_84 (by decide) (fun c9 => absurd c9 (by decide)) (fun c_57 => ?_)
      refine lv_aload_n hx hb dX5_step_87 rfl (lv_at hl 2 rfl) ?_
      refine va_get (D := (dC, dI)) (ci := 5) (v := .ref mR) (C := RX5) (T := TX5) (N := 17) hx hb hts (by decide +kernel) hown hK hP 2 rfl rfl 2 (by decide) (hts (.fieldLink RX5 13 "WordGuestModel" "registers" "[I") (by decide +kernel)) (fun _ h9 => h9) rfl dX5_step_88 ?_
      refine lv_iload_n hx hb dX5_step_91 rfl (lv_at hl 0 rfl) ?_
      refine lv_aload_n hx hb dX5_step_92 rfl (lv_at hl 2 rfl) ?_
      refine va_get (D := (dC, dI)) (ci := 5) (v := .ref mN) (C := RX5) (T := TX5) (N := 17) hx hb hts (by decide +kernel) hown hK hP 2 rfl rfl 7 (by decide) (hts (.fieldLink RX5 19 "WordGuestModel" "now" "[I") (by decide +kernel)) (fun _ h9 => h9) rfl dX5_step_93 ?_
      refine lv_iload_n hx hb dX5_step_96 rfl (lv_at hl 0 rfl) ?_
      refine va_iald hx hb hK hP 4 2 rfl rfl (by unfold vp_in; decide) dX5_step_97 ?_
      have hw_58 : isW (nf2_51 (1 : Int32).toNatClampNeg) := okN_at hw_41.2.1 (fle c_52) (by unfold vp_in; decide)
      refine va_iast hx hb hK hP hD hS 0 1 rfl rfl (by unfold vp_in; decide) dX5_step_98 (fun H locs hP hD hS => ?_)
      have hP : va_P (dC, dI) vwCl [(mR, .inl (cG, 8, .inl (upd g_56 (1 : Int32).toNatClampNeg (nf2_51 (1 : Int32).toNatClampNeg)))), (mO, .inl (cO, 400, .inl uf)), (m0, .inr (5, [.int x_thrown, .ref mB, .ref mR, .int x_flags, .ref mO, .int x_outCount, .int x_steps, .ref mN, .int y_nowFlags_42, .int y_writePlace_43, .int y_writeSize_44, .int y_writeValue_45, .int y_fault_46, .int y_halt_47, .int y_isByte_48, .int y_atRegister_49, .int y_atPlace_50])), (mB, .inl (cY, 4096, .inl bf)), (mN, .inl (cN, 8, .inl nf2_51))] H := hP
      have hD : va_D A [(mR, .inl (cG, 8, .inl (upd g_56 (1 : Int32).toNatClampNeg (nf2_51 (1 : Int32).toNatClampNeg)))), (mO, .inl (cO, 400, .inl uf)), (m0, .inr (5, [.int x_thrown, .ref mB, .ref mR, .int x_flags, .ref mO, .int x_outCount, .int x_steps, .ref mN, .int y_nowFlags_42, .int y_writePlace_43, .int y_writeSize_44, .int y_writeValue_45, .int y_fault_46, .int y_halt_47, .int y_isByte_48, .int y_atRegister_49, .int y_atPlace_50])), (mB, .inl (cY, 4096, .inl bf)), (mN, .inl (cN, 8, .inl nf2_51))] := hD
      have hR_59 : okW (upd g_56 (1 : Int32).toNatClampNeg (nf2_51 (1 : Int32).toNatClampNeg)) := okW_upd hR_55 hw_58 _
      generalize (upd g_56 (1 : Int32).toNatClampNeg (nf2_51 (1 : Int32).toNatClampNeg)) = g_60 at hP hD hR_59
      refine lv_iinc (v := 2) (lv' := [(2, .int 2), (1, .int r_34), (0, .ref m0)]) hx hb dX5_step_99 hl (k := 0) rfl (by decide) (by decide) rfl (fun ls hl => ?_)
      refine lv_goto (tgt := 81) hx hb dX5_step_102 (by decide) ?_
      refine lv_iload_n hx hb dX5_step_81 rfl (lv_at hl 0 rfl) ?_
      refine lv_bipush (v := 8) hx hb dX5_step_82 (by decide) ?_
      refine lv_icmp_ge (tgt := 105) hx hb dX5_step_84 (by decide) (fun c9 => absurd c9 (by decide)) (fun c_61 => ?_)
      refine lv_aload_n hx hb dX5_step_87 rfl (lv_at hl 2 rfl) ?_
      refine va_get (D := (dC, dI)) (ci := 5) (v := .ref mR) (C := RX5) (T := TX5) (N := 17) hx hb hts (by decide +kernel) hown hK hP 2 rfl rfl 2 (by decide) (hts (.fieldLink RX5 13 "WordGuestModel" "registers" "[I") (by decide +kernel)) (fun _ h9 => h9) rfl dX5_step_88 ?_
      refine lv_iload_n hx hb dX5_step_91 rfl (lv_at hl 0 rfl) ?_
      refine lv_aload_n hx hb dX5_step_92 rfl (lv_at hl 2 rfl) ?_
      refine va_get (D := (dC, dI)) (ci := 5) (v := .ref mN) (C := RX5) (T := TX5) (N := 17) hx hb hts (by decide +kernel) hown hK hP 2 rfl rfl 7 (by decide) (hts (.fieldLink RX5 19 "WordGuestModel" "now" "[I") (by decide +kernel)) (fun _ h9 => h9) rfl dX5_step_93 ?_
      refine lv_iload_n hx hb dX5_step_96 rfl (lv_at hl 0 rfl) ?_
      refine va_iald hx hb hK hP 4 2 rfl rfl (by unfold vp_in; decide) dX5_step_97 ?_
      have hw_62 : isW (nf2_51 (2 : Int32).toNatClampNeg) := okN_at hw_41.2.1 (fle c_52) (by unfold vp_in; decide)
      refine va_iast hx hb hK hP hD hS 0 1 rfl rfl (by unfold vp_in; decide) dX5_step_98 (fun H locs hP hD hS => ?_)
      have hP : va_P (dC, dI) vwCl [(mR, .inl (cG, 8, .inl (upd g_60 (2 : Int32).toNatClampNeg (nf2_51 (2 : Int32).toNatClampNeg)))), (mO, .inl (cO, 400, .inl uf)), (m0, .inr (5, [.int x_thrown, .ref mB, .ref mR, .int x_flags, .ref mO, .int x_outCount, .int x_steps, .ref mN, .int y_nowFlags_42, .int y_writePlace_43, .int y_writeSize_44, .int y_writeValue_45, .int y_fault_46, .int y_halt_47, .int y_isByte_48, .int y_atRegister_49, .int y_atPlace_50])), (mB, .inl (cY, 4096, .inl bf)), (mN, .inl (cN, 8, .inl nf2_51))] H := hP
      have hD : va_D A [(mR, .inl (cG, 8, .inl (upd g_60 (2 : Int32).toNatClampNeg (nf2_51 (2 : Int32).toNatClampNeg)))), (mO, .inl (cO, 400, .inl uf)), (m0, .inr (5, [.int x_thrown, .ref mB, .ref mR, .int x_flags, .ref mO, .int x_outCount, .int x_steps, .ref mN, .int y_nowFlags_42, .int y_writePlace_43, .int y_writeSize_44, .int y_writeValue_45, .int y_fault_46, .int y_halt_47, .int y_isByte_48, .int y_atRegister_49, .int y_atPlace_50])), (mB, .inl (cY, 4096, .inl bf)), (mN, .inl (cN, 8, .inl nf2_51))] := hD
      have hR_63 : okW (upd g_60 (2 : Int32).toNatClampNeg (nf2_51 (2 : Int32).toNatClampNeg)) := okW_upd hR_59 hw_62 _
      generalize (upd g_60 (2 : Int32).toNatClampNeg (nf2_51 (2 : Int32).toNatClampNeg)) = g_64 at hP hD hR_63
      refine lv_iinc (v := 3) (lv' := [(2, .int 3), (1, .int r_34), (0, .ref m0)]) hx hb dX5_step_99 hl (k := 0) rfl (by decide) (by decide) rfl (fun ls hl => ?_)
      refine lv_goto (tgt := 81) hx hb dX5_step_102 (by decide) ?_
      refine lv_iload_n hx hb dX5_step_81 rfl (lv_at hl 0 rfl) ?_
      refine lv_bipush (v := 8) hx hb dX5_step_82 (by decide) ?_
      refine lv_icmp_ge (tgt := 105) hx hb dX5_step_84 (by decide) (fun c9 => absurd c9 (by decide)) (fun c_65 => ?_)
      refine lv_aload_n hx hb dX5_step_87 rfl (lv_at hl 2 rfl) ?_
      refine va_get (D := (dC, dI)) (ci := 5) (v := .ref mR) (C := RX5) (T := TX5) (N := 17) hx hb hts (by decide +kernel) hown hK hP 2 rfl rfl 2 (by decide) (hts (.fieldLink RX5 13 "WordGuestModel" "registers" "[I") (by decide +kernel)) (fun _ h9 => h9) rfl dX5_step_88 ?_
      refine lv_iload_n hx hb dX5_step_91 rfl (lv_at hl 0 rfl) ?_
      refine lv_aload_n hx hb dX5_step_92 rfl (lv_at hl 2 rfl) ?_
      refine va_get (D := (dC, dI)) (ci := 5) (v := .ref mN) (C := RX5) (T := TX5) (N := 17) hx hb hts (by decide +kernel) hown hK hP 2 rfl rfl 7 (by decide) (hts (.fieldLink RX5 19 "WordGuestModel" "now" "[I") (by decide +kernel)) (fun _ h9 => h9) rfl dX5_step_93 ?_
      refine lv_iload_n hx hb dX5_step_96 rfl (lv_at hl 0 rfl) ?_
      refine va_iald hx hb hK hP 4 2 rfl rfl (by unfold vp_in; decide) dX5_step_97 ?_
      have hw_66 : isW (nf2_51 (3 : Int32).toNatClampNeg) := okN_at hw_41.2.1 (fle c_52) (by unfold vp_in; decide)
      refine va_iast hx hb hK hP hD hS 0 1 rfl rfl (by unfold vp_in; decide) dX5_step_98 (fun H locs hP hD hS => ?_)
      have hP : va_P (dC, dI) vwCl [(mR, .inl (cG, 8, .inl (upd g_64 (3 : Int32).toNatClampNeg (nf2_51 (3 : Int32).toNatClampNeg)))), (mO, .inl (cO, 400, .inl uf)), (m0, .inr (5, [.int x_thrown, .ref mB, .ref mR, .int x_flags, .ref mO, .int x_outCount, .int x_steps, .ref mN, .int y_nowFlags_42, .int y_writePlace_43, .int y_writeSize_44, .int y_writeValue_45, .int y_fault_46, .int y_halt_47, .int y_isByte_48, .int y_atRegister_49, .int y_atPlace_50])), (mB, .inl (cY, 4096, .inl bf)), (mN, .inl (cN, 8, .inl nf2_51))] H := hP
      have hD : va_D A [(mR, .inl (cG, 8, .inl (upd g_64 (3 : Int32).toNatClampNeg (nf2_51 (3 : Int32).toNatClampNeg)))), (mO, .inl (cO, 400, .inl uf)), (m0, .inr (5, [.int x_thrown, .ref mB, .ref mR, .int x_flags, .ref mO, .int x_outCount, .int x_steps, .ref mN, .int y_nowFlags_42, .int y_writePlace_43, .int y_writeSize_44, .int y_writeValue_45, .int y_fault_46, .int y_halt_47, .int y_isByte_48, .int y_atRegister_49, .int y_atPlace_50])), (mB, .inl (cY, 4096, .inl bf)), (mN, .inl (cN, 8, .inl nf2_51))] := hD
      have hR_67 : okW (upd g_64 (3 : Int32).toNatClampNeg (nf2_51 (3 : Int32).toNatClampNeg)) := okW_upd hR_63 hw_66 _
      generalize (upd g_64 (3 : Int32).toNatClampNeg (nf2_51 (3 : Int32).toNatClampNeg)) = g_68 at hP hD hR_67
      refine lv_iinc (v := 4) (lv' := [(2, .int 4), (1, .int r_34), (0, .ref m0)]) hx hb dX5_step_99 hl (k := 0) rfl (by decide) (by decide) rfl (fun ls hl => ?_)
      refine lv_goto (tgt := 81) hx hb dX5_step_102 (by decide) ?_
      refine lv_iload_n hx hb dX5_step_81 rfl (lv_at hl 0 rfl) ?_
      refine lv_bipush (v := 8) hx hb dX5_step_82 (by decide) ?_
      refine lv_icmp_ge (tgt := 105) hx hb dX5_step_84 (by decide) (fun c9 => absurd c9 (by decide)) (fun c_69 => ?_)
      refine lv_aload_n hx hb dX5_step_87 rfl (lv_at hl 2 rfl) ?_
      refine va_get (D := (dC, dI)) (ci := 5) (v := .ref mR) (C := RX5) (T := TX5) (N := 17) hx hb hts (by decide +kernel) hown hK hP 2 rfl rfl 2 (by decide) (hts (.fieldLink RX5 13 "WordGuestModel" "registers" "[I") (by decide +kernel)) (fun _ h9 => h9) rfl dX5_step_88 ?_
      refine lv_iload_n hx hb dX5_step_91 rfl (lv_at hl 0 rfl) ?_
      refine lv_aload_n hx hb dX5_step_92 rfl (lv_at hl 2 rfl) ?_
      refine va_get (D := (dC, dI)) (ci := 5) (v := .ref mN) (C := RX5) (T := TX5) (N := 17) hx hb hts (by decide +kernel) hown hK hP 2 rfl rfl 7 (by decide) (hts (.fieldLink RX5 19 "WordGuestModel" "now" "[I") (by decide +kernel)) (fun _ h9 => h9) rfl dX5_step_93 ?_
      refine lv_iload_n hx hb dX5_step_96 rfl (lv_at hl 0 rfl) ?_
      refine va_iald hx hb hK hP 4 2 rfl rfl (by unfold vp_in; decide) dX5_step_97 ?_
      have hw_70 : isW (nf2_51 (4 : Int32).toNatClampNeg) := okN_at hw_41.2.1 (fle c_52) (by unfold vp_in; decide)
      refine va_iast hx hb hK hP hD hS 0 1 rfl rfl (by unfold vp_in; decide) dX5_step_98 (fun H locs hP hD hS => ?_)
      have hP : va_P (dC, dI) vwCl [(mR, .inl (cG, 8, .inl (upd g_68 (4 : Int32).toNatClampNeg (nf2_51 (4 : Int32).toNatClampNeg)))), (mO, .inl (cO, 400, .inl uf)), (m0, .inr (5, [.int x_thrown, .ref mB, .ref mR, .int x_flags, .ref mO, .int x_outCount, .int x_steps, .ref mN, .int y_nowFlags_42, .int y_writePlace_43, .int y_writeSize_44, .int y_writeValue_45, .int y_fault_46, .int y_halt_47, .int y_isByte_48, .int y_atRegister_49, .int y_atPlace_50])), (mB, .inl (cY, 4096, .inl bf)), (mN, .inl (cN, 8, .inl nf2_51))] H := hP
      have hD : va_D A [(mR, .inl (cG, 8, .inl (upd g_68 (4 : Int32).toNatClampNeg (nf2_51 (4 : Int32).toNatClampNeg)))), (mO, .inl (cO, 400, .inl uf)), (m0, .inr (5, [.int x_thrown, .ref mB, .ref mR, .int x_flags, .ref mO, .int x_outCount, .int x_steps, .ref mN, .int y_nowFlags_42, .int y_writePlace_43, .int y_writeSize_44, .int y_writeValue_45, .int y_fault_46, .int y_halt_47, .int y_isByte_48, .int y_atRegister_49, .int y_atPlace_50])), (mB, .inl (cY, 4096, .inl bf)), (mN, .inl (cN, 8, .inl nf2_51))] := hD
      have hR_71 : okW (upd g_68 (4 : Int32).toNatClampNeg (nf2_51 (4 : Int32).toNatClampNeg)) := okW_upd hR_67 hw_70 _
      generalize (upd g_68 (4 : Int32).toNatClampNeg (nf2_51 (4 : Int32).toNatClampNeg)) = g_72 at hP hD hR_71
      refine lv_iinc (v := 5) (lv' := [(2, .int 5), (1, .int r_34), (0, .ref m0)]) hx hb dX5_step_99 hl (k := 0) rfl (by decide) (by decide) rfl (fun ls hl => ?_)
      refine lv_goto (tgt := 81) hx hb dX5_step_102 (by decide) ?_
      refine lv_iload_n hx hb dX5_step_81 rfl (lv_at hl 0 rfl) ?_
      refine lv_bipush (v := 8) hx hb dX5_step_82 (by decide) ?_
      refine lv_icmp_ge (tgt := 105) hx hb dX5_step_84 (by decide) (fun c9 => absurd c9 (by decide)) (fun c_73 => ?_)
      refine lv_aload_n hx hb dX5_step_87 rfl (lv_at hl 2 rfl) ?_
      refine va_get (D := (dC, dI)) (ci := 5) (v := .ref mR) (C := RX5) (T := TX5) (N := 17) hx hb hts (by decide +kernel) hown hK hP 2 rfl rfl 2 (by decide) (hts (.fieldLink RX5 13 "WordGuestModel" "registers" "[I") (by decide +kernel)) (fun _ h9 => h9) rfl dX5_step_88 ?_
      refine lv_iload_n hx hb dX5_step_91 rfl (lv_at hl 0 rfl) ?_
      refine lv_aload_n hx hb dX5_step_92 rfl (lv_at hl 2 rfl) ?_
      refine va_get (D := (dC, dI)) (ci := 5) (v := .ref mN) (C := RX5) (T := TX5) (N := 17) hx hb hts (by decide +kernel) hown hK hP 2 rfl rfl 7 (by decide) (hts (.fieldLink RX5 19 "WordGuestModel" "now" "[I") (by decide +kernel)) (fun _ h9 => h9) rfl dX5_step_93 ?_
      refine lv_iload_n hx hb dX5_step_96 rfl (lv_at hl 0 rfl) ?_
      refine va_iald hx hb hK hP 4 2 rfl rfl (by unfold vp_in; decide) dX5_step_97 ?_
      have hw_74 : isW (nf2_51 (5 : Int32).toNatClampNeg) := okN_at hw_41.2.1 (fle c_52) (by unfold vp_in; decide)
      refine va_iast hx hb hK hP hD hS 0 1 rfl rfl (by unfold vp_in; decide) dX5_step_98 (fun H locs hP hD hS => ?_)
      have hP : va_P (dC, dI) vwCl [(mR, .inl (cG, 8, .inl (upd g_72 (5 : Int32).toNatClampNeg (nf2_51 (5 : Int32).toNatClampNeg)))), (mO, .inl (cO, 400, .inl uf)), (m0, .inr (5, [.int x_thrown, .ref mB, .ref mR, .int x_flags, .ref mO, .int x_outCount, .int x_steps, .ref mN, .int y_nowFlags_42, .int y_writePlace_43, .int y_writeSize_44, .int y_writeValue_45, .int y_fault_46, .int y_halt_47, .int y_isByte_48, .int y_atRegister_49, .int y_atPlace_50])), (mB, .inl (cY, 4096, .inl bf)), (mN, .inl (cN, 8, .inl nf2_51))] H := hP
      have hD : va_D A [(mR, .inl (cG, 8, .inl (upd g_72 (5 : Int32).toNatClampNeg (nf2_51 (5 : Int32).toNatClampNeg)))), (mO, .inl (cO, 400, .inl uf)), (m0, .inr (5, [.int x_thrown, .ref mB, .ref mR, .int x_flags, .ref mO, .int x_outCount, .int x_steps, .ref mN, .int y_nowFlags_42, .int y_writePlace_43, .int y_writeSize_44, .int y_writeValue_45, .int y_fault_46, .int y_halt_47, .int y_isByte_48, .int y_atRegister_49, .int y_atPlace_50])), (mB, .inl (cY, 4096, .inl bf)), (mN, .inl (cN, 8, .inl nf2_51))] := hD
      have hR_75 : okW (upd g_72 (5 : Int32).toNatClampNeg (nf2_51 (5 : Int32).toNatClampNeg)) := okW_upd hR_71 hw_74 _
      generalize (upd g_72 (5 : Int32).toNatClampNeg (nf2_51 (5 : Int32).toNatClampNeg)) = g_76 at hP hD hR_75
      refine lv_iinc (v := 6) (lv' := [(2, .int 6), (1, .int r_34), (0, .ref m0)]) hx hb dX5_step_99 hl (k := 0) rfl (by decide) (by decide) rfl (fun ls hl => ?_)
      refine lv_goto (tgt := 81) hx hb dX5_step_102 (by decide) ?_
      refine lv_iload_n hx hb dX5_step_81 rfl (lv_at hl 0 rfl) ?_
      refine lv_bipush (v := 8) hx hb dX5_step_82 (by decide) ?_
      refine lv_icmp_ge (tgt := 105) hx hb dX5_step_84 (by decide) (fun c9 => absurd c9 (by decide)) (fun c_77 => ?_)
      refine lv_aload_n hx hb dX5_step_87 rfl (lv_at hl 2 rfl) ?_
      refine va_get (D := (dC, dI)) (ci := 5) (v := .ref mR) (C := RX5) (T := TX5) (N := 17) hx hb hts (by decide +kernel) hown hK hP 2 rfl rfl 2 (by decide) (hts (.fieldLink RX5 13 "WordGuestModel" "registers" "[I") (by decide +kernel)) (fun _ h9 => h9) rfl dX5_step_88 ?_
      refine lv_iload_n hx hb dX5_step_91 rfl (lv_at hl 0 rfl) ?_
      refine lv_aload_n hx hb dX5_step_92 rfl (lv_at hl 2 rfl) ?_
      refine va_get (D := (dC, dI)) (ci := 5) (v := .ref mN) (C := RX5) (T := TX5) (N := 17) hx hb hts (by decide +kernel) hown hK hP 2 rfl rfl 7 (by decide) (hts (.fieldLink RX5 19 "WordGuestModel" "now" "[I") (by decide +kernel)) (fun _ h9 => h9) rfl dX5_step_93 ?_
      refine lv_iload_n hx hb dX5_step_96 rfl (lv_at hl 0 rfl) ?_
      refine va_iald hx hb hK hP 4 2 rfl rfl (by unfold vp_in; decide) dX5_step_97 ?_
      have hw_78 : isW (nf2_51 (6 : Int32).toNatClampNeg) := okN_at hw_41.2.1 (fle c_52) (by unfold vp_in; decide)
      refine va_iast hx hb hK hP hD hS 0 1 rfl rfl (by unfold vp_in; decide) dX5_step_98 (fun H locs hP hD hS => ?_)
      have hP : va_P (dC, dI) vwCl [(mR, .inl (cG, 8, .inl (upd g_76 (6 : Int32).toNatClampNeg (nf2_51 (6 : Int32).toNatClampNeg)))), (mO, .inl (cO, 400, .inl uf)), (m0, .inr (5, [.int x_thrown, .ref mB, .ref mR, .int x_flags, .ref mO, .int x_outCount, .int x_steps, .ref mN, .int y_nowFlags_42, .int y_writePlace_43, .int y_writeSize_44, .int y_writeValue_45, .int y_fault_46, .int y_halt_47, .int y_isByte_48, .int y_atRegister_49, .int y_atPlace_50])), (mB, .inl (cY, 4096, .inl bf)), (mN, .inl (cN, 8, .inl nf2_51))] H := hP
      have hD : va_D A [(mR, .inl (cG, 8, .inl (upd g_76 (6 : Int32).toNatClampNeg (nf2_51 (6 : Int32).toNatClampNeg)))), (mO, .inl (cO, 400, .inl uf)), (m0, .inr (5, [.int x_thrown, .ref mB, .ref mR, .int x_flags, .ref mO, .int x_outCount, .int x_steps, .ref mN, .int y_nowFlags_42, .int y_writePlace_43, .int y_writeSize_44, .int y_writeValue_45, .int y_fault_46, .int y_halt_47, .int y_isByte_48, .int y_atRegister_49, .int y_atPlace_50])), (mB, .inl (cY, 4096, .inl bf)), (mN, .inl (cN, 8, .inl nf2_51))] := hD
      have hR_79 : okW (upd g_76 (6 : Int32).toNatClampNeg (nf2_51 (6 : Int32).toNatClampNeg)) := okW_upd hR_75 hw_78 _
      generalize (upd g_76 (6 : Int32).toNatClampNeg (nf2_51 (6 : Int32).toNatClampNeg)) = g_80 at hP hD hR_79
      refine lv_iinc (v := 7) (lv' := [(2, .int 7), (1, .int r_34), (0, .ref m0)]) hx hb dX5_step_99 hl (k := 0) rfl (by decide) (by decide) rfl (fun ls hl => ?_)
      refine lv_goto (tgt := 81) hx hb dX5_step_102 (by decide) ?_
      refine lv_iload_n hx hb dX5_step_81 rfl (lv_at hl 0 rfl) ?_
      refine lv_bipush (v := 8) hx hb dX5_step_82 (by decide) ?_
      refine lv_icmp_ge (tgt := 105) hx hb dX5_step_84 (by decide) (fun c9 => absurd c9 (by decide)) (fun c_81 => ?_)
      refine lv_aload_n hx hb dX5_step_87 rfl (lv_at hl 2 rfl) ?_
      refine va_get (D := (dC, dI)) (ci := 5) (v := .ref mR) (C := RX5) (T := TX5) (N := 17) hx hb hts (by decide +kernel) hown hK hP 2 rfl rfl 2 (by decide) (hts (.fieldLink RX5 13 "WordGuestModel" "registers" "[I") (by decide +kernel)) (fun _ h9 => h9) rfl dX5_step_88 ?_
      refine lv_iload_n hx hb dX5_step_91 rfl (lv_at hl 0 rfl) ?_
      refine lv_aload_n hx hb dX5_step_92 rfl (lv_at hl 2 rfl) ?_
      refine va_get (D := (dC, dI)) (ci := 5) (v := .ref mN) (C := RX5) (T := TX5) (N := 17) hx hb hts (by decide +kernel) hown hK hP 2 rfl rfl 7 (by decide) (hts (.fieldLink RX5 19 "WordGuestModel" "now" "[I") (by decide +kernel)) (fun _ h9 => h9) rfl dX5_step_93 ?_
      refine lv_iload_n hx hb dX5_step_96 rfl (lv_at hl 0 rfl) ?_
      refine va_iald hx hb hK hP 4 2 rfl rfl (by unfold vp_in; decide) dX5_step_97 ?_
      have hw_82 : isW (nf2_51 (7 : Int32).toNatClampNeg) := okN_at hw_41.2.1 (fle c_52) (by unfold vp_in; decide)
      refine va_iast hx hb hK hP hD hS 0 1 rfl rfl (by unfold vp_in; decide) dX5_step_98 (fun H locs hP hD hS => ?_)
      have hP : va_P (dC, dI) vwCl [(mR, .inl (cG, 8, .inl (upd g_80 (7 : Int32).toNatClampNeg (nf2_51 (7 : Int32).toNatClampNeg)))), (mO, .inl (cO, 400, .inl uf)), (m0, .inr (5, [.int x_thrown, .ref mB, .ref mR, .int x_flags, .ref mO, .int x_outCount, .int x_steps, .ref mN, .int y_nowFlags_42, .int y_writePlace_43, .int y_writeSize_44, .int y_writeValue_45, .int y_fault_46, .int y_halt_47, .int y_isByte_48, .int y_atRegister_49, .int y_atPlace_50])), (mB, .inl (cY, 4096, .inl bf)), (mN, .inl (cN, 8, .inl nf2_51))] H := hP
      have hD : va_D A [(mR, .inl (cG, 8, .inl (upd g_80 (7 : Int32).toNatClampNeg (nf2_51 (7 : Int32).toNatClampNeg)))), (mO, .inl (cO, 400, .inl uf)), (m0, .inr (5, [.int x_thrown, .ref mB, .ref mR, .int x_flags, .ref mO, .int x_outCount, .int x_steps, .ref mN, .int y_nowFlags_42, .int y_writePlace_43, .int y_writeSize_44, .int y_writeValue_45, .int y_fault_46, .int y_halt_47, .int y_isByte_48, .int y_atRegister_49, .int y_atPlace_50])), (mB, .inl (cY, 4096, .inl bf)), (mN, .inl (cN, 8, .inl nf2_51))] := hD
      have hR_83 : okW (upd g_80 (7 : Int32).toNatClampNeg (nf2_51 (7 : Int32).toNatClampNeg)) := okW_upd hR_79 hw_82 _
      generalize (upd g_80 (7 : Int32).toNatClampNeg (nf2_51 (7 : Int32).toNatClampNeg)) = g_84 at hP hD hR_83
      refine lv_iinc (v := 8) (lv' := [(2, .int 8), (1, .int r_34), (0, .ref m0)]) hx hb dX5_step_99 hl (k := 0) rfl (by decide) (by decide) rfl (fun ls hl => ?_)
      refine lv_goto (tgt := 81) hx hb dX5_step_102 (by decide) ?_
      refine lv_iload_n hx hb dX5_step_81 rfl (lv_at hl 0 rfl) ?_
      refine lv_bipush (v := 8) hx hb dX5_step_82 (by decide) ?_
      refine lv_icmp_ge (tgt := 105) hx hb dX5_step_84 (by decide) (fun c_85 => ?_) (fun c9 => absurd (by decide) c9)
      refine lv_aload_n hx hb dX5_step_105 rfl (lv_at hl 2 rfl) ?_
      refine lv_aload_n hx hb dX5_step_106 rfl (lv_at hl 2 rfl) ?_
      refine va_get (D := (dC, dI)) (ci := 5) (v := .int y_nowFlags_42) (C := RX5) (T := TX5) (N := 17) hx hb hts (by decide +kernel) hown hK hP 2 rfl rfl 8 (by decide) (hts (.fieldLink RX5 90 "WordGuestModel" "nowFlags" "I") (by decide +kernel)) (fun _ h9 => h9) rfl dX5_step_107 ?_
      refine va_put (D := (dC, dI)) (ci := 5) (v := .int y_nowFlags_42) (ty := .int) (C := RX5) (T := TX5) (N := 17) hx hb hts (by decide +kernel) tyX5 tyX5_ok nmX5 hown hK hP hD hS 2 rfl rfl 3 (by decide) (hts (.fieldLink RX5 39 "WordGuestModel" "flags" "I") (by decide +kernel)) (fun _ h9 => h9) rfl (by decide +kernel) rfl rfl (Nat.le_of_ble_eq_true rfl) dX5_step_110 (fun H locs hP hD hS => ?_)
      have hP : va_P (dC, dI) vwCl [(mR, .inl (cG, 8, .inl g_84)), (mO, .inl (cO, 400, .inl uf)), (m0, .inr (5, [.int x_thrown, .ref mB, .ref mR, .int y_nowFlags_42, .ref mO, .int x_outCount, .int x_steps, .ref mN, .int y_nowFlags_42, .int y_writePlace_43, .int y_writeSize_44, .int y_writeValue_45, .int y_fault_46, .int y_halt_47, .int y_isByte_48, .int y_atRegister_49, .int y_atPlace_50])), (mB, .inl (cY, 4096, .inl bf)), (mN, .inl (cN, 8, .inl nf2_51))] H := hP
      have hD : va_D A [(mR, .inl (cG, 8, .inl g_84)), (mO, .inl (cO, 400, .inl uf)), (m0, .inr (5, [.int x_thrown, .ref mB, .ref mR, .int y_nowFlags_42, .ref mO, .int x_outCount, .int x_steps, .ref mN, .int y_nowFlags_42, .int y_writePlace_43, .int y_writeSize_44, .int y_writeValue_45, .int y_fault_46, .int y_halt_47, .int y_isByte_48, .int y_atRegister_49, .int y_atPlace_50])), (mB, .inl (cY, 4096, .inl bf)), (mN, .inl (cN, 8, .inl nf2_51))] := hD
      refine lv_aload_n hx hb dX5_step_113 rfl (lv_at hl 2 rfl) ?_
      refine va_get (D := (dC, dI)) (ci := 5) (v := .int y_writeSize_44) (C := RX5) (T := TX5) (N := 17) hx hb hts (by decide +kernel) hown hK hP 2 rfl rfl 10 (by decide) (hts (.fieldLink RX5 80 "WordGuestModel" "writeSize" "I") (by decide +kernel)) (fun _ h9 => h9) rfl dX5_step_114 ?_
      refine lv_iconst (v := 1) hx hb dX5_step_117 (by decide) ?_
      refine lv_icmp_ne (tgt := 141) hx hb dX5_step_118 (by decide) (fun c_86 => ?_) (fun c_86 => ?_)
      · refine lv_aload_n hx hb dX5_step_141 rfl (lv_at hl 2 rfl) ?_
        refine va_get (D := (dC, dI)) (ci := 5) (v := .int y_writeSize_44) (C := RX5) (T := TX5) (N := 17) hx hb hts (by decide +kernel) hown hK hP 2 rfl rfl 10 (by decide) (hts (.fieldLink RX5 80 "WordGuestModel" "writeSize" "I") (by decide +kernel)) (fun _ h9 => h9) rfl dX5_step_142 ?_
        refine lv_iconst (v := 2) hx hb dX5_step_145 (by decide) ?_
        refine lv_icmp_ne (tgt := 161) hx hb dX5_step_146 (by decide) (fun c_87 => ?_) (fun c_87 => ?_)
        · refine lv_aload_n hx hb dX5_step_161 rfl (lv_at hl 2 rfl) ?_
          refine va_get (D := (dC, dI)) (ci := 5) (v := .int y_writeSize_44) (C := RX5) (T := TX5) (N := 17) hx hb hts (by decide +kernel) hown hK hP 2 rfl rfl 10 (by decide) (hts (.fieldLink RX5 80 "WordGuestModel" "writeSize" "I") (by decide +kernel)) (fun _ h9 => h9) rfl dX5_step_162 ?_
          refine lv_if_le (tgt := 233) hx hb dX5_step_165 (by decide) (fun c_88 => ?_) (fun c_88 => ?_)
          · refine lv_aload_n hx hb dX5_step_233 rfl (lv_at hl 2 rfl) ?_
            refine lv_dup hx hb dX5_step_234 rfl ?_
            refine va_get (D := (dC, dI)) (ci := 5) (v := .int x_steps) (C := RX5) (T := TX5) (N := 17) hx hb hts (by decide +kernel) hown hK hP 2 rfl rfl 6 (by decide) (hts (.fieldLink RX5 42 "WordGuestModel" "steps" "I") (by decide +kernel)) (fun _ h9 => h9) rfl dX5_step_235 ?_
            refine lv_iconst (v := 1) hx hb dX5_step_238 (by decide) ?_
            refine lv_iadd hx hb dX5_step_239 ?_
            refine va_put (D := (dC, dI)) (ci := 5) (v := .int (x_steps + 1)) (ty := .int) (C := RX5) (T := TX5) (N := 17) hx hb hts (by decide +kernel) tyX5 tyX5_ok nmX5 hown hK hP hD hS 2 rfl rfl 6 (by decide) (hts (.fieldLink RX5 42 "WordGuestModel" "steps" "I") (by decide +kernel)) (fun _ h9 => h9) rfl (by decide +kernel) rfl rfl (Nat.le_of_ble_eq_true rfl) dX5_step_240 (fun H locs hP hD hS => ?_)
            have hP : va_P (dC, dI) vwCl [(mR, .inl (cG, 8, .inl g_84)), (mO, .inl (cO, 400, .inl uf)), (m0, .inr (5, [.int x_thrown, .ref mB, .ref mR, .int y_nowFlags_42, .ref mO, .int x_outCount, .int (x_steps + 1), .ref mN, .int y_nowFlags_42, .int y_writePlace_43, .int y_writeSize_44, .int y_writeValue_45, .int y_fault_46, .int y_halt_47, .int y_isByte_48, .int y_atRegister_49, .int y_atPlace_50])), (mB, .inl (cY, 4096, .inl bf)), (mN, .inl (cN, 8, .inl nf2_51))] H := hP
            have hD : va_D A [(mR, .inl (cG, 8, .inl g_84)), (mO, .inl (cO, 400, .inl uf)), (m0, .inr (5, [.int x_thrown, .ref mB, .ref mR, .int y_nowFlags_42, .ref mO, .int x_outCount, .int (x_steps + 1), .ref mN, .int y_nowFlags_42, .int y_writePlace_43, .int y_writeSize_44, .int y_writeValue_45, .int y_fault_46, .int y_halt_47, .int y_isByte_48, .int y_atRegister_49, .int y_atPlace_50])), (mB, .inl (cY, 4096, .inl bf)), (mN, .inl (cN, 8, .inl nf2_51))] := hD
            have hP9 := hP.sub (ws' := [(m0, .inr (5, [.int x_thrown, .ref mB, .ref mR, .int y_nowFlags_42, .ref mO, .int x_outCount, .int (x_steps + 1), .ref mN, .int y_nowFlags_42, .int y_writePlace_43, .int y_writeSize_44, .int y_writeValue_45, .int y_fault_46, .int y_halt_47, .int y_isByte_48, .int y_atRegister_49, .int y_atPlace_50])), (mB, .inl (cY, 4096, .inl bf)), (mR, .inl (cG, 8, .inl g_84)), (mN, .inl (cN, 8, .inl nf2_51)), (mO, .inl (cO, 400, .inl uf))]) [2, 3, 0, 4, 1] rfl
            have hD9 := hD.sub (ws' := [(m0, .inr (5, [.int x_thrown, .ref mB, .ref mR, .int y_nowFlags_42, .ref mO, .int x_outCount, .int (x_steps + 1), .ref mN, .int y_nowFlags_42, .int y_writePlace_43, .int y_writeSize_44, .int y_writeValue_45, .int y_fault_46, .int y_halt_47, .int y_isByte_48, .int y_atRegister_49, .int y_atPlace_50])), (mB, .inl (cY, 4096, .inl bf)), (mR, .inl (cG, 8, .inl g_84)), (mN, .inl (cN, 8, .inl nf2_51)), (mO, .inl (cO, 400, .inl uf))]) [2, 3, 0, 4, 1] (by decide) rfl
            have hK9 := hK.sub (tys' := [(cY, .int), (cG, .int), (cN, .int), (cO, .int)]) [0, 1, 2, 3] rfl
            exact W.vret hx hb hr (fun t ht hW => ⟨⟨(y_nowFlags_42, x_outCount, x_steps + 1, y_nowFlags_42, y_writePlace_43, y_writeSize_44, y_writeValue_45, y_fault_46, y_halt_47, y_isByte_48, y_atRegister_49, y_atPlace_50, bf, g_84, nf2_51, uf), rfl, ⟨hO, hB, hR_83⟩, by rw [ht]; exact hP9, va_K.moved hW.alike hK9, hD9⟩, hS.F ht⟩) hS.2.2 dX5_step_243
          · refine lv_aload_n hx hb dX5_step_168 rfl (lv_at hl 2 rfl) ?_
            refine va_get (D := (dC, dI)) (ci := 5) (v := .int y_writePlace_43) (C := RX5) (T := TX5) (N := 17) hx hb hts (by decide +kernel) hown hK hP 2 rfl rfl 9 (by decide) (hts (.fieldLink RX5 77 "WordGuestModel" "writePlace" "I") (by decide +kernel)) (fun _ h9 => h9) rfl dX5_step_169 ?_
            refine lv_sipush (v := 4094) hx hb dX5_step_172 (by decide) ?_
            refine lv_icmp_ne (tgt := 233) hx hb dX5_step_175 (by decide) (fun c_89 => ?_) (fun c_89 => ?_)
            · refine lv_aload_n hx hb dX5_step_233 rfl (lv_at hl 2 rfl) ?_
              refine lv_dup hx hb dX5_step_234 rfl ?_
              refine va_get (D := (dC, dI)) (ci := 5) (v := .int x_steps) (C := RX5) (T := TX5) (N := 17) hx hb hts (by decide +kernel) hown hK hP 2 rfl rfl 6 (by decide) (hts (.fieldLink RX5 42 "WordGuestModel" "steps" "I") (by decide +kernel)) (fun _ h9 => h9) rfl dX5_step_235 ?_
              refine lv_iconst (v := 1) hx hb dX5_step_238 (by decide) ?_
              refine lv_iadd hx hb dX5_step_239 ?_
              refine va_put (D := (dC, dI)) (ci := 5) (v := .int (x_steps + 1)) (ty := .int) (C := RX5) (T := TX5) (N := 17) hx hb hts (by decide +kernel) tyX5 tyX5_ok nmX5 hown hK hP hD hS 2 rfl rfl 6 (by decide) (hts (.fieldLink RX5 42 "WordGuestModel" "steps" "I") (by decide +kernel)) (fun _ h9 => h9) rfl (by decide +kernel) rfl rfl (Nat.le_of_ble_eq_true rfl) dX5_step_240 (fun H locs hP hD hS => ?_)
              have hP : va_P (dC, dI) vwCl [(mR, .inl (cG, 8, .inl g_84)), (mO, .inl (cO, 400, .inl uf)), (m0, .inr (5, [.int x_thrown, .ref mB, .ref mR, .int y_nowFlags_42, .ref mO, .int x_outCount, .int (x_steps + 1), .ref mN, .int y_nowFlags_42, .int y_writePlace_43, .int y_writeSize_44, .int y_writeValue_45, .int y_fault_46, .int y_halt_47, .int y_isByte_48, .int y_atRegister_49, .int y_atPlace_50])), (mB, .inl (cY, 4096, .inl bf)), (mN, .inl (cN, 8, .inl nf2_51))] H := hP
              have hD : va_D A [(mR, .inl (cG, 8, .inl g_84)), (mO, .inl (cO, 400, .inl uf)), (m0, .inr (5, [.int x_thrown, .ref mB, .ref mR, .int y_nowFlags_42, .ref mO, .int x_outCount, .int (x_steps + 1), .ref mN, .int y_nowFlags_42, .int y_writePlace_43, .int y_writeSize_44, .int y_writeValue_45, .int y_fault_46, .int y_halt_47, .int y_isByte_48, .int y_atRegister_49, .int y_atPlace_50])), (mB, .inl (cY, 4096, .inl bf)), (mN, .inl (cN, 8, .inl nf2_51))] := hD
              have hP9 := hP.sub (ws' := [(m0, .inr (5, [.int x_thrown, .ref mB, .ref mR, .int y_nowFlags_42, .ref mO, .int x_outCount, .int (x_steps + 1), .ref mN, .int y_nowFlags_42, .int y_writePlace_43, .int y_writeSize_44, .int y_writeValue_45, .int y_fault_46, .int y_halt_47, .int y_isByte_48, .int y_atRegister_49, .int y_atPlace_50])), (mB, .inl (cY, 4096, .inl bf)), (mR, .inl (cG, 8, .inl g_84)), (mN, .inl (cN, 8, .inl nf2_51)), (mO, .inl (cO, 400, .inl uf))]) [2, 3, 0, 4, 1] rfl
              have hD9 := hD.sub (ws' := [(m0, .inr (5, [.int x_thrown, .ref mB, .ref mR, .int y_nowFlags_42, .ref mO, .int x_outCount, .int (x_steps + 1), .ref mN, .int y_nowFlags_42, .int y_writePlace_43, .int y_writeSize_44, .int y_writeValue_45, .int y_fault_46, .int y_halt_47, .int y_isByte_48, .int y_atRegister_49, .int y_atPlace_50])), (mB, .inl (cY, 4096, .inl bf)), (mR, .inl (cG, 8, .inl g_84)), (mN, .inl (cN, 8, .inl nf2_51)), (mO, .inl (cO, 400, .inl uf))]) [2, 3, 0, 4, 1] (by decide) rfl
              have hK9 := hK.sub (tys' := [(cY, .int), (cG, .int), (cN, .int), (cO, .int)]) [0, 1, 2, 3] rfl
              exact W.vret hx hb hr (fun t ht hW => ⟨⟨(y_nowFlags_42, x_outCount, x_steps + 1, y_nowFlags_42, y_writePlace_43, y_writeSize_44, y_writeValue_45, y_fault_46, y_halt_47, y_isByte_48, y_atRegister_49, y_atPlace_50, bf, g_84, nf2_51, uf), rfl, ⟨hO, hB, hR_83⟩, by rw [ht]; exact hP9, va_K.moved hW.alike hK9, hD9⟩, hS.F ht⟩) hS.2.2 dX5_step_243
            · refine lv_aload_n hx hb dX5_step_178 rfl (lv_at hl 2 rfl) ?_
              refine va_get (D := (dC, dI)) (ci := 5) (v := .int x_outCount) (C := RX5) (T := TX5) (N := 17) hx hb hts (by decide +kernel) hown hK hP 2 rfl rfl 5 (by decide) (hts (.fieldLink RX5 45 "WordGuestModel" "outCount" "I") (by decide +kernel)) (fun _ h9 => h9) rfl dX5_step_179 ?_
              refine lv_sipush (v := 400) hx hb dX5_step_182 (by decide) ?_
              refine lv_icmp_ge (tgt := 233) hx hb dX5_step_185 (by decide) (fun c_90 => ?_) (fun c_90 => ?_)
              · refine lv_aload_n hx hb dX5_step_233 rfl (lv_at hl 2 rfl) ?_
                refine lv_dup hx hb dX5_step_234 rfl ?_
                refine va_get (D := (dC, dI)) (ci := 5) (v := .int x_steps) (C := RX5) (T := TX5) (N := 17) hx hb hts (by decide +kernel) hown hK hP 2 rfl rfl 6 (by decide) (hts (.fieldLink RX5 42 "WordGuestModel" "steps" "I") (by decide +kernel)) (fun _ h9 => h9) rfl dX5_step_235 ?_
                refine lv_iconst (v := 1) hx hb dX5_step_238 (by decide) ?_
                refine lv_iadd hx hb dX5_step_239 ?_
                refine va_put (D := (dC, dI)) (ci := 5) (v := .int (x_steps + 1)) (ty := .int) (C := RX5) (T := TX5) (N := 17) hx hb hts (by decide +kernel) tyX5 tyX5_ok nmX5 hown hK hP hD hS 2 rfl rfl 6 (by decide) (hts (.fieldLink RX5 42 "WordGuestModel" "steps" "I") (by decide +kernel)) (fun _ h9 => h9) rfl (by decide +kernel) rfl rfl (Nat.le_of_ble_eq_true rfl) dX5_step_240 (fun H locs hP hD hS => ?_)
                have hP : va_P (dC, dI) vwCl [(mR, .inl (cG, 8, .inl g_84)), (mO, .inl (cO, 400, .inl uf)), (m0, .inr (5, [.int x_thrown, .ref mB, .ref mR, .int y_nowFlags_42, .ref mO, .int x_outCount, .int (x_steps + 1), .ref mN, .int y_nowFlags_42, .int y_writePlace_43, .int y_writeSize_44, .int y_writeValue_45, .int y_fault_46, .int y_halt_47, .int y_isByte_48, .int y_atRegister_49, .int y_atPlace_50])), (mB, .inl (cY, 4096, .inl bf)), (mN, .inl (cN, 8, .inl nf2_51))] H := hP
                have hD : va_D A [(mR, .inl (cG, 8, .inl g_84)), (mO, .inl (cO, 400, .inl uf)), (m0, .inr (5, [.int x_thrown, .ref mB, .ref mR, .int y_nowFlags_42, .ref mO, .int x_outCount, .int (x_steps + 1), .ref mN, .int y_nowFlags_42, .int y_writePlace_43, .int y_writeSize_44, .int y_writeValue_45, .int y_fault_46, .int y_halt_47, .int y_isByte_48, .int y_atRegister_49, .int y_atPlace_50])), (mB, .inl (cY, 4096, .inl bf)), (mN, .inl (cN, 8, .inl nf2_51))] := hD
                have hP9 := hP.sub (ws' := [(m0, .inr (5, [.int x_thrown, .ref mB, .ref mR, .int y_nowFlags_42, .ref mO, .int x_outCount, .int (x_steps + 1), .ref mN, .int y_nowFlags_42, .int y_writePlace_43, .int y_writeSize_44, .int y_writeValue_45, .int y_fault_46, .int y_halt_47, .int y_isByte_48, .int y_atRegister_49, .int y_atPlace_50])), (mB, .inl (cY, 4096, .inl bf)), (mR, .inl (cG, 8, .inl g_84)), (mN, .inl (cN, 8, .inl nf2_51)), (mO, .inl (cO, 400, .inl uf))]) [2, 3, 0, 4, 1] rfl
                have hD9 := hD.sub (ws' := [(m0, .inr (5, [.int x_thrown, .ref mB, .ref mR, .int y_nowFlags_42, .ref mO, .int x_outCount, .int (x_steps + 1), .ref mN, .int y_nowFlags_42, .int y_writePlace_43, .int y_writeSize_44, .int y_writeValue_45, .int y_fault_46, .int y_halt_47, .int y_isByte_48, .int y_atRegister_49, .int y_atPlace_50])), (mB, .inl (cY, 4096, .inl bf)), (mR, .inl (cG, 8, .inl g_84)), (mN, .inl (cN, 8, .inl nf2_51)), (mO, .inl (cO, 400, .inl uf))]) [2, 3, 0, 4, 1] (by decide) rfl
                have hK9 := hK.sub (tys' := [(cY, .int), (cG, .int), (cN, .int), (cO, .int)]) [0, 1, 2, 3] rfl
                exact W.vret hx hb hr (fun t ht hW => ⟨⟨(y_nowFlags_42, x_outCount, x_steps + 1, y_nowFlags_42, y_writePlace_43, y_writeSize_44, y_writeValue_45, y_fault_46, y_halt_47, y_isByte_48, y_atRegister_49, y_atPlace_50, bf, g_84, nf2_51, uf), rfl, ⟨hO, hB, hR_83⟩, by rw [ht]; exact hP9, va_K.moved hW.alike hK9, hD9⟩, hS.F ht⟩) hS.2.2 dX5_step_243
              · refine lv_aload_n hx hb dX5_step_188 rfl (lv_at hl 2 rfl) ?_
                refine va_get (D := (dC, dI)) (ci := 5) (v := .ref mO) (C := RX5) (T := TX5) (N := 17) hx hb hts (by decide +kernel) hown hK hP 2 rfl rfl 4 (by decide) (hts (.fieldLink RX5 16 "WordGuestModel" "outs" "[I") (by decide +kernel)) (fun _ h9 => h9) rfl dX5_step_189 ?_
                refine lv_aload_n hx hb dX5_step_192 rfl (lv_at hl 2 rfl) ?_
                refine va_get (D := (dC, dI)) (ci := 5) (v := .int x_outCount) (C := RX5) (T := TX5) (N := 17) hx hb hts (by decide +kernel) hown hK hP 2 rfl rfl 5 (by decide) (hts (.fieldLink RX5 45 "WordGuestModel" "outCount" "I") (by decide +kernel)) (fun _ h9 => h9) rfl dX5_step_193 ?_
                refine lv_aload_n hx hb dX5_step_196 rfl (lv_at hl 2 rfl) ?_
                refine va_get (D := (dC, dI)) (ci := 5) (v := .int y_writeSize_44) (C := RX5) (T := TX5) (N := 17) hx hb hts (by decide +kernel) hown hK hP 2 rfl rfl 10 (by decide) (hts (.fieldLink RX5 80 "WordGuestModel" "writeSize" "I") (by decide +kernel)) (fun _ h9 => h9) rfl dX5_step_197 ?_
                refine lv_iconst (v := 1) hx hb dX5_step_200 (by decide) ?_
                refine lv_icmp_ne (tgt := 215) hx hb dX5_step_201 (by decide) (fun c_91 => ?_) (fun c9 => absurd c9 c_86)
                refine lv_aload_n hx hb dX5_step_215 rfl (lv_at hl 2 rfl) ?_
                refine va_get (D := (dC, dI)) (ci := 5) (v := .int y_writeValue_45) (C := RX5) (T := TX5) (N := 17) hx hb hts (by decide +kernel) hown hK hP 2 rfl rfl 11 (by decide) (hts (.fieldLink RX5 83 "WordGuestModel" "writeValue" "I") (by decide +kernel)) (fun _ h9 => h9) rfl dX5_step_216 ?_
                refine lv_ldc (v := 65535) hx hb hown (hts (.constant RX5 30 (65535)) (by decide +kernel)) dX5_step_219 ?_
                refine lv_iand hx hb dX5_step_221 ?_
                refine va_iast hx hb hK hP hD hS 1 3 rfl rfl (ok4_in hO c_90) dX5_step_222 (fun H locs hP hD hS => ?_)
                have hP : va_P (dC, dI) vwCl [(mR, .inl (cG, 8, .inl g_84)), (mO, .inl (cO, 400, .inl (upd uf x_outCount.toNatClampNeg (y_writeValue_45 &&& 65535)))), (m0, .inr (5, [.int x_thrown, .ref mB, .ref mR, .int y_nowFlags_42, .ref mO, .int x_outCount, .int x_steps, .ref mN, .int y_nowFlags_42, .int y_writePlace_43, .int y_writeSize_44, .int y_writeValue_45, .int y_fault_46, .int y_halt_47, .int y_isByte_48, .int y_atRegister_49, .int y_atPlace_50])), (mB, .inl (cY, 4096, .inl bf)), (mN, .inl (cN, 8, .inl nf2_51))] H := hP
                have hD : va_D A [(mR, .inl (cG, 8, .inl g_84)), (mO, .inl (cO, 400, .inl (upd uf x_outCount.toNatClampNeg (y_writeValue_45 &&& 65535)))), (m0, .inr (5, [.int x_thrown, .ref mB, .ref mR, .int y_nowFlags_42, .ref mO, .int x_outCount, .int x_steps, .ref mN, .int y_nowFlags_42, .int y_writePlace_43, .int y_writeSize_44, .int y_writeValue_45, .int y_fault_46, .int y_halt_47, .int y_isByte_48, .int y_atRegister_49, .int y_atPlace_50])), (mB, .inl (cY, 4096, .inl bf)), (mN, .inl (cN, 8, .inl nf2_51))] := hD
                generalize (upd uf x_outCount.toNatClampNeg (y_writeValue_45 &&& 65535)) = g_92 at hP hD
                refine lv_aload_n hx hb dX5_step_223 rfl (lv_at hl 2 rfl) ?_
                refine lv_dup hx hb dX5_step_224 rfl ?_
                refine va_get (D := (dC, dI)) (ci := 5) (v := .int x_outCount) (C := RX5) (T := TX5) (N := 17) hx hb hts (by decide +kernel) hown hK hP 2 rfl rfl 5 (by decide) (hts (.fieldLink RX5 45 "WordGuestModel" "outCount" "I") (by decide +kernel)) (fun _ h9 => h9) rfl dX5_step_225 ?_
                refine lv_iconst (v := 1) hx hb dX5_step_228 (by decide) ?_
                refine lv_iadd hx hb dX5_step_229 ?_
                refine va_put (D := (dC, dI)) (ci := 5) (v := .int (x_outCount + 1)) (ty := .int) (C := RX5) (T := TX5) (N := 17) hx hb hts (by decide +kernel) tyX5 tyX5_ok nmX5 hown hK hP hD hS 2 rfl rfl 5 (by decide) (hts (.fieldLink RX5 45 "WordGuestModel" "outCount" "I") (by decide +kernel)) (fun _ h9 => h9) rfl (by decide +kernel) rfl rfl (Nat.le_of_ble_eq_true rfl) dX5_step_230 (fun H locs hP hD hS => ?_)
                have hP : va_P (dC, dI) vwCl [(mR, .inl (cG, 8, .inl g_84)), (mO, .inl (cO, 400, .inl g_92)), (m0, .inr (5, [.int x_thrown, .ref mB, .ref mR, .int y_nowFlags_42, .ref mO, .int (x_outCount + 1), .int x_steps, .ref mN, .int y_nowFlags_42, .int y_writePlace_43, .int y_writeSize_44, .int y_writeValue_45, .int y_fault_46, .int y_halt_47, .int y_isByte_48, .int y_atRegister_49, .int y_atPlace_50])), (mB, .inl (cY, 4096, .inl bf)), (mN, .inl (cN, 8, .inl nf2_51))] H := hP
                have hD : va_D A [(mR, .inl (cG, 8, .inl g_84)), (mO, .inl (cO, 400, .inl g_92)), (m0, .inr (5, [.int x_thrown, .ref mB, .ref mR, .int y_nowFlags_42, .ref mO, .int (x_outCount + 1), .int x_steps, .ref mN, .int y_nowFlags_42, .int y_writePlace_43, .int y_writeSize_44, .int y_writeValue_45, .int y_fault_46, .int y_halt_47, .int y_isByte_48, .int y_atRegister_49, .int y_atPlace_50])), (mB, .inl (cY, 4096, .inl bf)), (mN, .inl (cN, 8, .inl nf2_51))] := hD
                refine lv_aload_n hx hb dX5_step_233 rfl (lv_at hl 2 rfl) ?_
                refine lv_dup hx hb dX5_step_234 rfl ?_
                refine va_get (D := (dC, dI)) (ci := 5) (v := .int x_steps) (C := RX5) (T := TX5) (N := 17) hx hb hts (by decide +kernel) hown hK hP 2 rfl rfl 6 (by decide) (hts (.fieldLink RX5 42 "WordGuestModel" "steps" "I") (by decide +kernel)) (fun _ h9 => h9) rfl dX5_step_235 ?_
                refine lv_iconst (v := 1) hx hb dX5_step_238 (by decide) ?_
                refine lv_iadd hx hb dX5_step_239 ?_
                refine va_put (D := (dC, dI)) (ci := 5) (v := .int (x_steps + 1)) (ty := .int) (C := RX5) (T := TX5) (N := 17) hx hb hts (by decide +kernel) tyX5 tyX5_ok nmX5 hown hK hP hD hS 2 rfl rfl 6 (by decide) (hts (.fieldLink RX5 42 "WordGuestModel" "steps" "I") (by decide +kernel)) (fun _ h9 => h9) rfl (by decide +kernel) rfl rfl (Nat.le_of_ble_eq_true rfl) dX5_step_240 (fun H locs hP hD hS => ?_)
                have hP : va_P (dC, dI) vwCl [(mR, .inl (cG, 8, .inl g_84)), (mO, .inl (cO, 400, .inl g_92)), (m0, .inr (5, [.int x_thrown, .ref mB, .ref mR, .int y_nowFlags_42, .ref mO, .int (x_outCount + 1), .int (x_steps + 1), .ref mN, .int y_nowFlags_42, .int y_writePlace_43, .int y_writeSize_44, .int y_writeValue_45, .int y_fault_46, .int y_halt_47, .int y_isByte_48, .int y_atRegister_49, .int y_atPlace_50])), (mB, .inl (cY, 4096, .inl bf)), (mN, .inl (cN, 8, .inl nf2_51))] H := hP
                have hD : va_D A [(mR, .inl (cG, 8, .inl g_84)), (mO, .inl (cO, 400, .inl g_92)), (m0, .inr (5, [.int x_thrown, .ref mB, .ref mR, .int y_nowFlags_42, .ref mO, .int (x_outCount + 1), .int (x_steps + 1), .ref mN, .int y_nowFlags_42, .int y_writePlace_43, .int y_writeSize_44, .int y_writeValue_45, .int y_fault_46, .int y_halt_47, .int y_isByte_48, .int y_atRegister_49, .int y_atPlace_50])), (mB, .inl (cY, 4096, .inl bf)), (mN, .inl (cN, 8, .inl nf2_51))] := hD
                have hP9 := hP.sub (ws' := [(m0, .inr (5, [.int x_thrown, .ref mB, .ref mR, .int y_nowFlags_42, .ref mO, .int (x_outCount + 1), .int (x_steps + 1), .ref mN, .int y_nowFlags_42, .int y_writePlace_43, .int y_writeSize_44, .int y_writeValue_45, .int y_fault_46, .int y_halt_47, .int y_isByte_48, .int y_atRegister_49, .int y_atPlace_50])), (mB, .inl (cY, 4096, .inl bf)), (mR, .inl (cG, 8, .inl g_84)), (mN, .inl (cN, 8, .inl nf2_51)), (mO, .inl (cO, 400, .inl g_92))]) [2, 3, 0, 4, 1] rfl
                have hD9 := hD.sub (ws' := [(m0, .inr (5, [.int x_thrown, .ref mB, .ref mR, .int y_nowFlags_42, .ref mO, .int (x_outCount + 1), .int (x_steps + 1), .ref mN, .int y_nowFlags_42, .int y_writePlace_43, .int y_writeSize_44, .int y_writeValue_45, .int y_fault_46, .int y_halt_47, .int y_isByte_48, .int y_atRegister_49, .int y_atPlace_50])), (mB, .inl (cY, 4096, .inl bf)), (mR, .inl (cG, 8, .inl g_84)), (mN, .inl (cN, 8, .inl nf2_51)), (mO, .inl (cO, 400, .inl g_92))]) [2, 3, 0, 4, 1] (by decide) rfl
                have hK9 := hK.sub (tys' := [(cY, .int), (cG, .int), (cN, .int), (cO, .int)]) [0, 1, 2, 3] rfl
                exact W.vret hx hb hr (fun t ht hW => ⟨⟨(y_nowFlags_42, x_outCount + 1, x_steps + 1, y_nowFlags_42, y_writePlace_43, y_writeSize_44, y_writeValue_45, y_fault_46, y_halt_47, y_isByte_48, y_atRegister_49, y_atPlace_50, bf, g_84, nf2_51, g_92), rfl, ⟨(ok4_s hO c_90), hB, hR_83⟩, by rw [ht]; exact hP9, va_K.moved hW.alike hK9, hD9⟩, hS.F ht⟩) hS.2.2 dX5_step_243
        · refine lv_aload_n hx hb dX5_step_149 rfl (lv_at hl 2 rfl) ?_
          refine lv_aload_n hx hb dX5_step_150 rfl (lv_at hl 2 rfl) ?_
          refine va_get (D := (dC, dI)) (ci := 5) (v := .int y_writePlace_43) (C := RX5) (T := TX5) (N := 17) hx hb hts (by decide +kernel) hown hK hP 2 rfl rfl 9 (by decide) (hts (.fieldLink RX5 77 "WordGuestModel" "writePlace" "I") (by decide +kernel)) (fun _ h9 => h9) rfl dX5_step_151 ?_
          refine lv_aload_n hx hb dX5_step_154 rfl (lv_at hl 2 rfl) ?_
          refine va_get (D := (dC, dI)) (ci := 5) (v := .int y_writeValue_45) (C := RX5) (T := TX5) (N := 17) hx hb hts (by decide +kernel) hown hK hP 2 rfl rfl 11 (by decide) (hts (.fieldLink RX5 83 "WordGuestModel" "writeValue" "I") (by decide +kernel)) (fun _ h9 => h9) rfl dX5_step_155 ?_
          have hPc := hP.sub (ws' := [(m0, .inr (5, [.int x_thrown, .ref mB, .ref mR, .int y_nowFlags_42, .ref mO, .int x_outCount, .int x_steps, .ref mN, .int y_nowFlags_42, .int y_writePlace_43, .int y_writeSize_44, .int y_writeValue_45, .int y_fault_46, .int y_halt_47, .int y_isByte_48, .int y_atRegister_49, .int y_atPlace_50])), (mB, .inl (cY, 4096, .inl bf))]) [2, 3] rfl
          have hDc := hD.sub (ws' := [(m0, .inr (5, [.int x_thrown, .ref mB, .ref mR, .int y_nowFlags_42, .ref mO, .int x_outCount, .int x_steps, .ref mN, .int y_nowFlags_42, .int y_writePlace_43, .int y_writeSize_44, .int y_writeValue_45, .int y_fault_46, .int y_halt_47, .int y_isByte_48, .int y_atRegister_49, .int y_atPlace_50])), (mB, .inl (cY, 4096, .inl bf))]) [2, 3] (by decide) rfl
          have hKc := hK.sub (tys' := [(cY, .int)]) [0] rfl
          have hFc := va_free (wc := [(m0, .inr (5, [.int x_thrown, .ref mB, .ref mR, .int y_nowFlags_42, .ref mO, .int x_outCount, .int x_steps, .ref mN, .int y_nowFlags_42, .int y_writePlace_43, .int y_writeSize_44, .int y_writeValue_45, .int y_fault_46, .int y_halt_47, .int y_isByte_48, .int y_atRegister_49, .int y_atPlace_50])), (mB, .inl (cY, 4096, .inl bf))]) hD hS hA [2, 3] rfl
          refine va_callv (va_runV (C := RX5) (b := m0) (As := [.int y_writePlace_43, .int y_writeValue_45]) (rest := []) ⟨hx, hb, hml, hown, hts⟩ (s_X5_setWord l dC dI H.size m0 y_writePlace_43 y_writeValue_45 x_thrown mB mR y_nowFlags_42 mO x_outCount x_steps mN y_nowFlags_42 y_writePlace_43 y_writeSize_44 y_writeValue_45 y_fault_46 y_halt_47 y_isByte_48 y_atRegister_49 y_atPlace_50 cY bf ((WR_2 hw_41.2.2 c_87).1) ((WR_2 hw_41.2.2 c_87).2) hB) (cwV 2 hts gX5_step_X5_setWord rfl rfl rfl (by decide +kernel) ⟨Nat.le_of_ble_eq_true rfl, Nat.le_of_ble_eq_true rfl⟩) ⟨q_blind, va_recv hK hP (ci := 5) (q0 := 2) rfl rfl, fun U hU hW => ⟨rfl, q_pay hU hW hPc hKc hDc hN⟩⟩ rfl rfl hl.1 rfl (lv_room (Nat.le_of_ble_eq_true rfl)) dX5_step_158 ⟨show 0 + 0 ≤ 0 from by omega, show 0 + 0 ≤ 0 from by omega⟩) hS (fun q _ h => hFc q h) hFc (fun u9 t H locs ht hvm hw_94 hB hz1 hk1 hS => ?_)
          obtain ⟨bf2_95, rfl⟩ : ∃ z, z = u9 := ⟨_, rfl⟩
          obtain ⟨hP1, hK1, hD1⟩ := hB
          rw [ht] at hP1
          obtain ⟨hP, hD⟩ := va_join (wr := [(mR, .inl (cG, 8, .inl g_84)), (mO, .inl (cO, 400, .inl uf)), (mN, .inl (cN, 8, .inl nf2_51))]) (w1 := [(m0, .inr (5, [.int x_thrown, .ref mB, .ref mR, .int y_nowFlags_42, .ref mO, .int x_outCount, .int x_steps, .ref mN, .int y_nowFlags_42, .int y_writePlace_43, .int y_writeSize_44, .int y_writeValue_45, .int y_fault_46, .int y_halt_47, .int y_isByte_48, .int y_atRegister_49, .int y_atPlace_50])), (mB, .inl (cY, 4096, .inl bf2_95))]) hP hD [2, 3] [0, 1, 4] rfl rfl (by decide) (by decide) hk1 hFc hP1 hD1
          have hP : va_P (dC, dI) vwCl [(mR, .inl (cG, 8, .inl g_84)), (mO, .inl (cO, 400, .inl uf)), (mN, .inl (cN, 8, .inl nf2_51)), (m0, .inr (5, [.int x_thrown, .ref mB, .ref mR, .int y_nowFlags_42, .ref mO, .int x_outCount, .int x_steps, .ref mN, .int y_nowFlags_42, .int y_writePlace_43, .int y_writeSize_44, .int y_writeValue_45, .int y_fault_46, .int y_halt_47, .int y_isByte_48, .int y_atRegister_49, .int y_atPlace_50])), (mB, .inl (cY, 4096, .inl bf2_95))] H := hP
          have hD : va_D A [(mR, .inl (cG, 8, .inl g_84)), (mO, .inl (cO, 400, .inl uf)), (mN, .inl (cN, 8, .inl nf2_51)), (m0, .inr (5, [.int x_thrown, .ref mB, .ref mR, .int y_nowFlags_42, .ref mO, .int x_outCount, .int x_steps, .ref mN, .int y_nowFlags_42, .int y_writePlace_43, .int y_writeSize_44, .int y_writeValue_45, .int y_fault_46, .int y_halt_47, .int y_isByte_48, .int y_atRegister_49, .int y_atPlace_50])), (mB, .inl (cY, 4096, .inl bf2_95))] := hD
          refine W.widen (k := 0) (n := 0) (by omega) (by omega) ?_
          try dsimp only at hw_94
          refine lv_aload_n hx hb dX5_step_161 rfl (lv_at hl 2 rfl) ?_
          refine va_get (D := (dC, dI)) (ci := 5) (v := .int y_writeSize_44) (C := RX5) (T := TX5) (N := 17) hx hb hts (by decide +kernel) hown hK hP 3 rfl rfl 10 (by decide) (hts (.fieldLink RX5 80 "WordGuestModel" "writeSize" "I") (by decide +kernel)) (fun _ h9 => h9) rfl dX5_step_162 ?_
          refine lv_if_le (tgt := 233) hx hb dX5_step_165 (by decide) (fun c9 => absurd c9 (by first | exact c_87 | (rw [c_87]; decide) | rw [c_87])) (fun c_96 => ?_)
          refine lv_aload_n hx hb dX5_step_168 rfl (lv_at hl 2 rfl) ?_
          refine va_get (D := (dC, dI)) (ci := 5) (v := .int y_writePlace_43) (C := RX5) (T := TX5) (N := 17) hx hb hts (by decide +kernel) hown hK hP 3 rfl rfl 9 (by decide) (hts (.fieldLink RX5 77 "WordGuestModel" "writePlace" "I") (by decide +kernel)) (fun _ h9 => h9) rfl dX5_step_169 ?_
          refine lv_sipush (v := 4094) hx hb dX5_step_172 (by decide) ?_
          refine lv_icmp_ne (tgt := 233) hx hb dX5_step_175 (by decide) (fun c_97 => ?_) (fun c_97 => ?_)
          · refine lv_aload_n hx hb dX5_step_233 rfl (lv_at hl 2 rfl) ?_
            refine lv_dup hx hb dX5_step_234 rfl ?_
            refine va_get (D := (dC, dI)) (ci := 5) (v := .int x_steps) (C := RX5) (T := TX5) (N := 17) hx hb hts (by decide +kernel) hown hK hP 3 rfl rfl 6 (by decide) (hts (.fieldLink RX5 42 "WordGuestModel" "steps" "I") (by decide +kernel)) (fun _ h9 => h9) rfl dX5_step_235 ?_
            refine lv_iconst (v := 1) hx hb dX5_step_238 (by decide) ?_
            refine lv_iadd hx hb dX5_step_239 ?_
            refine va_put (D := (dC, dI)) (ci := 5) (v := .int (x_steps + 1)) (ty := .int) (C := RX5) (T := TX5) (N := 17) hx hb hts (by decide +kernel) tyX5 tyX5_ok nmX5 hown hK hP hD hS 3 rfl rfl 6 (by decide) (hts (.fieldLink RX5 42 "WordGuestModel" "steps" "I") (by decide +kernel)) (fun _ h9 => h9) rfl (by decide +kernel) rfl rfl (Nat.le_of_ble_eq_true rfl) dX5_step_240 (fun H locs hP hD hS => ?_)
            have hP : va_P (dC, dI) vwCl [(mR, .inl (cG, 8, .inl g_84)), (mO, .inl (cO, 400, .inl uf)), (mN, .inl (cN, 8, .inl nf2_51)), (m0, .inr (5, [.int x_thrown, .ref mB, .ref mR, .int y_nowFlags_42, .ref mO, .int x_outCount, .int (x_steps + 1), .ref mN, .int y_nowFlags_42, .int y_writePlace_43, .int y_writeSize_44, .int y_writeValue_45, .int y_fault_46, .int y_halt_47, .int y_isByte_48, .int y_atRegister_49, .int y_atPlace_50])), (mB, .inl (cY, 4096, .inl bf2_95))] H := hP
            have hD : va_D A [(mR, .inl (cG, 8, .inl g_84)), (mO, .inl (cO, 400, .inl uf)), (mN, .inl (cN, 8, .inl nf2_51)), (m0, .inr (5, [.int x_thrown, .ref mB, .ref mR, .int y_nowFlags_42, .ref mO, .int x_outCount, .int (x_steps + 1), .ref mN, .int y_nowFlags_42, .int y_writePlace_43, .int y_writeSize_44, .int y_writeValue_45, .int y_fault_46, .int y_halt_47, .int y_isByte_48, .int y_atRegister_49, .int y_atPlace_50])), (mB, .inl (cY, 4096, .inl bf2_95))] := hD
            have hP9 := hP.sub (ws' := [(m0, .inr (5, [.int x_thrown, .ref mB, .ref mR, .int y_nowFlags_42, .ref mO, .int x_outCount, .int (x_steps + 1), .ref mN, .int y_nowFlags_42, .int y_writePlace_43, .int y_writeSize_44, .int y_writeValue_45, .int y_fault_46, .int y_halt_47, .int y_isByte_48, .int y_atRegister_49, .int y_atPlace_50])), (mB, .inl (cY, 4096, .inl bf2_95)), (mR, .inl (cG, 8, .inl g_84)), (mN, .inl (cN, 8, .inl nf2_51)), (mO, .inl (cO, 400, .inl uf))]) [3, 4, 0, 2, 1] rfl
            have hD9 := hD.sub (ws' := [(m0, .inr (5, [.int x_thrown, .ref mB, .ref mR, .int y_nowFlags_42, .ref mO, .int x_outCount, .int (x_steps + 1), .ref mN, .int y_nowFlags_42, .int y_writePlace_43, .int y_writeSize_44, .int y_writeValue_45, .int y_fault_46, .int y_halt_47, .int y_isByte_48, .int y_atRegister_49, .int y_atPlace_50])), (mB, .inl (cY, 4096, .inl bf2_95)), (mR, .inl (cG, 8, .inl g_84)), (mN, .inl (cN, 8, .inl nf2_51)), (mO, .inl (cO, 400, .inl uf))]) [3, 4, 0, 2, 1] (by decide) rfl
            have hK9 := hK.sub (tys' := [(cY, .int), (cG, .int), (cN, .int), (cO, .int)]) [0, 1, 2, 3] rfl
            exact W.vret hx hb hr (fun t ht hW => ⟨⟨(y_nowFlags_42, x_outCount, x_steps + 1, y_nowFlags_42, y_writePlace_43, y_writeSize_44, y_writeValue_45, y_fault_46, y_halt_47, y_isByte_48, y_atRegister_49, y_atPlace_50, bf2_95, g_84, nf2_51, uf), rfl, ⟨hO, hw_94, hR_83⟩, by rw [ht]; exact hP9, va_K.moved hW.alike hK9, hD9⟩, hS.F ht⟩) hS.2.2 dX5_step_243
          · refine lv_aload_n hx hb dX5_step_178 rfl (lv_at hl 2 rfl) ?_
            refine va_get (D := (dC, dI)) (ci := 5) (v := .int x_outCount) (C := RX5) (T := TX5) (N := 17) hx hb hts (by decide +kernel) hown hK hP 3 rfl rfl 5 (by decide) (hts (.fieldLink RX5 45 "WordGuestModel" "outCount" "I") (by decide +kernel)) (fun _ h9 => h9) rfl dX5_step_179 ?_
            refine lv_sipush (v := 400) hx hb dX5_step_182 (by decide) ?_
            refine lv_icmp_ge (tgt := 233) hx hb dX5_step_185 (by decide) (fun c_98 => ?_) (fun c_98 => ?_)
            · refine lv_aload_n hx hb dX5_step_233 rfl (lv_at hl 2 rfl) ?_
              refine lv_dup hx hb dX5_step_234 rfl ?_
              refine va_get (D := (dC, dI)) (ci := 5) (v := .int x_steps) (C := RX5) (T := TX5) (N := 17) hx hb hts (by decide +kernel) hown hK hP 3 rfl rfl 6 (by decide) (hts (.fieldLink RX5 42 "WordGuestModel" "steps" "I") (by decide +kernel)) (fun _ h9 => h9) rfl dX5_step_235 ?_
              refine lv_iconst (v := 1) hx hb dX5_step_238 (by decide) ?_
              refine lv_iadd hx hb dX5_step_239 ?_
              refine va_put (D := (dC, dI)) (ci := 5) (v := .int (x_steps + 1)) (ty := .int) (C := RX5) (T := TX5) (N := 17) hx hb hts (by decide +kernel) tyX5 tyX5_ok nmX5 hown hK hP hD hS 3 rfl rfl 6 (by decide) (hts (.fieldLink RX5 42 "WordGuestModel" "steps" "I") (by decide +kernel)) (fun _ h9 => h9) rfl (by decide +kernel) rfl rfl (Nat.le_of_ble_eq_true rfl) dX5_step_240 (fun H locs hP hD hS => ?_)
              have hP : va_P (dC, dI) vwCl [(mR, .inl (cG, 8, .inl g_84)), (mO, .inl (cO, 400, .inl uf)), (mN, .inl (cN, 8, .inl nf2_51)), (m0, .inr (5, [.int x_thrown, .ref mB, .ref mR, .int y_nowFlags_42, .ref mO, .int x_outCount, .int (x_steps + 1), .ref mN, .int y_nowFlags_42, .int y_writePlace_43, .int y_writeSize_44, .int y_writeValue_45, .int y_fault_46, .int y_halt_47, .int y_isByte_48, .int y_atRegister_49, .int y_atPlace_50])), (mB, .inl (cY, 4096, .inl bf2_95))] H := hP
              have hD : va_D A [(mR, .inl (cG, 8, .inl g_84)), (mO, .inl (cO, 400, .inl uf)), (mN, .inl (cN, 8, .inl nf2_51)), (m0, .inr (5, [.int x_thrown, .ref mB, .ref mR, .int y_nowFlags_42, .ref mO, .int x_outCount, .int (x_steps + 1), .ref mN, .int y_nowFlags_42, .int y_writePlace_43, .int y_writeSize_44, .int y_writeValue_45, .int y_fault_46, .int y_halt_47, .int y_isByte_48, .int y_atRegister_49, .int y_atPlace_50])), (mB, .inl (cY, 4096, .inl bf2_95))] := hD
              have hP9 := hP.sub (ws' := [(m0, .inr (5, [.int x_thrown, .ref mB, .ref mR, .int y_nowFlags_42, .ref mO, .int x_outCount, .int (x_steps + 1), .ref mN, .int y_nowFlags_42, .int y_writePlace_43, .int y_writeSize_44, .int y_writeValue_45, .int y_fault_46, .int y_halt_47, .int y_isByte_48, .int y_atRegister_49, .int y_atPlace_50])), (mB, .inl (cY, 4096, .inl bf2_95)), (mR, .inl (cG, 8, .inl g_84)), (mN, .inl (cN, 8, .inl nf2_51)), (mO, .inl (cO, 400, .inl uf))]) [3, 4, 0, 2, 1] rfl
              have hD9 := hD.sub (ws' := [(m0, .inr (5, [.int x_thrown, .ref mB, .ref mR, .int y_nowFlags_42, .ref mO, .int x_outCount, .int (x_steps + 1), .ref mN, .int y_nowFlags_42, .int y_writePlace_43, .int y_writeSize_44, .int y_writeValue_45, .int y_fault_46, .int y_halt_47, .int y_isByte_48, .int y_atRegister_49, .int y_atPlace_50])), (mB, .inl (cY, 4096, .inl bf2_95)), (mR, .inl (cG, 8, .inl g_84)), (mN, .inl (cN, 8, .inl nf2_51)), (mO, .inl (cO, 400, .inl uf))]) [3, 4, 0, 2, 1] (by decide) rfl
              have hK9 := hK.sub (tys' := [(cY, .int), (cG, .int), (cN, .int), (cO, .int)]) [0, 1, 2, 3] rfl
              exact W.vret hx hb hr (fun t ht hW => ⟨⟨(y_nowFlags_42, x_outCount, x_steps + 1, y_nowFlags_42, y_writePlace_43, y_writeSize_44, y_writeValue_45, y_fault_46, y_halt_47, y_isByte_48, y_atRegister_49, y_atPlace_50, bf2_95, g_84, nf2_51, uf), rfl, ⟨hO, hw_94, hR_83⟩, by rw [ht]; exact hP9, va_K.moved hW.alike hK9, hD9⟩, hS.F ht⟩) hS.2.2 dX5_step_243
            · refine lv_aload_n hx hb dX5_step_188 rfl (lv_at hl 2 rfl) ?_
              refine va_get (D := (dC, dI)) (ci := 5) (v := .ref mO) (C := RX5) (T := TX5) (N := 17) hx hb hts (by decide +kernel) hown hK hP 3 rfl rfl 4 (by decide) (hts (.fieldLink RX5 16 "WordGuestModel" "outs" "[I") (by decide +kernel)) (fun _ h9 => h9) rfl dX5_step_189 ?_
              refine lv_aload_n hx hb dX5_step_192 rfl (lv_at hl 2 rfl) ?_
              refine va_get (D := (dC, dI)) (ci := 5) (v := .int x_outCount) (C := RX5) (T := TX5) (N := 17) hx hb hts (by decide +kernel) hown hK hP 3 rfl rfl 5 (by decide) (hts (.fieldLink RX5 45 "WordGuestModel" "outCount" "I") (by decide +kernel)) (fun _ h9 => h9) rfl dX5_step_193 ?_
              refine lv_aload_n hx hb dX5_step_196 rfl (lv_at hl 2 rfl) ?_
              refine va_get (D := (dC, dI)) (ci := 5) (v := .int y_writeSize_44) (C := RX5) (T := TX5) (N := 17) hx hb hts (by decide +kernel) hown hK hP 3 rfl rfl 10 (by decide) (hts (.fieldLink RX5 80 "WordGuestModel" "writeSize" "I") (by decide +kernel)) (fun _ h9 => h9) rfl dX5_step_197 ?_
              refine lv_iconst (v := 1) hx hb dX5_step_200 (by decide) ?_
              refine lv_icmp_ne (tgt := 215) hx hb dX5_step_201 (by decide) (fun c_99 => ?_) (fun c9 => absurd c9 (by first | exact c_87 | (rw [c_87]; decide) | rw [c_87]))
              refine lv_aload_n hx hb dX5_step_215 rfl (lv_at hl 2 rfl) ?_
              refine va_get (D := (dC, dI)) (ci := 5) (v := .int y_writeValue_45) (C := RX5) (T := TX5) (N := 17) hx hb hts (by decide +kernel) hown hK hP 3 rfl rfl 11 (by decide) (hts (.fieldLink RX5 83 "WordGuestModel" "writeValue" "I") (by decide +kernel)) (fun _ h9 => h9) rfl dX5_step_216 ?_
              refine lv_ldc (v := 65535) hx hb hown (hts (.constant RX5 30 (65535)) (by decide +kernel)) dX5_step_219 ?_
              refine lv_iand hx hb dX5_step_221 ?_
              refine va_iast hx hb hK hP hD hS 1 3 rfl rfl (ok4_in hO c_98) dX5_step_222 (fun H locs hP hD hS => ?_)
              have hP : va_P (dC, dI) vwCl [(mR, .inl (cG, 8, .inl g_84)), (mO, .inl (cO, 400, .inl (upd uf x_outCount.toNatClampNeg (y_writeValue_45 &&& 65535)))), (mN, .inl (cN, 8, .inl nf2_51)), (m0, .inr (5, [.int x_thrown, .ref mB, .ref mR, .int y_nowFlags_42, .ref mO, .int x_outCount, .int x_steps, .ref mN, .int y_nowFlags_42, .int y_writePlace_43, .int y_writeSize_44, .int y_writeValue_45, .int y_fault_46, .int y_halt_47, .int y_isByte_48, .int y_atRegister_49, .int y_atPlace_50])), (mB, .inl (cY, 4096, .inl bf2_95))] H := hP
              have hD : va_D A [(mR, .inl (cG, 8, .inl g_84)), (mO, .inl (cO, 400, .inl (upd uf x_outCount.toNatClampNeg (y_writeValue_45 &&& 65535)))), (mN, .inl (cN, 8, .inl nf2_51)), (m0, .inr (5, [.int x_thrown, .ref mB, .ref mR, .int y_nowFlags_42, .ref mO, .int x_outCount, .int x_steps, .ref mN, .int y_nowFlags_42, .int y_writePlace_43, .int y_writeSize_44, .int y_writeValue_45, .int y_fault_46, .int y_halt_47, .int y_isByte_48, .int y_atRegister_49, .int y_atPlace_50])), (mB, .inl (cY, 4096, .inl bf2_95))] := hD
              generalize (upd uf x_outCount.toNatClampNeg (y_writeValue_45 &&& 65535)) = g_100 at hP hD
              refine lv_aload_n hx hb dX5_step_223 rfl (lv_at hl 2 rfl) ?_
              refine lv_dup hx hb dX5_step_224 rfl ?_
              refine va_get (D := (dC, dI)) (ci := 5) (v := .int x_outCount) (C := RX5) (T := TX5) (N := 17) hx hb hts (by decide +kernel) hown hK hP 3 rfl rfl 5 (by decide) (hts (.fieldLink RX5 45 "WordGuestModel" "outCount" "I") (by decide +kernel)) (fun _ h9 => h9) rfl dX5_step_225 ?_
              refine lv_iconst (v := 1) hx hb dX5_step_228 (by decide) ?_
              refine lv_iadd hx hb dX5_step_229 ?_
              refine va_put (D := (dC, dI)) (ci := 5) (v := .int (x_outCount + 1)) (ty := .int) (C := RX5) (T := TX5) (N := 17) hx hb hts (by decide +kernel) tyX5 tyX5_ok nmX5 hown hK hP hD hS 3 rfl rfl 5 (by decide) (hts (.fieldLink RX5 45 "WordGuestModel" "outCount" "I") (by decide +kernel)) (fun _ h9 => h9) rfl (by decide +kernel) rfl rfl (Nat.le_of_ble_eq_true rfl) dX5_step_230 (fun H locs hP hD hS => ?_)
              have hP : va_P (dC, dI) vwCl [(mR, .inl (cG, 8, .inl g_84)), (mO, .inl (cO, 400, .inl g_100)), (mN, .inl (cN, 8, .inl nf2_51)), (m0, .inr (5, [.int x_thrown, .ref mB, .ref mR, .int y_nowFlags_42, .ref mO, .int (x_outCount + 1), .int x_steps, .ref mN, .int y_nowFlags_42, .int y_writePlace_43, .int y_writeSize_44, .int y_writeValue_45, .int y_fault_46, .int y_halt_47, .int y_isByte_48, .int y_atRegister_49, .int y_atPlace_50])), (mB, .inl (cY, 4096, .inl bf2_95))] H := hP
              have hD : va_D A [(mR, .inl (cG, 8, .inl g_84)), (mO, .inl (cO, 400, .inl g_100)), (mN, .inl (cN, 8, .inl nf2_51)), (m0, .inr (5, [.int x_thrown, .ref mB, .ref mR, .int y_nowFlags_42, .ref mO, .int (x_outCount + 1), .int x_steps, .ref mN, .int y_nowFlags_42, .int y_writePlace_43, .int y_writeSize_44, .int y_writeValue_45, .int y_fault_46, .int y_halt_47, .int y_isByte_48, .int y_atRegister_49, .int y_atPlace_50])), (mB, .inl (cY, 4096, .inl bf2_95))] := hD
              refine lv_aload_n hx hb dX5_step_233 rfl (lv_at hl 2 rfl) ?_
              refine lv_dup hx hb dX5_step_234 rfl ?_
              refine va_get (D := (dC, dI)) (ci := 5) (v := .int x_steps) (C := RX5) (T := TX5) (N := 17) hx hb hts (by decide +kernel) hown hK hP 3 rfl rfl 6 (by decide) (hts (.fieldLink RX5 42 "WordGuestModel" "steps" "I") (by decide +kernel)) (fun _ h9 => h9) rfl dX5_step_235 ?_
              refine lv_iconst (v := 1) hx hb dX5_step_238 (by decide) ?_
              refine lv_iadd hx hb dX5_step_239 ?_
              refine va_put (D := (dC, dI)) (ci := 5) (v := .int (x_steps + 1)) (ty := .int) (C := RX5) (T := TX5) (N := 17) hx hb hts (by decide +kernel) tyX5 tyX5_ok nmX5 hown hK hP hD hS 3 rfl rfl 6 (by decide) (hts (.fieldLink RX5 42 "WordGuestModel" "steps" "I") (by decide +kernel)) (fun _ h9 => h9) rfl (by decide +kernel) rfl rfl (Nat.le_of_ble_eq_true rfl) dX5_step_240 (fun H locs hP hD hS => ?_)
              have hP : va_P (dC, dI) vwCl [(mR, .inl (cG, 8, .inl g_84)), (mO, .inl (cO, 400, .inl g_100)), (mN, .inl (cN, 8, .inl nf2_51)), (m0, .inr (5, [.int x_thrown, .ref mB, .ref mR, .int y_nowFlags_42, .ref mO, .int (x_outCount + 1), .int (x_steps + 1), .ref mN, .int y_nowFlags_42, .int y_writePlace_43, .int y_writeSize_44, .int y_writeValue_45, .int y_fault_46, .int y_halt_47, .int y_isByte_48, .int y_atRegister_49, .int y_atPlace_50])), (mB, .inl (cY, 4096, .inl bf2_95))] H := hP
              have hD : va_D A [(mR, .inl (cG, 8, .inl g_84)), (mO, .inl (cO, 400, .inl g_100)), (mN, .inl (cN, 8, .inl nf2_51)), (m0, .inr (5, [.int x_thrown, .ref mB, .ref mR, .int y_nowFlags_42, .ref mO, .int (x_outCount + 1), .int (x_steps + 1), .ref mN, .int y_nowFlags_42, .int y_writePlace_43, .int y_writeSize_44, .int y_writeValue_45, .int y_fault_46, .int y_halt_47, .int y_isByte_48, .int y_atRegister_49, .int y_atPlace_50])), (mB, .inl (cY, 4096, .inl bf2_95))] := hD
              have hP9 := hP.sub (ws' := [(m0, .inr (5, [.int x_thrown, .ref mB, .ref mR, .int y_nowFlags_42, .ref mO, .int (x_outCount + 1), .int (x_steps + 1), .ref mN, .int y_nowFlags_42, .int y_writePlace_43, .int y_writeSize_44, .int y_writeValue_45, .int y_fault_46, .int y_halt_47, .int y_isByte_48, .int y_atRegister_49, .int y_atPlace_50])), (mB, .inl (cY, 4096, .inl bf2_95)), (mR, .inl (cG, 8, .inl g_84)), (mN, .inl (cN, 8, .inl nf2_51)), (mO, .inl (cO, 400, .inl g_100))]) [3, 4, 0, 2, 1] rfl
              have hD9 := hD.sub (ws' := [(m0, .inr (5, [.int x_thrown, .ref mB, .ref mR, .int y_nowFlags_42, .ref mO, .int (x_outCount + 1), .int (x_steps + 1), .ref mN, .int y_nowFlags_42, .int y_writePlace_43, .int y_writeSize_44, .int y_writeValue_45, .int y_fault_46, .int y_halt_47, .int y_isByte_48, .int y_atRegister_49, .int y_atPlace_50])), (mB, .inl (cY, 4096, .inl bf2_95)), (mR, .inl (cG, 8, .inl g_84)), (mN, .inl (cN, 8, .inl nf2_51)), (mO, .inl (cO, 400, .inl g_100))]) [3, 4, 0, 2, 1] (by decide) rfl
              have hK9 := hK.sub (tys' := [(cY, .int), (cG, .int), (cN, .int), (cO, .int)]) [0, 1, 2, 3] rfl
              exact W.vret hx hb hr (fun t ht hW => ⟨⟨(y_nowFlags_42, x_outCount + 1, x_steps + 1, y_nowFlags_42, y_writePlace_43, y_writeSize_44, y_writeValue_45, y_fault_46, y_halt_47, y_isByte_48, y_atRegister_49, y_atPlace_50, bf2_95, g_84, nf2_51, g_100), rfl, ⟨(ok4_s hO c_98), hw_94, hR_83⟩, by rw [ht]; exact hP9, va_K.moved hW.alike hK9, hD9⟩, hS.F ht⟩) hS.2.2 dX5_step_243
      · refine lv_aload_n hx hb dX5_step_121 rfl (lv_at hl 2 rfl) ?_
        refine va_get (D := (dC, dI)) (ci := 5) (v := .ref mB) (C := RX5) (T := TX5) (N := 17) hx hb hts (by decide +kernel) hown hK hP 2 rfl rfl 1 (by decide) (hts (.fieldLink RX5 7 "WordGuestModel" "bytes" "[I") (by decide +kernel)) (fun _ h9 => h9) rfl dX5_step_122 ?_
        refine lv_aload_n hx hb dX5_step_125 rfl (lv_at hl 2 rfl) ?_
        refine va_get (D := (dC, dI)) (ci := 5) (v := .int y_writePlace_43) (C := RX5) (T := TX5) (N := 17) hx hb hts (by decide +kernel) hown hK hP 2 rfl rfl 9 (by decide) (hts (.fieldLink RX5 77 "WordGuestModel" "writePlace" "I") (by decide +kernel)) (fun _ h9 => h9) rfl dX5_step_126 ?_
        refine lv_aload_n hx hb dX5_step_129 rfl (lv_at hl 2 rfl) ?_
        refine va_get (D := (dC, dI)) (ci := 5) (v := .int y_writeValue_45) (C := RX5) (T := TX5) (N := 17) hx hb hts (by decide +kernel) hown hK hP 2 rfl rfl 11 (by decide) (hts (.fieldLink RX5 83 "WordGuestModel" "writeValue" "I") (by decide +kernel)) (fun _ h9 => h9) rfl dX5_step_130 ?_
        refine lv_sipush (v := 255) hx hb dX5_step_133 (by decide) ?_
        refine lv_iand hx hb dX5_step_136 ?_
        refine va_iast hx hb hK hP hD hS 3 0 rfl rfl (WR_1 hw_41.2.2 c_86) dX5_step_137 (fun H locs hP hD hS => ?_)
        have hP : va_P (dC, dI) vwCl [(mR, .inl (cG, 8, .inl g_84)), (mO, .inl (cO, 400, .inl uf)), (m0, .inr (5, [.int x_thrown, .ref mB, .ref mR, .int y_nowFlags_42, .ref mO, .int x_outCount, .int x_steps, .ref mN, .int y_nowFlags_42, .int y_writePlace_43, .int y_writeSize_44, .int y_writeValue_45, .int y_fault_46, .int y_halt_47, .int y_isByte_48, .int y_atRegister_49, .int y_atPlace_50])), (mB, .inl (cY, 4096, .inl (upd bf y_writePlace_43.toNatClampNeg (y_writeValue_45 &&& 255)))), (mN, .inl (cN, 8, .inl nf2_51))] H := hP
        have hD : va_D A [(mR, .inl (cG, 8, .inl g_84)), (mO, .inl (cO, 400, .inl uf)), (m0, .inr (5, [.int x_thrown, .ref mB, .ref mR, .int y_nowFlags_42, .ref mO, .int x_outCount, .int x_steps, .ref mN, .int y_nowFlags_42, .int y_writePlace_43, .int y_writeSize_44, .int y_writeValue_45, .int y_fault_46, .int y_halt_47, .int y_isByte_48, .int y_atRegister_49, .int y_atPlace_50])), (mB, .inl (cY, 4096, .inl (upd bf y_writePlace_43.toNatClampNeg (y_writeValue_45 &&& 255)))), (mN, .inl (cN, 8, .inl nf2_51))] := hD
        have hB_101 : okB (upd bf y_writePlace_43.toNatClampNeg (y_writeValue_45 &&& 255)) := okB_upd hB (isB_and _) _
        generalize (upd bf y_writePlace_43.toNatClampNeg (y_writeValue_45 &&& 255)) = g_102 at hP hD hB_101
        refine lv_goto (tgt := 161) hx hb dX5_step_138 (by decide) ?_
        refine lv_aload_n hx hb dX5_step_161 rfl (lv_at hl 2 rfl) ?_
        refine va_get (D := (dC, dI)) (ci := 5) (v := .int y_writeSize_44) (C := RX5) (T := TX5) (N := 17) hx hb hts (by decide +kernel) hown hK hP 2 rfl rfl 10 (by decide) (hts (.fieldLink RX5 80 "WordGuestModel" "writeSize" "I") (by decide +kernel)) (fun _ h9 => h9) rfl dX5_step_162 ?_
        refine lv_if_le (tgt := 233) hx hb dX5_step_165 (by decide) (fun c9 => absurd c9 (by first | exact c_86 | (rw [c_86]; decide) | rw [c_86])) (fun c_103 => ?_)
        refine lv_aload_n hx hb dX5_step_168 rfl (lv_at hl 2 rfl) ?_
        refine va_get (D := (dC, dI)) (ci := 5) (v := .int y_writePlace_43) (C := RX5) (T := TX5) (N := 17) hx hb hts (by decide +kernel) hown hK hP 2 rfl rfl 9 (by decide) (hts (.fieldLink RX5 77 "WordGuestModel" "writePlace" "I") (by decide +kernel)) (fun _ h9 => h9) rfl dX5_step_169 ?_
        refine lv_sipush (v := 4094) hx hb dX5_step_172 (by decide) ?_
        refine lv_icmp_ne (tgt := 233) hx hb dX5_step_175 (by decide) (fun c_104 => ?_) (fun c_104 => ?_)
        · refine lv_aload_n hx hb dX5_step_233 rfl (lv_at hl 2 rfl) ?_
          refine lv_dup hx hb dX5_step_234 rfl ?_
          refine va_get (D := (dC, dI)) (ci := 5) (v := .int x_steps) (C := RX5) (T := TX5) (N := 17) hx hb hts (by decide +kernel) hown hK hP 2 rfl rfl 6 (by decide) (hts (.fieldLink RX5 42 "WordGuestModel" "steps" "I") (by decide +kernel)) (fun _ h9 => h9) rfl dX5_step_235 ?_
          refine lv_iconst (v := 1) hx hb dX5_step_238 (by decide) ?_
          refine lv_iadd hx hb dX5_step_239 ?_
          refine va_put (D := (dC, dI)) (ci := 5) (v := .int (x_steps + 1)) (ty := .int) (C := RX5) (T := TX5) (N := 17) hx hb hts (by decide +kernel) tyX5 tyX5_ok nmX5 hown hK hP hD hS 2 rfl rfl 6 (by decide) (hts (.fieldLink RX5 42 "WordGuestModel" "steps" "I") (by decide +kernel)) (fun _ h9 => h9) rfl (by decide +kernel) rfl rfl (Nat.le_of_ble_eq_true rfl) dX5_step_240 (fun H locs hP hD hS => ?_)
          have hP : va_P (dC, dI) vwCl [(mR, .inl (cG, 8, .inl g_84)), (mO, .inl (cO, 400, .inl uf)), (m0, .inr (5, [.int x_thrown, .ref mB, .ref mR, .int y_nowFlags_42, .ref mO, .int x_outCount, .int (x_steps + 1), .ref mN, .int y_nowFlags_42, .int y_writePlace_43, .int y_writeSize_44, .int y_writeValue_45, .int y_fault_46, .int y_halt_47, .int y_isByte_48, .int y_atRegister_49, .int y_atPlace_50])), (mB, .inl (cY, 4096, .inl g_102)), (mN, .inl (cN, 8, .inl nf2_51))] H := hP
          have hD : va_D A [(mR, .inl (cG, 8, .inl g_84)), (mO, .inl (cO, 400, .inl uf)), (m0, .inr (5, [.int x_thrown, .ref mB, .ref mR, .int y_nowFlags_42, .ref mO, .int x_outCount, .int (x_steps + 1), .ref mN, .int y_nowFlags_42, .int y_writePlace_43, .int y_writeSize_44, .int y_writeValue_45, .int y_fault_46, .int y_halt_47, .int y_isByte_48, .int y_atRegister_49, .int y_atPlace_50])), (mB, .inl (cY, 4096, .inl g_102)), (mN, .inl (cN, 8, .inl nf2_51))] := hD
          have hP9 := hP.sub (ws' := [(m0, .inr (5, [.int x_thrown, .ref mB, .ref mR, .int y_nowFlags_42, .ref mO, .int x_outCount, .int (x_steps + 1), .ref mN, .int y_nowFlags_42, .int y_writePlace_43, .int y_writeSize_44, .int y_writeValue_45, .int y_fault_46, .int y_halt_47, .int y_isByte_48, .int y_atRegister_49, .int y_atPlace_50])), (mB, .inl (cY, 4096, .inl g_102)), (mR, .inl (cG, 8, .inl g_84)), (mN, .inl (cN, 8, .inl nf2_51)), (mO, .inl (cO, 400, .inl uf))]) [2, 3, 0, 4, 1] rfl
          have hD9 := hD.sub (ws' := [(m0, .inr (5, [.int x_thrown, .ref mB, .ref mR, .int y_nowFlags_42, .ref mO, .int x_outCount, .int (x_steps + 1), .ref mN, .int y_nowFlags_42, .int y_writePlace_43, .int y_writeSize_44, .int y_writeValue_45, .int y_fault_46, .int y_halt_47, .int y_isByte_48, .int y_atRegister_49, .int y_atPlace_50])), (mB, .inl (cY, 4096, .inl g_102)), (mR, .inl (cG, 8, .inl g_84)), (mN, .inl (cN, 8, .inl nf2_51)), (mO, .inl (cO, 400, .inl uf))]) [2, 3, 0, 4, 1] (by decide) rfl
          have hK9 := hK.sub (tys' := [(cY, .int), (cG, .int), (cN, .int), (cO, .int)]) [0, 1, 2, 3] rfl
          exact W.vret hx hb hr (fun t ht hW => ⟨⟨(y_nowFlags_42, x_outCount, x_steps + 1, y_nowFlags_42, y_writePlace_43, y_writeSize_44, y_writeValue_45, y_fault_46, y_halt_47, y_isByte_48, y_atRegister_49, y_atPlace_50, g_102, g_84, nf2_51, uf), rfl, ⟨hO, hB_101, hR_83⟩, by rw [ht]; exact hP9, va_K.moved hW.alike hK9, hD9⟩, hS.F ht⟩) hS.2.2 dX5_step_243
        · refine lv_aload_n hx hb dX5_step_178 rfl (lv_at hl 2 rfl) ?_
          refine va_get (D := (dC, dI)) (ci := 5) (v := .int x_outCount) (C := RX5) (T := TX5) (N := 17) hx hb hts (by decide +kernel) hown hK hP 2 rfl rfl 5 (by decide) (hts (.fieldLink RX5 45 "WordGuestModel" "outCount" "I") (by decide +kernel)) (fun _ h9 => h9) rfl dX5_step_179 ?_
          refine lv_sipush (v := 400) hx hb dX5_step_182 (by decide) ?_
          refine lv_icmp_ge (tgt := 233) hx hb dX5_step_185 (by decide) (fun c_105 => ?_) (fun c_105 => ?_)
          · refine lv_aload_n hx hb dX5_step_233 rfl (lv_at hl 2 rfl) ?_
            refine lv_dup hx hb dX5_step_234 rfl ?_
            refine va_get (D := (dC, dI)) (ci := 5) (v := .int x_steps) (C := RX5) (T := TX5) (N := 17) hx hb hts (by decide +kernel) hown hK hP 2 rfl rfl 6 (by decide) (hts (.fieldLink RX5 42 "WordGuestModel" "steps" "I") (by decide +kernel)) (fun _ h9 => h9) rfl dX5_step_235 ?_
            refine lv_iconst (v := 1) hx hb dX5_step_238 (by decide) ?_
            refine lv_iadd hx hb dX5_step_239 ?_
            refine va_put (D := (dC, dI)) (ci := 5) (v := .int (x_steps + 1)) (ty := .int) (C := RX5) (T := TX5) (N := 17) hx hb hts (by decide +kernel) tyX5 tyX5_ok nmX5 hown hK hP hD hS 2 rfl rfl 6 (by decide) (hts (.fieldLink RX5 42 "WordGuestModel" "steps" "I") (by decide +kernel)) (fun _ h9 => h9) rfl (by decide +kernel) rfl rfl (Nat.le_of_ble_eq_true rfl) dX5_step_240 (fun H locs hP hD hS => ?_)
            have hP : va_P (dC, dI) vwCl [(mR, .inl (cG, 8, .inl g_84)), (mO, .inl (cO, 400, .inl uf)), (m0, .inr (5, [.int x_thrown, .ref mB, .ref mR, .int y_nowFlags_42, .ref mO, .int x_outCount, .int (x_steps + 1), .ref mN, .int y_nowFlags_42, .int y_writePlace_43, .int y_writeSize_44, .int y_writeValue_45, .int y_fault_46, .int y_halt_47, .int y_isByte_48, .int y_atRegister_49, .int y_atPlace_50])), (mB, .inl (cY, 4096, .inl g_102)), (mN, .inl (cN, 8, .inl nf2_51))] H := hP
            have hD : va_D A [(mR, .inl (cG, 8, .inl g_84)), (mO, .inl (cO, 400, .inl uf)), (m0, .inr (5, [.int x_thrown, .ref mB, .ref mR, .int y_nowFlags_42, .ref mO, .int x_outCount, .int (x_steps + 1), .ref mN, .int y_nowFlags_42, .int y_writePlace_43, .int y_writeSize_44, .int y_writeValue_45, .int y_fault_46, .int y_halt_47, .int y_isByte_48, .int y_atRegister_49, .int y_atPlace_50])), (mB, .inl (cY, 4096, .inl g_102)), (mN, .inl (cN, 8, .inl nf2_51))] := hD
            have hP9 := hP.sub (ws' := [(m0, .inr (5, [.int x_thrown, .ref mB, .ref mR, .int y_nowFlags_42, .ref mO, .int x_outCount, .int (x_steps + 1), .ref mN, .int y_nowFlags_42, .int y_writePlace_43, .int y_writeSize_44, .int y_writeValue_45, .int y_fault_46, .int y_halt_47, .int y_isByte_48, .int y_atRegister_49, .int y_atPlace_50])), (mB, .inl (cY, 4096, .inl g_102)), (mR, .inl (cG, 8, .inl g_84)), (mN, .inl (cN, 8, .inl nf2_51)), (mO, .inl (cO, 400, .inl uf))]) [2, 3, 0, 4, 1] rfl
            have hD9 := hD.sub (ws' := [(m0, .inr (5, [.int x_thrown, .ref mB, .ref mR, .int y_nowFlags_42, .ref mO, .int x_outCount, .int (x_steps + 1), .ref mN, .int y_nowFlags_42, .int y_writePlace_43, .int y_writeSize_44, .int y_writeValue_45, .int y_fault_46, .int y_halt_47, .int y_isByte_48, .int y_atRegister_49, .int y_atPlace_50])), (mB, .inl (cY, 4096, .inl g_102)), (mR, .inl (cG, 8, .inl g_84)), (mN, .inl (cN, 8, .inl nf2_51)), (mO, .inl (cO, 400, .inl uf))]) [2, 3, 0, 4, 1] (by decide) rfl
            have hK9 := hK.sub (tys' := [(cY, .int), (cG, .int), (cN, .int), (cO, .int)]) [0, 1, 2, 3] rfl
            exact W.vret hx hb hr (fun t ht hW => ⟨⟨(y_nowFlags_42, x_outCount, x_steps + 1, y_nowFlags_42, y_writePlace_43, y_writeSize_44, y_writeValue_45, y_fault_46, y_halt_47, y_isByte_48, y_atRegister_49, y_atPlace_50, g_102, g_84, nf2_51, uf), rfl, ⟨hO, hB_101, hR_83⟩, by rw [ht]; exact hP9, va_K.moved hW.alike hK9, hD9⟩, hS.F ht⟩) hS.2.2 dX5_step_243
          · refine lv_aload_n hx hb dX5_step_188 rfl (lv_at hl 2 rfl) ?_
            refine va_get (D := (dC, dI)) (ci := 5) (v := .ref mO) (C := RX5) (T := TX5) (N := 17) hx hb hts (by decide +kernel) hown hK hP 2 rfl rfl 4 (by decide) (hts (.fieldLink RX5 16 "WordGuestModel" "outs" "[I") (by decide +kernel)) (fun _ h9 => h9) rfl dX5_step_189 ?_
            refine lv_aload_n hx hb dX5_step_192 rfl (lv_at hl 2 rfl) ?_
            refine va_get (D := (dC, dI)) (ci := 5) (v := .int x_outCount) (C := RX5) (T := TX5) (N := 17) hx hb hts (by decide +kernel) hown hK hP 2 rfl rfl 5 (by decide) (hts (.fieldLink RX5 45 "WordGuestModel" "outCount" "I") (by decide +kernel)) (fun _ h9 => h9) rfl dX5_step_193 ?_
            refine lv_aload_n hx hb dX5_step_196 rfl (lv_at hl 2 rfl) ?_
            refine va_get (D := (dC, dI)) (ci := 5) (v := .int y_writeSize_44) (C := RX5) (T := TX5) (N := 17) hx hb hts (by decide +kernel) hown hK hP 2 rfl rfl 10 (by decide) (hts (.fieldLink RX5 80 "WordGuestModel" "writeSize" "I") (by decide +kernel)) (fun _ h9 => h9) rfl dX5_step_197 ?_
            refine lv_iconst (v := 1) hx hb dX5_step_200 (by decide) ?_
            refine lv_icmp_ne (tgt := 215) hx hb dX5_step_201 (by decide) (fun c9 => absurd (by first | exact c_86 | (rw [c_86]; decide) | rw [c_86]) c9) (fun c_106 => ?_)
            refine lv_aload_n hx hb dX5_step_204 rfl (lv_at hl 2 rfl) ?_
            refine va_get (D := (dC, dI)) (ci := 5) (v := .int y_writeValue_45) (C := RX5) (T := TX5) (N := 17) hx hb hts (by decide +kernel) hown hK hP 2 rfl rfl 11 (by decide) (hts (.fieldLink RX5 83 "WordGuestModel" "writeValue" "I") (by decide +kernel)) (fun _ h9 => h9) rfl dX5_step_205 ?_
            refine lv_sipush (v := 255) hx hb dX5_step_208 (by decide) ?_
            refine lv_iand hx hb dX5_step_211 ?_
            refine lv_goto (tgt := 222) hx hb dX5_step_212 (by decide) ?_
            refine va_iast hx hb hK hP hD hS 1 3 rfl rfl (ok4_in hO c_105) dX5_step_222 (fun H locs hP hD hS => ?_)
            have hP : va_P (dC, dI) vwCl [(mR, .inl (cG, 8, .inl g_84)), (mO, .inl (cO, 400, .inl (upd uf x_outCount.toNatClampNeg (y_writeValue_45 &&& 255)))), (m0, .inr (5, [.int x_thrown, .ref mB, .ref mR, .int y_nowFlags_42, .ref mO, .int x_outCount, .int x_steps, .ref mN, .int y_nowFlags_42, .int y_writePlace_43, .int y_writeSize_44, .int y_writeValue_45, .int y_fault_46, .int y_halt_47, .int y_isByte_48, .int y_atRegister_49, .int y_atPlace_50])), (mB, .inl (cY, 4096, .inl g_102)), (mN, .inl (cN, 8, .inl nf2_51))] H := hP
            have hD : va_D A [(mR, .inl (cG, 8, .inl g_84)), (mO, .inl (cO, 400, .inl (upd uf x_outCount.toNatClampNeg (y_writeValue_45 &&& 255)))), (m0, .inr (5, [.int x_thrown, .ref mB, .ref mR, .int y_nowFlags_42, .ref mO, .int x_outCount, .int x_steps, .ref mN, .int y_nowFlags_42, .int y_writePlace_43, .int y_writeSize_44, .int y_writeValue_45, .int y_fault_46, .int y_halt_47, .int y_isByte_48, .int y_atRegister_49, .int y_atPlace_50])), (mB, .inl (cY, 4096, .inl g_102)), (mN, .inl (cN, 8, .inl nf2_51))] := hD
            generalize (upd uf x_outCount.toNatClampNeg (y_writeValue_45 &&& 255)) = g_107 at hP hD
            refine lv_aload_n hx hb dX5_step_223 rfl (lv_at hl 2 rfl) ?_
            refine lv_dup hx hb dX5_step_224 rfl ?_
            refine va_get (D := (dC, dI)) (ci := 5) (v := .int x_outCount) (C := RX5) (T := TX5) (N := 17) hx hb hts (by decide +kernel) hown hK hP 2 rfl rfl 5 (by decide) (hts (.fieldLink RX5 45 "WordGuestModel" "outCount" "I") (by decide +kernel)) (fun _ h9 => h9) rfl dX5_step_225 ?_
            refine lv_iconst (v := 1) hx hb dX5_step_228 (by decide) ?_
            refine lv_iadd hx hb dX5_step_229 ?_
            refine va_put (D := (dC, dI)) (ci := 5) (v := .int (x_outCount + 1)) (ty := .int) (C := RX5) (T := TX5) (N := 17) hx hb hts (by decide +kernel) tyX5 tyX5_ok nmX5 hown hK hP hD hS 2 rfl rfl 5 (by decide) (hts (.fieldLink RX5 45 "WordGuestModel" "outCount" "I") (by decide +kernel)) (fun _ h9 => h9) rfl (by decide +kernel) rfl rfl (Nat.le_of_ble_eq_true rfl) dX5_step_230 (fun H locs hP hD hS => ?_)
            have hP : va_P (dC, dI) vwCl [(mR, .inl (cG, 8, .inl g_84)), (mO, .inl (cO, 400, .inl g_107)), (m0, .inr (5, [.int x_thrown, .ref mB, .ref mR, .int y_nowFlags_42, .ref mO, .int (x_outCount + 1), .int x_steps, .ref mN, .int y_nowFlags_42, .int y_writePlace_43, .int y_writeSize_44, .int y_writeValue_45, .int y_fault_46, .int y_halt_47, .int y_isByte_48, .int y_atRegister_49, .int y_atPlace_50])), (mB, .inl (cY, 4096, .inl g_102)), (mN, .inl (cN, 8, .inl nf2_51))] H := hP
            have hD : va_D A [(mR, .inl (cG, 8, .inl g_84)), (mO, .inl (cO, 400, .inl g_107)), (m0, .inr (5, [.int x_thrown, .ref mB, .ref mR, .int y_nowFlags_42, .ref mO, .int (x_outCount + 1), .int x_steps, .ref mN, .int y_nowFlags_42, .int y_writePlace_43, .int y_writeSize_44, .int y_writeValue_45, .int y_fault_46, .int y_halt_47, .int y_isByte_48, .int y_atRegister_49, .int y_atPlace_50])), (mB, .inl (cY, 4096, .inl g_102)), (mN, .inl (cN, 8, .inl nf2_51))] := hD
            refine lv_aload_n hx hb dX5_step_233 rfl (lv_at hl 2 rfl) ?_
            refine lv_dup hx hb dX5_step_234 rfl ?_
            refine va_get (D := (dC, dI)) (ci := 5) (v := .int x_steps) (C := RX5) (T := TX5) (N := 17) hx hb hts (by decide +kernel) hown hK hP 2 rfl rfl 6 (by decide) (hts (.fieldLink RX5 42 "WordGuestModel" "steps" "I") (by decide +kernel)) (fun _ h9 => h9) rfl dX5_step_235 ?_
            refine lv_iconst (v := 1) hx hb dX5_step_238 (by decide) ?_
            refine lv_iadd hx hb dX5_step_239 ?_
            refine va_put (D := (dC, dI)) (ci := 5) (v := .int (x_steps + 1)) (ty := .int) (C := RX5) (T := TX5) (N := 17) hx hb hts (by decide +kernel) tyX5 tyX5_ok nmX5 hown hK hP hD hS 2 rfl rfl 6 (by decide) (hts (.fieldLink RX5 42 "WordGuestModel" "steps" "I") (by decide +kernel)) (fun _ h9 => h9) rfl (by decide +kernel) rfl rfl (Nat.le_of_ble_eq_true rfl) dX5_step_240 (fun H locs hP hD hS => ?_)
            have hP : va_P (dC, dI) vwCl [(mR, .inl (cG, 8, .inl g_84)), (mO, .inl (cO, 400, .inl g_107)), (m0, .inr (5, [.int x_thrown, .ref mB, .ref mR, .int y_nowFlags_42, .ref mO, .int (x_outCount + 1), .int (x_steps + 1), .ref mN, .int y_nowFlags_42, .int y_writePlace_43, .int y_writeSize_44, .int y_writeValue_45, .int y_fault_46, .int y_halt_47, .int y_isByte_48, .int y_atRegister_49, .int y_atPlace_50])), (mB, .inl (cY, 4096, .inl g_102)), (mN, .inl (cN, 8, .inl nf2_51))] H := hP
            have hD : va_D A [(mR, .inl (cG, 8, .inl g_84)), (mO, .inl (cO, 400, .inl g_107)), (m0, .inr (5, [.int x_thrown, .ref mB, .ref mR, .int y_nowFlags_42, .ref mO, .int (x_outCount + 1), .int (x_steps + 1), .ref mN, .int y_nowFlags_42, .int y_writePlace_43, .int y_writeSize_44, .int y_writeValue_45, .int y_fault_46, .int y_halt_47, .int y_isByte_48, .int y_atRegister_49, .int y_atPlace_50])), (mB, .inl (cY, 4096, .inl g_102)), (mN, .inl (cN, 8, .inl nf2_51))] := hD
            have hP9 := hP.sub (ws' := [(m0, .inr (5, [.int x_thrown, .ref mB, .ref mR, .int y_nowFlags_42, .ref mO, .int (x_outCount + 1), .int (x_steps + 1), .ref mN, .int y_nowFlags_42, .int y_writePlace_43, .int y_writeSize_44, .int y_writeValue_45, .int y_fault_46, .int y_halt_47, .int y_isByte_48, .int y_atRegister_49, .int y_atPlace_50])), (mB, .inl (cY, 4096, .inl g_102)), (mR, .inl (cG, 8, .inl g_84)), (mN, .inl (cN, 8, .inl nf2_51)), (mO, .inl (cO, 400, .inl g_107))]) [2, 3, 0, 4, 1] rfl
            have hD9 := hD.sub (ws' := [(m0, .inr (5, [.int x_thrown, .ref mB, .ref mR, .int y_nowFlags_42, .ref mO, .int (x_outCount + 1), .int (x_steps + 1), .ref mN, .int y_nowFlags_42, .int y_writePlace_43, .int y_writeSize_44, .int y_writeValue_45, .int y_fault_46, .int y_halt_47, .int y_isByte_48, .int y_atRegister_49, .int y_atPlace_50])), (mB, .inl (cY, 4096, .inl g_102)), (mR, .inl (cG, 8, .inl g_84)), (mN, .inl (cN, 8, .inl nf2_51)), (mO, .inl (cO, 400, .inl g_107))]) [2, 3, 0, 4, 1] (by decide) rfl
            have hK9 := hK.sub (tys' := [(cY, .int), (cG, .int), (cN, .int), (cO, .int)]) [0, 1, 2, 3] rfl
            exact W.vret hx hb hr (fun t ht hW => ⟨⟨(y_nowFlags_42, x_outCount + 1, x_steps + 1, y_nowFlags_42, y_writePlace_43, y_writeSize_44, y_writeValue_45, y_fault_46, y_halt_47, y_isByte_48, y_atRegister_49, y_atPlace_50, g_102, g_84, nf2_51, g_107), rfl, ⟨(ok4_s hO c_105), hB_101, hR_83⟩, by rw [ht]; exact hP9, va_K.moved hW.alike hK9, hD9⟩, hS.F ht⟩) hS.2.2 dX5_step_243
    · have hP9 := hP.sub (ws' := [(m0, .inr (5, [.int x_thrown, .ref mB, .ref mR, .int x_flags, .ref mO, .int x_outCount, .int x_steps, .ref mN, .int y_nowFlags_42, .int y_writePlace_43, .int y_writeSize_44, .int y_writeValue_45, .int y_fault_46, .int y_halt_47, .int y_isByte_48, .int y_atRegister_49, .int y_atPlace_50])), (mB, .inl (cY, 4096, .inl bf)), (mR, .inl (cG, 8, .inl rf)), (mN, .inl (cN, 8, .inl nf2_51)), (mO, .inl (cO, 400, .inl uf))]) [2, 3, 0, 4, 1] rfl
      have hD9 := hD.sub (ws' := [(m0, .inr (5, [.int x_thrown, .ref mB, .ref mR, .int x_flags, .ref mO, .int x_outCount, .int x_steps, .ref mN, .int y_nowFlags_42, .int y_writePlace_43, .int y_writeSize_44, .int y_writeValue_45, .int y_fault_46, .int y_halt_47, .int y_isByte_48, .int y_atRegister_49, .int y_atPlace_50])), (mB, .inl (cY, 4096, .inl bf)), (mR, .inl (cG, 8, .inl rf)), (mN, .inl (cN, 8, .inl nf2_51)), (mO, .inl (cO, 400, .inl uf))]) [2, 3, 0, 4, 1] (by decide) rfl
      have hK9 := hK.sub (tys' := [(cY, .int), (cG, .int), (cN, .int), (cO, .int)]) [0, 1, 2, 3] rfl
      exact W.vret hx hb hr (fun t ht hW => ⟨⟨(x_flags, x_outCount, x_steps, y_nowFlags_42, y_writePlace_43, y_writeSize_44, y_writeValue_45, y_fault_46, y_halt_47, y_isByte_48, y_atRegister_49, y_atPlace_50, bf, rf, nf2_51, uf), rfl, ⟨hO, hB, hR⟩, by rw [ht]; exact hP9, va_K.moved hW.alike hK9, hD9⟩, hS.F ht⟩) hS.2.2 dX5_step_78
