set_option maxHeartbeats 4000000 in
set_option maxRecDepth 100000 in
theorem c_X5_read0 (l : Launch) (dC : Nat → ClassId) (dI : Nat → Nat → Nat) (sz : Nat) (m0 : Nat) (mB : Nat) (mR : Nat) (mO : Nat) (mN : Nat) (cY : ClassId)  : Met l yX5_read wsX5_read ({ frames := 1, cells := 0, slots := 0, locals := 21 }) (va_Pc [.ref m0, .int 0, .int 0] (q_pre dC dI sz [(m0, .inr (5, [.int 0, .ref mB, .ref mR, .int 0, .ref mO, .int 0, .int 0, .ref mN, .int 0, .int 0, .int 0, .int 0, .int 0, .int 0, .int 0, .int 0, .int 0])), (mB, .inl (cY, 4096, .inl (fun _ => 0)))] [(cY, .int)])) (va_Qi (fun (r : Int32) (u9 : Unit) => r = 0) (q_at dC dI (va_A [(m0, .inr (5, [.int 0, .ref mB, .ref mR, .int 0, .ref mO, .int 0, .int 0, .ref mN, .int 0, .int 0, .int 0, .int 0, .int 0, .int 0, .int 0, .int 0, .int 0])), (mB, .inl (cY, 4096, .inl (fun _ => 0)))] sz) (fun (u9 : Unit) => [(cY, .int)]) (fun (u9 : Unit) => [(m0, .inr (5, [.int 0, .ref mB, .ref mR, .int 0, .ref mO, .int 0, .int 0, .ref mN, .int 0, .int 0, .int 0, .int 0, .int 0, .int 0, .int 0, .int 0, .int 0])), (mB, .inl (cY, 4096, .inl (fun _ => 0)))])) (va_A [(m0, .inr (5, [.int 0, .ref mB, .ref mR, .int 0, .ref mO, .int 0, .int 0, .ref mN, .int 0, .int 0, .int 0, .int 0, .int 0, .int 0, .int 0, .int 0, .int 0])), (mB, .inl (cY, 4096, .inl (fun _ => 0)))] sz)) 0 0 (va_A [(m0, .inr (5, [.int 0, .ref mB, .ref mR, .int 0, .ref mO, .int 0, .int 0, .ref mN, .int 0, .int 0, .int 0, .int 0, .int 0, .int 0, .int 0, .int 0, .int 0])), (mB, .inl (cY, 4096, .inl (fun _ => 0)))] sz) := by
  refine Met.ofW (cc := cX5_read) (maxL := 3) (ret := (some .int)) (by decide) rfl ?_
  intro p e s m args below meth c s₁ B hml hv
  obtain ⟨rfl, hsz, hP, hK, hD0, hN⟩ := hv
  have hx := B.exec
  have hb := B.bytes
  have hr := B.returns
  have hts := atoms_spec (ws := wsX5_read) B.pre
  have hown : s.vm.findClass RX5 = some m.cls := findClass_of_methodNamed B.named
  have hlocks := B.notSynchronized
  subst hsz
  have hD := hD0.self (sz := s.heap.size)
  generalize hAe : va_A [(m0, .inr (5, [.int 0, .ref mB, .ref mR, .int 0, .ref mO, .int 0, .int 0, .ref mN, .int 0, .int 0, .int 0, .int 0, .int 0, .int 0, .int 0, .int 0, .int 0])), (mB, .inl (cY, 4096, .inl (fun _ => 0)))] s.heap.size = A at hD ⊢
  have hA : ∀ q : Nat, s.heap.size ≤ q → A q := fun q h => by rw [← hAe]; exact Or.inr h
  have hS : va_S A s.heap s.heap [] := va_S.rf
  have hP : va_P (dC, dI) vwCl [(m0, .inr (5, [.int 0, .ref mB, .ref mR, .int 0, .ref mO, .int 0, .int 0, .ref mN, .int 0, .int 0, .int 0, .int 0, .int 0, .int 0, .int 0, .int 0, .int 0])), (mB, .inl (cY, 4096, .inl (fun _ => 0)))] s.heap := hP
  have hl := lv_entry ([.ref m0, .int 0, .int 0]) (n := 3) (Nat.le_of_ble_eq_true rfl)
  rw [lg_entry_eq]
  generalize (lg_sl ([.ref m0, .int 0, .int 0]) ++ List.replicate (3 - (lg_sl ([.ref m0, .int 0, .int 0])).length) Slot.unset).toArray = ls at hl ⊢
  have hl : lv_has ls 3 [(0, .ref m0), (1, .int 0), (2, .int 0)] := hl
  refine lv_iload_n hx hb dX5_read_0 rfl (lv_at hl 2 rfl) ?_
  refine lv_if_ne (tgt := 19) hx hb dX5_read_1 (by decide) (fun c9 => absurd (by decide) c9) (fun c_1 => ?_)
  refine lv_iload_n hx hb dX5_read_4 rfl (lv_at hl 1 rfl) ?_
  refine lv_iconst (v := 2) hx hb dX5_read_5 (by decide) ?_
  refine lv_irem hx hb dX5_read_6 (by decide) ?_
  refine q_toc (y := 0) (by decide) ?_
  refine lv_iconst (v := 1) hx hb dX5_read_7 (by decide) ?_
  refine lv_icmp_ne (tgt := 19) hx hb dX5_read_8 (by decide) (fun c_2 => ?_) (fun c9 => absurd c9 (by decide))
  refine lv_iload_n hx hb dX5_read_19 rfl (lv_at hl 1 rfl) ?_
  refine lv_sipush (v := 4096) hx hb dX5_read_20 (by decide) ?_
  refine lv_icmp_lt (tgt := 31) hx hb dX5_read_23 (by decide) (fun c_3 => ?_) (fun c9 => absurd (by decide) c9)
  refine lv_aload_n hx hb dX5_read_31 rfl (lv_at hl 0 rfl) ?_
  refine va_get (D := (dC, dI)) (ci := 5) (v := .int 0) (C := RX5) (T := TX5) (N := 17) hx hb hts (by decide +kernel) hown hK hP 0 rfl rfl 12 (by decide) (hts (.fieldLink RX5 48 "WordGuestModel" "fault" "I") (by decide +kernel)) (fun _ h9 => h9) rfl dX5_read_32 ?_
  refine lv_if_le (tgt := 42) hx hb dX5_read_35 (by decide) (fun c_4 => ?_) (fun c9 => absurd (by decide) c9)
  refine lv_iload_n hx hb dX5_read_42 rfl (lv_at hl 2 rfl) ?_
  refine lv_if_eq (tgt := 55) hx hb dX5_read_43 (by decide) (fun c_5 => ?_) (fun c9 => absurd (by decide) c9)
  refine lv_aload_n hx hb dX5_read_55 rfl (lv_at hl 0 rfl) ?_
  refine lv_iload_n hx hb dX5_read_56 rfl (lv_at hl 1 rfl) ?_
  have hPc := hP.sub (ws' := [(m0, .inr (5, [.int 0, .ref mB, .ref mR, .int 0, .ref mO, .int 0, .int 0, .ref mN, .int 0, .int 0, .int 0, .int 0, .int 0, .int 0, .int 0, .int 0, .int 0])), (mB, .inl (cY, 4096, .inl (fun _ => 0)))]) [0, 1] rfl
  have hDc := hD.sub (ws' := [(m0, .inr (5, [.int 0, .ref mB, .ref mR, .int 0, .ref mO, .int 0, .int 0, .ref mN, .int 0, .int 0, .int 0, .int 0, .int 0, .int 0, .int 0, .int 0, .int 0])), (mB, .inl (cY, 4096, .inl (fun _ => 0)))]) [0, 1] (by decide) rfl
  have hKc := hK.sub (tys' := [(cY, .int)]) [0] rfl
  have hFc := va_free (wc := [(m0, .inr (5, [.int 0, .ref mB, .ref mR, .int 0, .ref mO, .int 0, .int 0, .ref mN, .int 0, .int 0, .int 0, .int 0, .int 0, .int 0, .int 0, .int 0, .int 0])), (mB, .inl (cY, 4096, .inl (fun _ => 0)))]) hD hS hA [0, 1] rfl
  refine va_calli (va_runV (C := RX5) (b := m0) (As := [.int 0]) (rest := []) ⟨hx, hb, hml, hown, hts⟩ (c_X5_wordAt l dC dI s.heap.size m0 mB mR mO mN cY (0 : Int32) (by unfold vp_in; decide) (by unfold vp_in; decide)) (cwV 1 hts gX5_read_X5_wordAt rfl rfl rfl (by decide +kernel) ⟨Nat.le_of_ble_eq_true rfl, Nat.le_of_ble_eq_true rfl⟩) ⟨q_blind, va_recv hK hP (ci := 5) (q0 := 0) rfl rfl, fun U hU hW => ⟨rfl, q_pay hU hW hPc hKc hDc hN⟩⟩ rfl rfl hl.1 rfl (lv_room (Nat.le_of_ble_eq_true rfl)) dX5_read_57 ⟨show 0 + 0 ≤ 0 from by omega, show 0 + 0 ≤ 0 from by omega⟩) hS (fun q _ h => hFc q h) hFc (fun r_6 u9 t H locs ht hvm hw_7 hB hz1 hk1 hS => ?_)
  obtain ⟨hP1, hK1, hD1⟩ := hB
  rw [ht] at hP1
  obtain ⟨hP, hD⟩ := va_join (wr := []) (w1 := [(m0, .inr (5, [.int 0, .ref mB, .ref mR, .int 0, .ref mO, .int 0, .int 0, .ref mN, .int 0, .int 0, .int 0, .int 0, .int 0, .int 0, .int 0, .int 0, .int 0])), (mB, .inl (cY, 4096, .inl (fun _ => 0)))]) hP hD [0, 1] [] rfl rfl (by decide) (by decide) hk1 hFc hP1 hD1
  have hP : va_P (dC, dI) vwCl [(m0, .inr (5, [.int 0, .ref mB, .ref mR, .int 0, .ref mO, .int 0, .int 0, .ref mN, .int 0, .int 0, .int 0, .int 0, .int 0, .int 0, .int 0, .int 0, .int 0])), (mB, .inl (cY, 4096, .inl (fun _ => 0)))] H := hP
  have hD : va_D A [(m0, .inr (5, [.int 0, .ref mB, .ref mR, .int 0, .ref mO, .int 0, .int 0, .ref mN, .int 0, .int 0, .int 0, .int 0, .int 0, .int 0, .int 0, .int 0, .int 0])), (mB, .inl (cY, 4096, .inl (fun _ => 0)))] := hD
  refine W.widen (k := 0) (n := 0) (by omega) (by omega) ?_
  try dsimp only at hw_7
  obtain rfl := hw_7
  refine q_toc (y := 0) rfl ?_
  have hP9 := hP.sub (ws' := [(m0, .inr (5, [.int 0, .ref mB, .ref mR, .int 0, .ref mO, .int 0, .int 0, .ref mN, .int 0, .int 0, .int 0, .int 0, .int 0, .int 0, .int 0, .int 0, .int 0])), (mB, .inl (cY, 4096, .inl (fun _ => 0)))]) [0, 1] rfl
  have hD9 := hD.sub (ws' := [(m0, .inr (5, [.int 0, .ref mB, .ref mR, .int 0, .ref mO, .int 0, .int 0, .ref mN, .int 0, .int 0, .int 0, .int 0, .int 0, .int 0, .int 0, .int 0, .int 0])), (mB, .inl (cY, 4096, .inl (fun _ => 0)))]) [0, 1] (by decide) rfl
  have hK9 := hK.sub (tys' := [(cY, .int)]) [0] rfl
  exact W.iret (v := 0) hx hb hr (fun t ht hW => ⟨⟨0, (), rfl, rfl, by rw [ht]; exact hP9, va_K.moved hW.alike hK9, hD9⟩, hS.F ht⟩) hS.2.2 dX5_read_60
set_option maxHeartbeats 4000000 in
set_option maxRecDepth 100000 in
theorem c_X5_fetch0 (l : Launch) (dC : Nat → ClassId) (dI : Nat → Nat → Nat) (sz : Nat) (m0 : Nat) (mB : Nat) (mR : Nat) (mO : Nat) (mN : Nat) (cY : ClassId) (cN : ClassId)  : Met l yX5_fetch wsX5_fetch ({ frames := 2, cells := 0, slots := 0, locals := 43 }) (va_Pc [.ref m0] (q_pre dC dI sz [(m0, .inr (5, [.int 0, .ref mB, .ref mR, .int 0, .ref mO, .int 0, .int 0, .ref mN, .int 0, .int 0, .int 0, .int 0, .int 0, .int 0, .int 0, .int 0, .int 0])), (mB, .inl (cY, 4096, .inl (fun _ => 0))), (mN, .inl (cN, 8, .inl (fun _ => 0)))] [(cY, .int), (cN, .int)])) (va_Qi (fun (r : Int32) (u9 : (Nat → Int32)) => r = 0) (q_at dC dI (va_A [(m0, .inr (5, [.int 0, .ref mB, .ref mR, .int 0, .ref mO, .int 0, .int 0, .ref mN, .int 0, .int 0, .int 0, .int 0, .int 0, .int 0, .int 0, .int 0, .int 0])), (mB, .inl (cY, 4096, .inl (fun _ => 0))), (mN, .inl (cN, 8, .inl (fun _ => 0)))] sz) (fun (u9 : (Nat → Int32)) => [(cY, .int), (cN, .int)]) (fun (u9 : (Nat → Int32)) => [(m0, .inr (5, [.int 0, .ref mB, .ref mR, .int 0, .ref mO, .int 0, .int 0, .ref mN, .int 0, .int 0, .int 0, .int 0, .int 0, .int 0, .int 0, .int 0, .int 0])), (mB, .inl (cY, 4096, .inl (fun _ => 0))), (mN, .inl (cN, 8, .inl u9))])) (va_A [(m0, .inr (5, [.int 0, .ref mB, .ref mR, .int 0, .ref mO, .int 0, .int 0, .ref mN, .int 0, .int 0, .int 0, .int 0, .int 0, .int 0, .int 0, .int 0, .int 0])), (mB, .inl (cY, 4096, .inl (fun _ => 0))), (mN, .inl (cN, 8, .inl (fun _ => 0)))] sz)) 0 0 (va_A [(m0, .inr (5, [.int 0, .ref mB, .ref mR, .int 0, .ref mO, .int 0, .int 0, .ref mN, .int 0, .int 0, .int 0, .int 0, .int 0, .int 0, .int 0, .int 0, .int 0])), (mB, .inl (cY, 4096, .inl (fun _ => 0))), (mN, .inl (cN, 8, .inl (fun _ => 0)))] sz) := by
  refine Met.ofW (cc := cX5_fetch) (maxL := 2) (ret := (some .int)) (by decide) rfl ?_
  intro p e s m args below meth c s₁ B hml hv
  obtain ⟨rfl, hsz, hP, hK, hD0, hN⟩ := hv
  have hx := B.exec
  have hb := B.bytes
  have hr := B.returns
  have hts := atoms_spec (ws := wsX5_fetch) B.pre
  have hown : s.vm.findClass RX5 = some m.cls := findClass_of_methodNamed B.named
  have hlocks := B.notSynchronized
  subst hsz
  have hD := hD0.self (sz := s.heap.size)
  generalize hAe : va_A [(m0, .inr (5, [.int 0, .ref mB, .ref mR, .int 0, .ref mO, .int 0, .int 0, .ref mN, .int 0, .int 0, .int 0, .int 0, .int 0, .int 0, .int 0, .int 0, .int 0])), (mB, .inl (cY, 4096, .inl (fun _ => 0))), (mN, .inl (cN, 8, .inl (fun _ => 0)))] s.heap.size = A at hD ⊢
  have hA : ∀ q : Nat, s.heap.size ≤ q → A q := fun q h => by rw [← hAe]; exact Or.inr h
  have hS : va_S A s.heap s.heap [] := va_S.rf
  have hP : va_P (dC, dI) vwCl [(m0, .inr (5, [.int 0, .ref mB, .ref mR, .int 0, .ref mO, .int 0, .int 0, .ref mN, .int 0, .int 0, .int 0, .int 0, .int 0, .int 0, .int 0, .int 0, .int 0])), (mB, .inl (cY, 4096, .inl (fun _ => 0))), (mN, .inl (cN, 8, .inl (fun _ => 0)))] s.heap := hP
  have hl := lv_entry ([.ref m0]) (n := 2) (Nat.le_of_ble_eq_true rfl)
  rw [lg_entry_eq]
  generalize (lg_sl ([.ref m0]) ++ List.replicate (2 - (lg_sl ([.ref m0])).length) Slot.unset).toArray = ls at hl ⊢
  have hl : lv_has ls 2 [(0, .ref m0)] := hl
  refine lv_aload_n hx hb dX5_fetch_0 rfl (lv_at hl 0 rfl) ?_
  refine lv_aload_n hx hb dX5_fetch_1 rfl (lv_at hl 0 rfl) ?_
  refine va_get (D := (dC, dI)) (ci := 5) (v := .ref mN) (C := RX5) (T := TX5) (N := 17) hx hb hts (by decide +kernel) hown hK hP 0 rfl rfl 7 (by decide) (hts (.fieldLink RX5 19 "WordGuestModel" "now" "[I") (by decide +kernel)) (fun _ h9 => h9) rfl dX5_fetch_2 ?_
  refine lv_bipush (v := 7) hx hb dX5_fetch_5 (by decide) ?_
  refine va_iald hx hb hK hP 2 1 rfl rfl (by unfold vp_in; decide) dX5_fetch_7 ?_
  refine q_toc (y := 0) rfl ?_
  refine lv_iconst (v := 0) hx hb dX5_fetch_8 (by decide) ?_
  have hPc := hP.sub (ws' := [(m0, .inr (5, [.int 0, .ref mB, .ref mR, .int 0, .ref mO, .int 0, .int 0, .ref mN, .int 0, .int 0, .int 0, .int 0, .int 0, .int 0, .int 0, .int 0, .int 0])), (mB, .inl (cY, 4096, .inl (fun _ => 0)))]) [0, 1] rfl
  have hDc := hD.sub (ws' := [(m0, .inr (5, [.int 0, .ref mB, .ref mR, .int 0, .ref mO, .int 0, .int 0, .ref mN, .int 0, .int 0, .int 0, .int 0, .int 0, .int 0, .int 0, .int 0, .int 0])), (mB, .inl (cY, 4096, .inl (fun _ => 0)))]) [0, 1] (by decide) rfl
  have hKc := hK.sub (tys' := [(cY, .int)]) [0] rfl
  have hFc := va_free (wc := [(m0, .inr (5, [.int 0, .ref mB, .ref mR, .int 0, .ref mO, .int 0, .int 0, .ref mN, .int 0, .int 0, .int 0, .int 0, .int 0, .int 0, .int 0, .int 0, .int 0])), (mB, .inl (cY, 4096, .inl (fun _ => 0)))]) hD hS hA [0, 1] rfl
  refine va_calli (va_runV (C := RX5) (b := m0) (As := [.int 0, .int 0]) (rest := []) ⟨hx, hb, hml, hown, hts⟩ (c_X5_read0 l dC dI s.heap.size m0 mB mR mO mN cY) (cwV 2 hts gX5_fetch_X5_read rfl rfl rfl (by decide +kernel) ⟨Nat.le_of_ble_eq_true rfl, Nat.le_of_ble_eq_true rfl⟩) ⟨q_blind, va_recv hK hP (ci := 5) (q0 := 0) rfl rfl, fun U hU hW => ⟨rfl, q_pay hU hW hPc hKc hDc hN⟩⟩ rfl rfl hl.1 rfl (lv_room (Nat.le_of_ble_eq_true rfl)) dX5_fetch_9 ⟨show 0 + 0 ≤ 0 from by omega, show 0 + 0 ≤ 0 from by omega⟩) hS (fun q _ h => hFc q h) hFc (fun r_1 u9 t H locs ht hvm hw_2 hB hz1 hk1 hS => ?_)
  obtain ⟨hP1, hK1, hD1⟩ := hB
  rw [ht] at hP1
  obtain ⟨hP, hD⟩ := va_join (wr := [(mN, .inl (cN, 8, .inl (fun _ => 0)))]) (w1 := [(m0, .inr (5, [.int 0, .ref mB, .ref mR, .int 0, .ref mO, .int 0, .int 0, .ref mN, .int 0, .int 0, .int 0, .int 0, .int 0, .int 0, .int 0, .int 0, .int 0])), (mB, .inl (cY, 4096, .inl (fun _ => 0)))]) hP hD [0, 1] [2] rfl rfl (by decide) (by decide) hk1 hFc hP1 hD1
  have hP : va_P (dC, dI) vwCl [(mN, .inl (cN, 8, .inl (fun _ => 0))), (m0, .inr (5, [.int 0, .ref mB, .ref mR, .int 0, .ref mO, .int 0, .int 0, .ref mN, .int 0, .int 0, .int 0, .int 0, .int 0, .int 0, .int 0, .int 0, .int 0])), (mB, .inl (cY, 4096, .inl (fun _ => 0)))] H := hP
  have hD : va_D A [(mN, .inl (cN, 8, .inl (fun _ => 0))), (m0, .inr (5, [.int 0, .ref mB, .ref mR, .int 0, .ref mO, .int 0, .int 0, .ref mN, .int 0, .int 0, .int 0, .int 0, .int 0, .int 0, .int 0, .int 0, .int 0])), (mB, .inl (cY, 4096, .inl (fun _ => 0)))] := hD
  refine W.widen (k := 0) (n := 0) (by omega) (by omega) ?_
  try dsimp only at hw_2
  obtain rfl := hw_2
  refine q_toc (y := 0) (by first | rfl | decide) ?_
  refine lv_istore_n (lv' := [(1, .int 0), (0, .ref m0)]) hx hb dX5_fetch_12 rfl hl (by decide) rfl (fun ls hl => ?_)
  refine lv_aload_n hx hb dX5_fetch_13 rfl (lv_at hl 1 rfl) ?_
  refine va_get (D := (dC, dI)) (ci := 5) (v := .ref mN) (C := RX5) (T := TX5) (N := 17) hx hb hts (by decide +kernel) hown hK hP 1 rfl rfl 7 (by decide) (hts (.fieldLink RX5 19 "WordGuestModel" "now" "[I") (by decide +kernel)) (fun _ h9 => h9) rfl dX5_fetch_14 ?_
  refine lv_bipush (v := 7) hx hb dX5_fetch_17 (by decide) ?_
  refine lv_aload_n hx hb dX5_fetch_19 rfl (lv_at hl 1 rfl) ?_
  refine va_get (D := (dC, dI)) (ci := 5) (v := .ref mN) (C := RX5) (T := TX5) (N := 17) hx hb hts (by decide +kernel) hown hK hP 1 rfl rfl 7 (by decide) (hts (.fieldLink RX5 19 "WordGuestModel" "now" "[I") (by decide +kernel)) (fun _ h9 => h9) rfl dX5_fetch_20 ?_
  refine lv_bipush (v := 7) hx hb dX5_fetch_23 (by decide) ?_
  refine va_iald hx hb hK hP 0 1 rfl rfl (by unfold vp_in; decide) dX5_fetch_25 ?_
  refine q_toc (y := 0) rfl ?_
  refine lv_iconst (v := 2) hx hb dX5_fetch_26 (by decide) ?_
  refine lv_iadd hx hb dX5_fetch_27 ?_
  refine q_toc (y := 2) (by decide) ?_
  refine lv_ldc (v := 65535) hx hb hown (hts (.constant RX5 30 (65535)) (by decide +kernel)) dX5_fetch_28 ?_
  refine lv_iand hx hb dX5_fetch_30 ?_
  refine q_toc (y := 2) (by decide) ?_
  refine va_iast hx hb hK hP hD hS 0 1 rfl rfl (by unfold vp_in; decide) dX5_fetch_31 (fun H locs hP hD hS => ?_)
  have hP : va_P (dC, dI) vwCl [(mN, .inl (cN, 8, .inl (upd (fun _ => 0) (7 : Int32).toNatClampNeg 2))), (m0, .inr (5, [.int 0, .ref mB, .ref mR, .int 0, .ref mO, .int 0, .int 0, .ref mN, .int 0, .int 0, .int 0, .int 0, .int 0, .int 0, .int 0, .int 0, .int 0])), (mB, .inl (cY, 4096, .inl (fun _ => 0)))] H := hP
  have hD : va_D A [(mN, .inl (cN, 8, .inl (upd (fun _ => 0) (7 : Int32).toNatClampNeg 2))), (m0, .inr (5, [.int 0, .ref mB, .ref mR, .int 0, .ref mO, .int 0, .int 0, .ref mN, .int 0, .int 0, .int 0, .int 0, .int 0, .int 0, .int 0, .int 0, .int 0])), (mB, .inl (cY, 4096, .inl (fun _ => 0)))] := hD
  generalize (upd (fun _ => 0) (7 : Int32).toNatClampNeg 2) = g_3 at hP hD
  refine lv_iload_n hx hb dX5_fetch_32 rfl (lv_at hl 0 rfl) ?_
  have hP9 := hP.sub (ws' := [(m0, .inr (5, [.int 0, .ref mB, .ref mR, .int 0, .ref mO, .int 0, .int 0, .ref mN, .int 0, .int 0, .int 0, .int 0, .int 0, .int 0, .int 0, .int 0, .int 0])), (mB, .inl (cY, 4096, .inl (fun _ => 0))), (mN, .inl (cN, 8, .inl g_3))]) [1, 2, 0] rfl
  have hD9 := hD.sub (ws' := [(m0, .inr (5, [.int 0, .ref mB, .ref mR, .int 0, .ref mO, .int 0, .int 0, .ref mN, .int 0, .int 0, .int 0, .int 0, .int 0, .int 0, .int 0, .int 0, .int 0])), (mB, .inl (cY, 4096, .inl (fun _ => 0))), (mN, .inl (cN, 8, .inl g_3))]) [1, 2, 0] (by decide) rfl
  have hK9 := hK.sub (tys' := [(cY, .int), (cN, .int)]) [0, 1] rfl
  exact W.iret (v := 0) hx hb hr (fun t ht hW => ⟨⟨0, g_3, rfl, rfl, by rw [ht]; exact hP9, va_K.moved hW.alike hK9, hD9⟩, hS.F ht⟩) hS.2.2 dX5_fetch_33
set_option maxHeartbeats 4000000 in
set_option maxRecDepth 100000 in
theorem c_X5_others0 (l : Launch) (dC : Nat → ClassId) (dI : Nat → Nat → Nat) (sz : Nat) (m0 : Nat) (mB : Nat) (mR : Nat) (mO : Nat) (mN : Nat)  : Met l yX5_others wsX5_others ({ frames := 0, cells := 0, slots := 0, locals := 0 }) (va_Pc [.ref m0, .int 0] (q_pre dC dI sz [(m0, .inr (5, [.int 0, .ref mB, .ref mR, .int 0, .ref mO, .int 0, .int 0, .ref mN, .int 0, .int 0, .int 0, .int 0, .int 0, .int 0, .int 0, .int 0, .int 0]))] [])) (va_Qv (fun (u9 : Unit) => True) (q_at dC dI (va_A [(m0, .inr (5, [.int 0, .ref mB, .ref mR, .int 0, .ref mO, .int 0, .int 0, .ref mN, .int 0, .int 0, .int 0, .int 0, .int 0, .int 0, .int 0, .int 0, .int 0]))] sz) (fun (u9 : Unit) => []) (fun (u9 : Unit) => [(m0, .inr (5, [.int 0, .ref mB, .ref mR, .int 0, .ref mO, .int 0, .int 0, .ref mN, .int 0, .int 0, .int 0, .int 0, .int 0, .int 1, .int 0, .int 0, .int 0]))])) (va_A [(m0, .inr (5, [.int 0, .ref mB, .ref mR, .int 0, .ref mO, .int 0, .int 0, .ref mN, .int 0, .int 0, .int 0, .int 0, .int 0, .int 0, .int 0, .int 0, .int 0]))] sz)) 0 0 (va_A [(m0, .inr (5, [.int 0, .ref mB, .ref mR, .int 0, .ref mO, .int 0, .int 0, .ref mN, .int 0, .int 0, .int 0, .int 0, .int 0, .int 0, .int 0, .int 0, .int 0]))] sz) := by
  refine Met.ofW (cc := cX5_others) (maxL := 4) (ret := none) (by decide) rfl ?_
  intro p e s m args below meth c s₁ B hml hv
  obtain ⟨rfl, hsz, hP, hK, hD0, hN⟩ := hv
  have hx := B.exec
  have hb := B.bytes
  have hr := B.returns
  have hts := atoms_spec (ws := wsX5_others) B.pre
  have hown : s.vm.findClass RX5 = some m.cls := findClass_of_methodNamed B.named
  have hlocks := B.notSynchronized
  subst hsz
  have hD := hD0.self (sz := s.heap.size)
  generalize hAe : va_A [(m0, .inr (5, [.int 0, .ref mB, .ref mR, .int 0, .ref mO, .int 0, .int 0, .ref mN, .int 0, .int 0, .int 0, .int 0, .int 0, .int 0, .int 0, .int 0, .int 0]))] s.heap.size = A at hD ⊢
  have hA : ∀ q : Nat, s.heap.size ≤ q → A q := fun q h => by rw [← hAe]; exact Or.inr h
  have hS : va_S A s.heap s.heap [] := va_S.rf
  have hP : va_P (dC, dI) vwCl [(m0, .inr (5, [.int 0, .ref mB, .ref mR, .int 0, .ref mO, .int 0, .int 0, .ref mN, .int 0, .int 0, .int 0, .int 0, .int 0, .int 0, .int 0, .int 0, .int 0]))] s.heap := hP
  have hl := lv_entry ([.ref m0, .int 0]) (n := 4) (Nat.le_of_ble_eq_true rfl)
  rw [lg_entry_eq]
  generalize (lg_sl ([.ref m0, .int 0]) ++ List.replicate (4 - (lg_sl ([.ref m0, .int 0])).length) Slot.unset).toArray = ls at hl ⊢
  have hl : lv_has ls 4 [(0, .ref m0), (1, .int 0)] := hl
  refine lv_iload_n hx hb dX5_others_0 rfl (lv_at hl 1 rfl) ?_
  refine lv_bipush (v := 6) hx hb dX5_others_1 (by decide) ?_
  refine lv_ishr hx hb dX5_others_3 ?_
  refine q_toc (y := 0) (by decide) ?_
  refine lv_bipush (v := 7) hx hb dX5_others_4 (by decide) ?_
  refine lv_iand hx hb dX5_others_6 ?_
  refine q_toc (y := 0) (by decide) ?_
  refine lv_istore_n (lv' := [(2, .int 0), (0, .ref m0), (1, .int 0)]) hx hb dX5_others_7 rfl hl (by decide) rfl (fun ls hl => ?_)
  refine lv_iload_n hx hb dX5_others_8 rfl (lv_at hl 2 rfl) ?_
  refine lv_bipush (v := 9) hx hb dX5_others_9 (by decide) ?_
  refine lv_ishr hx hb dX5_others_11 ?_
  refine q_toc (y := 0) (by decide) ?_
  refine lv_istore_n (lv' := [(3, .int 0), (2, .int 0), (0, .ref m0), (1, .int 0)]) hx hb dX5_others_12 rfl hl (by decide) rfl (fun ls hl => ?_)
  refine lv_iload_n hx hb dX5_others_13 rfl (lv_at hl 3 rfl) ?_
  refine lv_if_ne (tgt := 25) hx hb dX5_others_14 (by decide) (fun c9 => absurd (by decide) c9) (fun c_1 => ?_)
  refine lv_aload_n hx hb dX5_others_17 rfl (lv_at hl 2 rfl) ?_
  refine lv_iconst (v := 1) hx hb dX5_others_18 (by decide) ?_
  refine va_put (D := (dC, dI)) (ci := 5) (v := .int 1) (ty := .boolean) (C := RX5) (T := TX5) (N := 17) hx hb hts (by decide +kernel) tyX5 tyX5_ok nmX5 hown hK hP hD hS 0 rfl rfl 13 (by decide) (hts (.fieldLink RX5 143 "WordGuestModel" "halt" "Z") (by decide +kernel)) (fun _ h9 => h9) rfl (by decide +kernel) (by decide) (by decide) (Nat.le_of_ble_eq_true rfl) dX5_others_19 (fun H locs hP hD hS => ?_)
  have hP : va_P (dC, dI) vwCl [(m0, .inr (5, [.int 0, .ref mB, .ref mR, .int 0, .ref mO, .int 0, .int 0, .ref mN, .int 0, .int 0, .int 0, .int 0, .int 0, .int 1, .int 0, .int 0, .int 0]))] H := hP
  have hD : va_D A [(m0, .inr (5, [.int 0, .ref mB, .ref mR, .int 0, .ref mO, .int 0, .int 0, .ref mN, .int 0, .int 0, .int 0, .int 0, .int 0, .int 1, .int 0, .int 0, .int 0]))] := hD
  refine lv_goto (tgt := 263) hx hb dX5_others_22 (by decide) ?_
  have hP9 := hP.sub (ws' := [(m0, .inr (5, [.int 0, .ref mB, .ref mR, .int 0, .ref mO, .int 0, .int 0, .ref mN, .int 0, .int 0, .int 0, .int 0, .int 0, .int 1, .int 0, .int 0, .int 0]))]) [0] rfl
  have hD9 := hD.sub (ws' := [(m0, .inr (5, [.int 0, .ref mB, .ref mR, .int 0, .ref mO, .int 0, .int 0, .ref mN, .int 0, .int 0, .int 0, .int 0, .int 0, .int 1, .int 0, .int 0, .int 0]))]) [0] (by decide) rfl
  have hK9 := hK.sub (tys' := []) [] rfl
  exact W.vret hx hb hr (fun t ht hW => ⟨⟨(), rfl, trivial, by rw [ht]; exact hP9, va_K.moved hW.alike hK9, hD9⟩, hS.F ht⟩) hS.2.2 dX5_others_263
set_option maxHeartbeats 4000000 in
set_option maxRecDepth 100000 in
theorem c_X5_does0 (l : Launch) (dC : Nat → ClassId) (dI : Nat → Nat → Nat) (sz : Nat) (m0 : Nat) (mB : Nat) (mR : Nat) (mO : Nat) (mN : Nat)  : Met l yX5_does wsX5_does ({ frames := 1, cells := 0, slots := 0, locals := 23 }) (va_Pc [.ref m0, .int 0] (q_pre dC dI sz [(m0, .inr (5, [.int 0, .ref mB, .ref mR, .int 0, .ref mO, .int 0, .int 0, .ref mN, .int 0, .int 0, .int 0, .int 0, .int 0, .int 0, .int 0, .int 0, .int 0]))] [])) (va_Qv (fun (u9 : Unit) => True) (q_at dC dI (va_A [(m0, .inr (5, [.int 0, .ref mB, .ref mR, .int 0, .ref mO, .int 0, .int 0, .ref mN, .int 0, .int 0, .int 0, .int 0, .int 0, .int 0, .int 0, .int 0, .int 0]))] sz) (fun (u9 : Unit) => []) (fun (u9 : Unit) => [(m0, .inr (5, [.int 0, .ref mB, .ref mR, .int 0, .ref mO, .int 0, .int 0, .ref mN, .int 0, .int 0, .int 0, .int 0, .int 0, .int 1, .int 0, .int 0, .int 0]))])) (va_A [(m0, .inr (5, [.int 0, .ref mB, .ref mR, .int 0, .ref mO, .int 0, .int 0, .ref mN, .int 0, .int 0, .int 0, .int 0, .int 0, .int 0, .int 0, .int 0, .int 0]))] sz)) 0 0 (va_A [(m0, .inr (5, [.int 0, .ref mB, .ref mR, .int 0, .ref mO, .int 0, .int 0, .ref mN, .int 0, .int 0, .int 0, .int 0, .int 0, .int 0, .int 0, .int 0, .int 0]))] sz) := by
  refine Met.ofW (cc := cX5_does) (maxL := 4) (ret := none) (by decide) rfl ?_
  intro p e s m args below meth c s₁ B hml hv
  obtain ⟨rfl, hsz, hP, hK, hD0, hN⟩ := hv
  have hx := B.exec
  have hb := B.bytes
  have hr := B.returns
  have hts := atoms_spec (ws := wsX5_does) B.pre
  have hown : s.vm.findClass RX5 = some m.cls := findClass_of_methodNamed B.named
  have hlocks := B.notSynchronized
  subst hsz
  have hD := hD0.self (sz := s.heap.size)
  generalize hAe : va_A [(m0, .inr (5, [.int 0, .ref mB, .ref mR, .int 0, .ref mO, .int 0, .int 0, .ref mN, .int 0, .int 0, .int 0, .int 0, .int 0, .int 0, .int 0, .int 0, .int 0]))] s.heap.size = A at hD ⊢
  have hA : ∀ q : Nat, s.heap.size ≤ q → A q := fun q h => by rw [← hAe]; exact Or.inr h
  have hS : va_S A s.heap s.heap [] := va_S.rf
  have hP : va_P (dC, dI) vwCl [(m0, .inr (5, [.int 0, .ref mB, .ref mR, .int 0, .ref mO, .int 0, .int 0, .ref mN, .int 0, .int 0, .int 0, .int 0, .int 0, .int 0, .int 0, .int 0, .int 0]))] s.heap := hP
  have hl := lv_entry ([.ref m0, .int 0]) (n := 4) (Nat.le_of_ble_eq_true rfl)
  rw [lg_entry_eq]
  generalize (lg_sl ([.ref m0, .int 0]) ++ List.replicate (4 - (lg_sl ([.ref m0, .int 0])).length) Slot.unset).toArray = ls at hl ⊢
  have hl : lv_has ls 4 [(0, .ref m0), (1, .int 0)] := hl
  refine lv_iload_n hx hb dX5_does_0 rfl (lv_at hl 1 rfl) ?_
  refine lv_bipush (v := 8) hx hb dX5_does_1 (by decide) ?_
  refine lv_ishr hx hb dX5_does_3 ?_
  refine q_toc (y := 0) (by decide) ?_
  refine lv_istore_n (lv' := [(2, .int 0), (0, .ref m0), (1, .int 0)]) hx hb dX5_does_4 rfl hl (by decide) rfl (fun ls hl => ?_)
  refine lv_iload_n hx hb dX5_does_5 rfl (lv_at hl 2 rfl) ?_
  refine lv_bipush (v := 12) hx hb dX5_does_6 (by decide) ?_
  refine lv_ishr hx hb dX5_does_8 ?_
  refine q_toc (y := 0) (by decide) ?_
  refine lv_bipush (v := 7) hx hb dX5_does_9 (by decide) ?_
  refine lv_iand hx hb dX5_does_11 ?_
  refine q_toc (y := 0) (by decide) ?_
  refine lv_istore_n (lv' := [(3, .int 0), (2, .int 0), (0, .ref m0), (1, .int 0)]) hx hb dX5_does_12 rfl hl (by decide) rfl (fun ls hl => ?_)
  refine lv_aload_n hx hb dX5_does_13 rfl (lv_at hl 2 rfl) ?_
  refine lv_iload_n hx hb dX5_does_14 rfl (lv_at hl 3 rfl) ?_
  refine lv_sipush (v := 32767) hx hb dX5_does_15 (by decide) ?_
  refine lv_icmp_le (tgt := 25) hx hb dX5_does_18 (by decide) (fun c_1 => ?_) (fun c9 => absurd (by decide) c9)
  refine lv_iconst (v := 0) hx hb dX5_does_25 (by decide) ?_
  refine va_put (D := (dC, dI)) (ci := 5) (v := .int 0) (ty := .boolean) (C := RX5) (T := TX5) (N := 17) hx hb hts (by decide +kernel) tyX5 tyX5_ok nmX5 hown hK hP hD hS 0 rfl rfl 14 (by decide) (hts (.fieldLink RX5 59 "WordGuestModel" "isByte" "Z") (by decide +kernel)) (fun _ h9 => h9) rfl (by decide +kernel) (by decide) (by decide) (Nat.le_of_ble_eq_true rfl) dX5_does_26 (fun H locs hP hD hS => ?_)
  have hP : va_P (dC, dI) vwCl [(m0, .inr (5, [.int 0, .ref mB, .ref mR, .int 0, .ref mO, .int 0, .int 0, .ref mN, .int 0, .int 0, .int 0, .int 0, .int 0, .int 0, .int 0, .int 0, .int 0]))] H := hP
  have hD : va_D A [(m0, .inr (5, [.int 0, .ref mB, .ref mR, .int 0, .ref mO, .int 0, .int 0, .ref mN, .int 0, .int 0, .int 0, .int 0, .int 0, .int 0, .int 0, .int 0, .int 0]))] := hD
  refine lv_iload_n hx hb dX5_does_29 rfl (lv_at hl 0 rfl) ?_
  refine lv_if_le (tgt := 48) hx hb dX5_does_30 (by decide) (fun c_2 => ?_) (fun c9 => absurd (by decide) c9)
  refine lv_iload_n hx hb dX5_does_48 rfl (lv_at hl 0 rfl) ?_
  refine lv_bipush (v := 6) hx hb dX5_does_49 (by decide) ?_
  refine lv_icmp_ne (tgt := 79) hx hb dX5_does_51 (by decide) (fun c_3 => ?_) (fun c9 => absurd c9 (by decide))
  refine lv_iload_n hx hb dX5_does_79 rfl (lv_at hl 1 rfl) ?_
  refine lv_if_le (tgt := 89) hx hb dX5_does_80 (by decide) (fun c_4 => ?_) (fun c9 => absurd (by decide) c9)
  refine lv_iload_n hx hb dX5_does_89 rfl (lv_at hl 1 rfl) ?_
  refine lv_bipush (v := 127) hx hb dX5_does_90 (by decide) ?_
  refine lv_icmp_le (tgt := 128) hx hb dX5_does_92 (by decide) (fun c_5 => ?_) (fun c9 => absurd (by decide) c9)
  refine lv_iload_n hx hb dX5_does_128 rfl (lv_at hl 3 rfl) ?_
  refine lv_bipush (v := 6) hx hb dX5_does_129 (by decide) ?_
  refine lv_ishr hx hb dX5_does_131 ?_
  refine q_toc (y := 0) (by decide) ?_
  refine lv_sipush (v := 511) hx hb dX5_does_132 (by decide) ?_
  refine lv_iand hx hb dX5_does_135 ?_
  refine q_toc (y := 0) (by decide) ?_
  refine lv_bipush (v := 40) hx hb dX5_does_136 (by decide) ?_
  refine lv_icmp_lt (tgt := 173) hx hb dX5_does_138 (by decide) (fun c_6 => ?_) (fun c9 => absurd (by decide) c9)
  refine lv_aload_n hx hb dX5_does_173 rfl (lv_at hl 2 rfl) ?_
  refine va_get (D := (dC, dI)) (ci := 5) (v := .int 0) (C := RX5) (T := TX5) (N := 17) hx hb hts (by decide +kernel) hown hK hP 0 rfl rfl 14 (by decide) (hts (.fieldLink RX5 59 "WordGuestModel" "isByte" "Z") (by decide +kernel)) (fun _ h9 => h9) rfl dX5_does_174 ?_
  refine lv_if_eq (tgt := 188) hx hb dX5_does_177 (by decide) (fun c_7 => ?_) (fun c9 => absurd (by decide) c9)
  refine lv_aload_n hx hb dX5_does_188 rfl (lv_at hl 2 rfl) ?_
  refine lv_iload_n hx hb dX5_does_189 rfl (lv_at hl 3 rfl) ?_
  have hPc := hP.sub (ws' := [(m0, .inr (5, [.int 0, .ref mB, .ref mR, .int 0, .ref mO, .int 0, .int 0, .ref mN, .int 0, .int 0, .int 0, .int 0, .int 0, .int 0, .int 0, .int 0, .int 0]))]) [0] rfl
  have hDc := hD.sub (ws' := [(m0, .inr (5, [.int 0, .ref mB, .ref mR, .int 0, .ref mO, .int 0, .int 0, .ref mN, .int 0, .int 0, .int 0, .int 0, .int 0, .int 0, .int 0, .int 0, .int 0]))]) [0] (by decide) rfl
  have hKc := hK.sub (tys' := []) [] rfl
  have hFc := va_free (wc := [(m0, .inr (5, [.int 0, .ref mB, .ref mR, .int 0, .ref mO, .int 0, .int 0, .ref mN, .int 0, .int 0, .int 0, .int 0, .int 0, .int 0, .int 0, .int 0, .int 0]))]) hD hS hA [0] rfl
  refine va_callv (va_runV (C := RX5) (b := m0) (As := [.int 0]) (rest := []) ⟨hx, hb, hml, hown, hts⟩ (c_X5_others0 l dC dI H.size m0 mB mR mO mN) (cwV 1 hts gX5_does_X5_others rfl rfl rfl (by decide +kernel) ⟨Nat.le_of_ble_eq_true rfl, Nat.le_of_ble_eq_true rfl⟩) ⟨q_blind, va_recv hK hP (ci := 5) (q0 := 0) rfl rfl, fun U hU hW => ⟨rfl, q_pay hU hW hPc hKc hDc hN⟩⟩ rfl rfl hl.1 rfl (lv_room (Nat.le_of_ble_eq_true rfl)) dX5_does_190 ⟨show 0 + 0 ≤ 0 from by omega, show 0 + 0 ≤ 0 from by omega⟩) hS (fun q _ h => hFc q h) hFc (fun u9 t H locs ht hvm hw_9 hB hz1 hk1 hS => ?_)
  obtain ⟨hP1, hK1, hD1⟩ := hB
  rw [ht] at hP1
  obtain ⟨hP, hD⟩ := va_join (wr := []) (w1 := [(m0, .inr (5, [.int 0, .ref mB, .ref mR, .int 0, .ref mO, .int 0, .int 0, .ref mN, .int 0, .int 0, .int 0, .int 0, .int 0, .int 1, .int 0, .int 0, .int 0]))]) hP hD [0] [] rfl rfl (by decide) (by decide) hk1 hFc hP1 hD1
  have hP : va_P (dC, dI) vwCl [(m0, .inr (5, [.int 0, .ref mB, .ref mR, .int 0, .ref mO, .int 0, .int 0, .ref mN, .int 0, .int 0, .int 0, .int 0, .int 0, .int 1, .int 0, .int 0, .int 0]))] H := hP
  have hD : va_D A [(m0, .inr (5, [.int 0, .ref mB, .ref mR, .int 0, .ref mO, .int 0, .int 0, .ref mN, .int 0, .int 0, .int 0, .int 0, .int 0, .int 1, .int 0, .int 0, .int 0]))] := hD
  refine W.widen (k := 0) (n := 0) (by omega) (by omega) ?_
  try dsimp only at hw_9
  have hP9 := hP.sub (ws' := [(m0, .inr (5, [.int 0, .ref mB, .ref mR, .int 0, .ref mO, .int 0, .int 0, .ref mN, .int 0, .int 0, .int 0, .int 0, .int 0, .int 1, .int 0, .int 0, .int 0]))]) [0] rfl
  have hD9 := hD.sub (ws' := [(m0, .inr (5, [.int 0, .ref mB, .ref mR, .int 0, .ref mO, .int 0, .int 0, .ref mN, .int 0, .int 0, .int 0, .int 0, .int 0, .int 1, .int 0, .int 0, .int 0]))]) [0] (by decide) rfl
  have hK9 := hK.sub (tys' := []) [] rfl
  exact W.vret hx hb hr (fun t ht hW => ⟨⟨(), rfl, trivial, by rw [ht]; exact hP9, va_K.moved hW.alike hK9, hD9⟩, hS.F ht⟩) hS.2.2 dX5_does_193
set_option maxHeartbeats 4000000 in
set_option maxRecDepth 100000 in
theorem c_X5_step0 (l : Launch) (dC : Nat → ClassId) (dI : Nat → Nat → Nat) (sz : Nat) (m0 : Nat) (mB : Nat) (mR : Nat) (mO : Nat) (mN : Nat) (cY : ClassId) (cG : ClassId) (cN : ClassId)  : Met l yX5_step wsX5_step ({ frames := 3, cells := 0, slots := 0, locals := 64 }) (va_Pc [.ref m0] (q_pre dC dI sz [(m0, .inr (5, [.int 0, .ref mB, .ref mR, .int 0, .ref mO, .int 0, .int 0, .ref mN, .int 0, .int 0, .int 0, .int 0, .int 0, .int 0, .int 0, .int 0, .int 0])), (mB, .inl (cY, 4096, .inl (fun _ => 0))), (mR, .inl (cG, 8, .inl (fun _ => 0))), (mN, .inl (cN, 8, .inl (fun _ => 0)))] [(cY, .int), (cG, .int), (cN, .int)])) (va_Qv (fun (u9 : (Nat → Int32) × (Nat → Int32)) => True) (q_at dC dI (va_A [(m0, .inr (5, [.int 0, .ref mB, .ref mR, .int 0, .ref mO, .int 0, .int 0, .ref mN, .int 0, .int 0, .int 0, .int 0, .int 0, .int 0, .int 0, .int 0, .int 0])), (mB, .inl (cY, 4096, .inl (fun _ => 0))), (mR, .inl (cG, 8, .inl (fun _ => 0))), (mN, .inl (cN, 8, .inl (fun _ => 0)))] sz) (fun (u9 : (Nat → Int32) × (Nat → Int32)) => [(cY, .int), (cG, .int), (cN, .int)]) (fun (u9 : (Nat → Int32) × (Nat → Int32)) => [(m0, .inr (5, [.int 0, .ref mB, .ref mR, .int 0, .ref mO, .int 0, .int 1, .ref mN, .int 0, .int 0, .int 0, .int 0, .int 0, .int 1, .int 0, .int 0, .int 0])), (mB, .inl (cY, 4096, .inl (fun _ => 0))), (mR, .inl (cG, 8, .inl u9.1)), (mN, .inl (cN, 8, .inl u9.2))])) (va_A [(m0, .inr (5, [.int 0, .ref mB, .ref mR, .int 0, .ref mO, .int 0, .int 0, .ref mN, .int 0, .int 0, .int 0, .int 0, .int 0, .int 0, .int 0, .int 0, .int 0])), (mB, .inl (cY, 4096, .inl (fun _ => 0))), (mR, .inl (cG, 8, .inl (fun _ => 0))), (mN, .inl (cN, 8, .inl (fun _ => 0)))] sz)) 0 0 (va_A [(m0, .inr (5, [.int 0, .ref mB, .ref mR, .int 0, .ref mO, .int 0, .int 0, .ref mN, .int 0, .int 0, .int 0, .int 0, .int 0, .int 0, .int 0, .int 0, .int 0])), (mB, .inl (cY, 4096, .inl (fun _ => 0))), (mR, .inl (cG, 8, .inl (fun _ => 0))), (mN, .inl (cN, 8, .inl (fun _ => 0)))] sz) := by
  refine Met.ofW (cc := cX5_step) (maxL := 3) (ret := none) (by decide) rfl ?_
  intro p e s m args below meth c s₁ B hml hv
  obtain ⟨rfl, hsz, hP, hK, hD0, hN⟩ := hv
  have hx := B.exec
  have hb := B.bytes
  have hr := B.returns
  have hts := atoms_spec (ws := wsX5_step) B.pre
  have hown : s.vm.findClass RX5 = some m.cls := findClass_of_methodNamed B.named
  have hlocks := B.notSynchronized
  subst hsz
  have hD := hD0.self (sz := s.heap.size)
  generalize hAe : va_A [(m0, .inr (5, [.int 0, .ref mB, .ref mR, .int 0, .ref mO, .int 0, .int 0, .ref mN, .int 0, .int 0, .int 0, .int 0, .int 0, .int 0, .int 0, .int 0, .int 0])), (mB, .inl (cY, 4096, .inl (fun _ => 0))), (mR, .inl (cG, 8, .inl (fun _ => 0))), (mN, .inl (cN, 8, .inl (fun _ => 0)))] s.heap.size = A at hD ⊢
  have hA : ∀ q : Nat, s.heap.size ≤ q → A q := fun q h => by rw [← hAe]; exact Or.inr h
  have hS : va_S A s.heap s.heap [] := va_S.rf
  have hP : va_P (dC, dI) vwCl [(m0, .inr (5, [.int 0, .ref mB, .ref mR, .int 0, .ref mO, .int 0, .int 0, .ref mN, .int 0, .int 0, .int 0, .int 0, .int 0, .int 0, .int 0, .int 0, .int 0])), (mB, .inl (cY, 4096, .inl (fun _ => 0))), (mR, .inl (cG, 8, .inl (fun _ => 0))), (mN, .inl (cN, 8, .inl (fun _ => 0)))] s.heap := hP
  have hl := lv_entry ([.ref m0]) (n := 3) (Nat.le_of_ble_eq_true rfl)
  rw [lg_entry_eq]
  generalize (lg_sl ([.ref m0]) ++ List.replicate (3 - (lg_sl ([.ref m0])).length) Slot.unset).toArray = ls at hl ⊢
  have hl : lv_has ls 3 [(0, .ref m0)] := hl
  refine lv_iconst (v := 0) hx hb dX5_step_0 (by decide) ?_
  refine lv_istore_n (lv' := [(1, .int 0), (0, .ref m0)]) hx hb dX5_step_1 rfl hl (by decide) rfl (fun ls hl => ?_)
  refine lv_iload_n hx hb dX5_step_2 rfl (lv_at hl 0 rfl) ?_
  refine lv_bipush (v := 8) hx hb dX5_step_3 (by decide) ?_
  refine lv_icmp_ge (tgt := 26) hx hb dX5_step_5 (by decide) (fun c9 => absurd c9 (by decide)) (fun c_1 => ?_)
  refine lv_aload_n hx hb dX5_step_8 rfl (lv_at hl 1 rfl) ?_
  refine va_get (D := (dC, dI)) (ci := 5) (v := .ref mN) (C := RX5) (T := TX5) (N := 17) hx hb hts (by decide +kernel) hown hK hP 0 rfl rfl 7 (by decide) (hts (.fieldLink RX5 19 "WordGuestModel" "now" "[I") (by decide +kernel)) (fun _ h9 => h9) rfl dX5_step_9 ?_
  refine lv_iload_n hx hb dX5_step_12 rfl (lv_at hl 0 rfl) ?_
  refine lv_aload_n hx hb dX5_step_13 rfl (lv_at hl 1 rfl) ?_
  refine va_get (D := (dC, dI)) (ci := 5) (v := .ref mR) (C := RX5) (T := TX5) (N := 17) hx hb hts (by decide +kernel) hown hK hP 0 rfl rfl 2 (by decide) (hts (.fieldLink RX5 13 "WordGuestModel" "registers" "[I") (by decide +kernel)) (fun _ h9 => h9) rfl dX5_step_14 ?_
  refine lv_iload_n hx hb dX5_step_17 rfl (lv_at hl 0 rfl) ?_
  refine va_iald hx hb hK hP 2 1 rfl rfl (by unfold vp_in; decide) dX5_step_18 ?_
  refine q_toc (y := 0) rfl ?_
  refine va_iast hx hb hK hP hD hS 3 2 rfl rfl (by unfold vp_in; decide) dX5_step_19 (fun H locs hP hD hS => ?_)
  have hP : va_P (dC, dI) vwCl [(m0, .inr (5, [.int 0, .ref mB, .ref mR, .int 0, .ref mO, .int 0, .int 0, .ref mN, .int 0, .int 0, .int 0, .int 0, .int 0, .int 0, .int 0, .int 0, .int 0])), (mB, .inl (cY, 4096, .inl (fun _ => 0))), (mR, .inl (cG, 8, .inl (fun _ => 0))), (mN, .inl (cN, 8, .inl (upd (fun _ => 0) (0 : Int32).toNatClampNeg 0)))] H := hP
  have hD : va_D A [(m0, .inr (5, [.int 0, .ref mB, .ref mR, .int 0, .ref mO, .int 0, .int 0, .ref mN, .int 0, .int 0, .int 0, .int 0, .int 0, .int 0, .int 0, .int 0, .int 0])), (mB, .inl (cY, 4096, .inl (fun _ => 0))), (mR, .inl (cG, 8, .inl (fun _ => 0))), (mN, .inl (cN, 8, .inl (upd (fun _ => 0) (0 : Int32).toNatClampNeg 0)))] := hD
  rw [q_u0] at hP hD
  refine lv_iinc (v := 1) (lv' := [(1, .int 1), (0, .ref m0)]) hx hb dX5_step_20 hl (k := 0) rfl (by decide) (by decide) rfl (fun ls hl => ?_)
  refine lv_goto (tgt := 2) hx hb dX5_step_23 (by decide) ?_
  refine lv_iload_n hx hb dX5_step_2 rfl (lv_at hl 0 rfl) ?_
  refine lv_bipush (v := 8) hx hb dX5_step_3 (by decide) ?_
  refine lv_icmp_ge (tgt := 26) hx hb dX5_step_5 (by decide) (fun c9 => absurd c9 (by decide)) (fun c_2 => ?_)
  refine lv_aload_n hx hb dX5_step_8 rfl (lv_at hl 1 rfl) ?_
  refine va_get (D := (dC, dI)) (ci := 5) (v := .ref mN) (C := RX5) (T := TX5) (N := 17) hx hb hts (by decide +kernel) hown hK hP 0 rfl rfl 7 (by decide) (hts (.fieldLink RX5 19 "WordGuestModel" "now" "[I") (by decide +kernel)) (fun _ h9 => h9) rfl dX5_step_9 ?_
  refine lv_iload_n hx hb dX5_step_12 rfl (lv_at hl 0 rfl) ?_
  refine lv_aload_n hx hb dX5_step_13 rfl (lv_at hl 1 rfl) ?_
  refine va_get (D := (dC, dI)) (ci := 5) (v := .ref mR) (C := RX5) (T := TX5) (N := 17) hx hb hts (by decide +kernel) hown hK hP 0 rfl rfl 2 (by decide) (hts (.fieldLink RX5 13 "WordGuestModel" "registers" "[I") (by decide +kernel)) (fun _ h9 => h9) rfl dX5_step_14 ?_
  refine lv_iload_n hx hb dX5_step_17 rfl (lv_at hl 0 rfl) ?_
  refine va_iald hx hb hK hP 2 1 rfl rfl (by unfold vp_in; decide) dX5_step_18 ?_
  refine q_toc (y := 0) rfl ?_
  refine va_iast hx hb hK hP hD hS 3 2 rfl rfl (by unfold vp_in; decide) dX5_step_19 (fun H locs hP hD hS => ?_)
  have hP : va_P (dC, dI) vwCl [(m0, .inr (5, [.int 0, .ref mB, .ref mR, .int 0, .ref mO, .int 0, .int 0, .ref mN, .int 0, .int 0, .int 0, .int 0, .int 0, .int 0, .int 0, .int 0, .int 0])), (mB, .inl (cY, 4096, .inl (fun _ => 0))), (mR, .inl (cG, 8, .inl (fun _ => 0))), (mN, .inl (cN, 8, .inl (upd (fun _ => 0) (1 : Int32).toNatClampNeg 0)))] H := hP
  have hD : va_D A [(m0, .inr (5, [.int 0, .ref mB, .ref mR, .int 0, .ref mO, .int 0, .int 0, .ref mN, .int 0, .int 0, .int 0, .int 0, .int 0, .int 0, .int 0, .int 0, .int 0])), (mB, .inl (cY, 4096, .inl (fun _ => 0))), (mR, .inl (cG, 8, .inl (fun _ => 0))), (mN, .inl (cN, 8, .inl (upd (fun _ => 0) (1 : Int32).toNatClampNeg 0)))] := hD
  rw [q_u0] at hP hD
  refine lv_iinc (v := 2) (lv' := [(1, .int 2), (0, .ref m0)]) hx hb dX5_step_20 hl (k := 0) rfl (by decide) (by decide) rfl (fun ls hl => ?_)
  refine lv_goto (tgt := 2) hx hb dX5_step_23 (by decide) ?_
  refine lv_iload_n hx hb dX5_step_2 rfl (lv_at hl 0 rfl) ?_
  refine lv_bipush (v := 8) hx hb dX5_step_3 (by decide) ?_
  refine lv_icmp_ge (tgt := 26) hx hb dX5_step_5 (by decide) (fun c9 => absurd c9 (by decide)) (fun c_3 => ?_)
  refine lv_aload_n hx hb dX5_step_8 rfl (lv_at hl 1 rfl) ?_
  refine va_get (D := (dC, dI)) (ci := 5) (v := .ref mN) (C := RX5) (T := TX5) (N := 17) hx hb hts (by decide +kernel) hown hK hP 0 rfl rfl 7 (by decide) (hts (.fieldLink RX5 19 "WordGuestModel" "now" "[I") (by decide +kernel)) (fun _ h9 => h9) rfl dX5_step_9 ?_
  refine lv_iload_n hx hb dX5_step_12 rfl (lv_at hl 0 rfl) ?_
  refine lv_aload_n hx hb dX5_step_13 rfl (lv_at hl 1 rfl) ?_
  refine va_get (D := (dC, dI)) (ci := 5) (v := .ref mR) (C := RX5) (T := TX5) (N := 17) hx hb hts (by decide +kernel) hown hK hP 0 rfl rfl 2 (by decide) (hts (.fieldLink RX5 13 "WordGuestModel" "registers" "[I") (by decide +kernel)) (fun _ h9 => h9) rfl dX5_step_14 ?_
  refine lv_iload_n hx hb dX5_step_17 rfl (lv_at hl 0 rfl) ?_
  refine va_iald hx hb hK hP 2 1 rfl rfl (by unfold vp_in; decide) dX5_step_18 ?_
  refine q_toc (y := 0) rfl ?_
  refine va_iast hx hb hK hP hD hS 3 2 rfl rfl (by unfold vp_in; decide) dX5_step_19 (fun H locs hP hD hS => ?_)
  have hP : va_P (dC, dI) vwCl [(m0, .inr (5, [.int 0, .ref mB, .ref mR, .int 0, .ref mO, .int 0, .int 0, .ref mN, .int 0, .int 0, .int 0, .int 0, .int 0, .int 0, .int 0, .int 0, .int 0])), (mB, .inl (cY, 4096, .inl (fun _ => 0))), (mR, .inl (cG, 8, .inl (fun _ => 0))), (mN, .inl (cN, 8, .inl (upd (fun _ => 0) (2 : Int32).toNatClampNeg 0)))] H := hP
  have hD : va_D A [(m0, .inr (5, [.int 0, .ref mB, .ref mR, .int 0, .ref mO, .int 0, .int 0, .ref mN, .int 0, .int 0, .int 0, .int 0, .int 0, .int 0, .int 0, .int 0, .int 0])), (mB, .inl (cY, 4096, .inl (fun _ => 0))), (mR, .inl (cG, 8, .inl (fun _ => 0))), (mN, .inl (cN, 8, .inl (upd (fun _ => 0) (2 : Int32).toNatClampNeg 0)))] := hD
  rw [q_u0] at hP hD
  refine lv_iinc (v := 3) (lv' := [(1, .int 3), (0, .ref m0)]) hx hb dX5_step_20 hl (k := 0) rfl (by decide) (by decide) rfl (fun ls hl => ?_)
  refine lv_goto (tgt := 2) hx hb dX5_step_23 (by decide) ?_
  refine lv_iload_n hx hb dX5_step_2 rfl (lv_at hl 0 rfl) ?_
  refine lv_bipush (v := 8) hx hb dX5_step_3 (by decide) ?_
  refine lv_icmp_ge (tgt := 26) hx hb dX5_step_5 (by decide) (fun c9 => absurd c9 (by decide)) (fun c_4 => ?_)
  refine lv_aload_n hx hb dX5_step_8 rfl (lv_at hl 1 rfl) ?_
  refine va_get (D := (dC, dI)) (ci := 5) (v := .ref mN) (C := RX5) (T := TX5) (N := 17) hx hb hts (by decide +kernel) hown hK hP 0 rfl rfl 7 (by decide) (hts (.fieldLink RX5 19 "WordGuestModel" "now" "[I") (by decide +kernel)) (fun _ h9 => h9) rfl dX5_step_9 ?_
  refine lv_iload_n hx hb dX5_step_12 rfl (lv_at hl 0 rfl) ?_
  refine lv_aload_n hx hb dX5_step_13 rfl (lv_at hl 1 rfl) ?_
  refine va_get (D := (dC, dI)) (ci := 5) (v := .ref mR) (C := RX5) (T := TX5) (N := 17) hx hb hts (by decide +kernel) hown hK hP 0 rfl rfl 2 (by decide) (hts (.fieldLink RX5 13 "WordGuestModel" "registers" "[I") (by decide +kernel)) (fun _ h9 => h9) rfl dX5_step_14 ?_
  refine lv_iload_n hx hb dX5_step_17 rfl (lv_at hl 0 rfl) ?_
  refine va_iald hx hb hK hP 2 1 rfl rfl (by unfold vp_in; decide) dX5_step_18 ?_
  refine q_toc (y := 0) rfl ?_
  refine va_iast hx hb hK hP hD hS 3 2 rfl rfl (by unfold vp_in; decide) dX5_step_19 (fun H locs hP hD hS => ?_)
  have hP : va_P (dC, dI) vwCl [(m0, .inr (5, [.int 0, .ref mB, .ref mR, .int 0, .ref mO, .int 0, .int 0, .ref mN, .int 0, .int 0, .int 0, .int 0, .int 0, .int 0, .int 0, .int 0, .int 0])), (mB, .inl (cY, 4096, .inl (fun _ => 0))), (mR, .inl (cG, 8, .inl (fun _ => 0))), (mN, .inl (cN, 8, .inl (upd (fun _ => 0) (3 : Int32).toNatClampNeg 0)))] H := hP
  have hD : va_D A [(m0, .inr (5, [.int 0, .ref mB, .ref mR, .int 0, .ref mO, .int 0, .int 0, .ref mN, .int 0, .int 0, .int 0, .int 0, .int 0, .int 0, .int 0, .int 0, .int 0])), (mB, .inl (cY, 4096, .inl (fun _ => 0))), (mR, .inl (cG, 8, .inl (fun _ => 0))), (mN, .inl (cN, 8, .inl (upd (fun _ => 0) (3 : Int32).toNatClampNeg 0)))] := hD
  rw [q_u0] at hP hD
  refine lv_iinc (v := 4) (lv' := [(1, .int 4), (0, .ref m0)]) hx hb dX5_step_20 hl (k := 0) rfl (by decide) (by decide) rfl (fun ls hl => ?_)
  refine lv_goto (tgt := 2) hx hb dX5_step_23 (by decide) ?_
  refine lv_iload_n hx hb dX5_step_2 rfl (lv_at hl 0 rfl) ?_
  refine lv_bipush (v := 8) hx hb dX5_step_3 (by decide) ?_
  refine lv_icmp_ge (tgt := 26) hx hb dX5_step_5 (by decide) (fun c9 => absurd c9 (by decide)) (fun c_5 => ?_)
  refine lv_aload_n hx hb dX5_step_8 rfl (lv_at hl 1 rfl) ?_
  refine va_get (D := (dC, dI)) (ci := 5) (v := .ref mN) (C := RX5) (T := TX5) (N := 17) hx hb hts (by decide +kernel) hown hK hP 0 rfl rfl 7 (by decide) (hts (.fieldLink RX5 19 "WordGuestModel" "now" "[I") (by decide +kernel)) (fun _ h9 => h9) rfl dX5_step_9 ?_
  refine lv_iload_n hx hb dX5_step_12 rfl (lv_at hl 0 rfl) ?_
  refine lv_aload_n hx hb dX5_step_13 rfl (lv_at hl 1 rfl) ?_
  refine va_get (D := (dC, dI)) (ci := 5) (v := .ref mR) (C := RX5) (T := TX5) (N := 17) hx hb hts (by decide +kernel) hown hK hP 0 rfl rfl 2 (by decide) (hts (.fieldLink RX5 13 "WordGuestModel" "registers" "[I") (by decide +kernel)) (fun _ h9 => h9) rfl dX5_step_14 ?_
  refine lv_iload_n hx hb dX5_step_17 rfl (lv_at hl 0 rfl) ?_
  refine va_iald hx hb hK hP 2 1 rfl rfl (by unfold vp_in; decide) dX5_step_18 ?_
  refine q_toc (y := 0) rfl ?_
  refine va_iast hx hb hK hP hD hS 3 2 rfl rfl (by unfold vp_in; decide) dX5_step_19 (fun H locs hP hD hS => ?_)
  have hP : va_P (dC, dI) vwCl [(m0, .inr (5, [.int 0, .ref mB, .ref mR, .int 0, .ref mO, .int 0, .int 0, .ref mN, .int 0, .int 0, .int 0, .int 0, .int 0, .int 0, .int 0, .int 0, .int 0])), (mB, .inl (cY, 4096, .inl (fun _ => 0))), (mR, .inl (cG, 8, .inl (fun _ => 0))), (mN, .inl (cN, 8, .inl (upd (fun _ => 0) (4 : Int32).toNatClampNeg 0)))] H := hP
  have hD : va_D A [(m0, .inr (5, [.int 0, .ref mB, .ref mR, .int 0, .ref mO, .int 0, .int 0, .ref mN, .int 0, .int 0, .int 0, .int 0, .int 0, .int 0, .int 0, .int 0, .int 0])), (mB, .inl (cY, 4096, .inl (fun _ => 0))), (mR, .inl (cG, 8, .inl (fun _ => 0))), (mN, .inl (cN, 8, .inl (upd (fun _ => 0) (4 : Int32).toNatClampNeg 0)))] := hD
  rw [q_u0] at hP hD
  refine lv_iinc (v := 5) (lv' := [(1, .int 5), (0, .ref m0)]) hx hb dX5_step_20 hl (k := 0) rfl (by decide) (by decide) rfl (fun ls hl => ?_)
  refine lv_goto (tgt := 2) hx hb dX5_step_23 (by decide) ?_
  refine lv_iload_n hx hb dX5_step_2 rfl (lv_at hl 0 rfl) ?_
  refine lv_bipush (v := 8) hx hb dX5_step_3 (by decide) ?_
  refine lv_icmp_ge (tgt := 26) hx hb dX5_step_5 (by decide) (fun c9 => absurd c9 (by decide)) (fun c_6 => ?_)
  refine lv_aload_n hx hb dX5_step_8 rfl (lv_at hl 1 rfl) ?_
  refine va_get (D := (dC, dI)) (ci := 5) (v := .ref mN) (C := RX5) (T := TX5) (N := 17) hx hb hts (by decide +kernel) hown hK hP 0 rfl rfl 7 (by decide) (hts (.fieldLink RX5 19 "WordGuestModel" "now" "[I") (by decide +kernel)) (fun _ h9 => h9) rfl dX5_step_9 ?_
  refine lv_iload_n hx hb dX5_step_12 rfl (lv_at hl 0 rfl) ?_
  refine lv_aload_n hx hb dX5_step_13 rfl (lv_at hl 1 rfl) ?_
  refine va_get (D := (dC, dI)) (ci := 5) (v := .ref mR) (C := RX5) (T := TX5) (N := 17) hx hb hts (by decide +kernel) hown hK hP 0 rfl rfl 2 (by decide) (hts (.fieldLink RX5 13 "WordGuestModel" "registers" "[I") (by decide +kernel)) (fun _ h9 => h9) rfl dX5_step_14 ?_
  refine lv_iload_n hx hb dX5_step_17 rfl (lv_at hl 0 rfl) ?_
  refine va_iald hx hb hK hP 2 1 rfl rfl (by unfold vp_in; decide) dX5_step_18 ?_
  refine q_toc (y := 0) rfl ?_
  refine va_iast hx hb hK hP hD hS 3 2 rfl rfl (by unfold vp_in; decide) dX5_step_19 (fun H locs hP hD hS => ?_)
  have hP : va_P (dC, dI) vwCl [(m0, .inr (5, [.int 0, .ref mB, .ref mR, .int 0, .ref mO, .int 0, .int 0, .ref mN, .int 0, .int 0, .int 0, .int 0, .int 0, .int 0, .int 0, .int 0, .int 0])), (mB, .inl (cY, 4096, .inl (fun _ => 0))), (mR, .inl (cG, 8, .inl (fun _ => 0))), (mN, .inl (cN, 8, .inl (upd (fun _ => 0) (5 : Int32).toNatClampNeg 0)))] H := hP
  have hD : va_D A [(m0, .inr (5, [.int 0, .ref mB, .ref mR, .int 0, .ref mO, .int 0, .int 0, .ref mN, .int 0, .int 0, .int 0, .int 0, .int 0, .int 0, .int 0, .int 0, .int 0])), (mB, .inl (cY, 4096, .inl (fun _ => 0))), (mR, .inl (cG, 8, .inl (fun _ => 0))), (mN, .inl (cN, 8, .inl (upd (fun _ => 0) (5 : Int32).toNatClampNeg 0)))] := hD
  rw [q_u0] at hP hD
  refine lv_iinc (v := 6) (lv' := [(1, .int 6), (0, .ref m0)]) hx hb dX5_step_20 hl (k := 0) rfl (by decide) (by decide) rfl (fun ls hl => ?_)
  refine lv_goto (tgt := 2) hx hb dX5_step_23 (by decide) ?_
  refine lv_iload_n hx hb dX5_step_2 rfl (lv_at hl 0 rfl) ?_
  refine lv_bipush (v := 8) hx hb dX5_step_3 (by decide) ?_
  refine lv_icmp_ge (tgt := 26) hx hb dX5_step_5 (by decide) (fun c9 => absurd c9 (by decide)) (fun c_7 => ?_)
  refine lv_aload_n hx hb dX5_step_8 rfl (lv_at hl 1 rfl) ?_
  refine va_get (D := (dC, dI)) (ci := 5) (v := .ref mN) (C := RX5) (T := TX5) (N := 17) hx hb hts (by decide +kernel) hown hK hP 0 rfl rfl 7 (by decide) (hts (.fieldLink RX5 19 "WordGuestModel" "now" "[I") (by decide +kernel)) (fun _ h9 => h9) rfl dX5_step_9 ?_
  refine lv_iload_n hx hb dX5_step_12 rfl (lv_at hl 0 rfl) ?_
  refine lv_aload_n hx hb dX5_step_13 rfl (lv_at hl 1 rfl) ?_
  refine va_get (D := (dC, dI)) (ci := 5) (v := .ref mR) (C := RX5) (T := TX5) (N := 17) hx hb hts (by decide +kernel) hown hK hP 0 rfl rfl 2 (by decide) (hts (.fieldLink RX5 13 "WordGuestModel" "registers" "[I") (by decide +kernel)) (fun _ h9 => h9) rfl dX5_step_14 ?_
  refine lv_iload_n hx hb dX5_step_17 rfl (lv_at hl 0 rfl) ?_
  refine va_iald hx hb hK hP 2 1 rfl rfl (by unfold vp_in; decide) dX5_step_18 ?_
  refine q_toc (y := 0) rfl ?_
  refine va_iast hx hb hK hP hD hS 3 2 rfl rfl (by unfold vp_in; decide) dX5_step_19 (fun H locs hP hD hS => ?_)
  have hP : va_P (dC, dI) vwCl [(m0, .inr (5, [.int 0, .ref mB, .ref mR, .int 0, .ref mO, .int 0, .int 0, .ref mN, .int 0, .int 0, .int 0, .int 0, .int 0, .int 0, .int 0, .int 0, .int 0])), (mB, .inl (cY, 4096, .inl (fun _ => 0))), (mR, .inl (cG, 8, .inl (fun _ => 0))), (mN, .inl (cN, 8, .inl (upd (fun _ => 0) (6 : Int32).toNatClampNeg 0)))] H := hP
  have hD : va_D A [(m0, .inr (5, [.int 0, .ref mB, .ref mR, .int 0, .ref mO, .int 0, .int 0, .ref mN, .int 0, .int 0, .int 0, .int 0, .int 0, .int 0, .int 0, .int 0, .int 0])), (mB, .inl (cY, 4096, .inl (fun _ => 0))), (mR, .inl (cG, 8, .inl (fun _ => 0))), (mN, .inl (cN, 8, .inl (upd (fun _ => 0) (6 : Int32).toNatClampNeg 0)))] := hD
  rw [q_u0] at hP hD
  refine lv_iinc (v := 7) (lv' := [(1, .int 7), (0, .ref m0)]) hx hb dX5_step_20 hl (k := 0) rfl (by decide) (by decide) rfl (fun ls hl => ?_)
  refine lv_goto (tgt := 2) hx hb dX5_step_23 (by decide) ?_
  refine lv_iload_n hx hb dX5_step_2 rfl (lv_at hl 0 rfl) ?_
  refine lv_bipush (v := 8) hx hb dX5_step_3 (by decide) ?_
  refine lv_icmp_ge (tgt := 26) hx hb dX5_step_5 (by decide) (fun c9 => absurd c9 (by decide)) (fun c_8 => ?_)
  refine lv_aload_n hx hb dX5_step_8 rfl (lv_at hl 1 rfl) ?_
  refine va_get (D := (dC, dI)) (ci := 5) (v := .ref mN) (C := RX5) (T := TX5) (N := 17) hx hb hts (by decide +kernel) hown hK hP 0 rfl rfl 7 (by decide) (hts (.fieldLink RX5 19 "WordGuestModel" "now" "[I") (by decide +kernel)) (fun _ h9 => h9) rfl dX5_step_9 ?_
  refine lv_iload_n hx hb dX5_step_12 rfl (lv_at hl 0 rfl) ?_
  refine lv_aload_n hx hb dX5_step_13 rfl (lv_at hl 1 rfl) ?_
  refine va_get (D := (dC, dI)) (ci := 5) (v := .ref mR) (C := RX5) (T := TX5) (N := 17) hx hb hts (by decide +kernel) hown hK hP 0 rfl rfl 2 (by decide) (hts (.fieldLink RX5 13 "WordGuestModel" "registers" "[I") (by decide +kernel)) (fun _ h9 => h9) rfl dX5_step_14 ?_
  refine lv_iload_n hx hb dX5_step_17 rfl (lv_at hl 0 rfl) ?_
  refine va_iald hx hb hK hP 2 1 rfl rfl (by unfold vp_in; decide) dX5_step_18 ?_
  refine q_toc (y := 0) rfl ?_
  refine va_iast hx hb hK hP hD hS 3 2 rfl rfl (by unfold vp_in; decide) dX5_step_19 (fun H locs hP hD hS => ?_)
  have hP : va_P (dC, dI) vwCl [(m0, .inr (5, [.int 0, .ref mB, .ref mR, .int 0, .ref mO, .int 0, .int 0, .ref mN, .int 0, .int 0, .int 0, .int 0, .int 0, .int 0, .int 0, .int 0, .int 0])), (mB, .inl (cY, 4096, .inl (fun _ => 0))), (mR, .inl (cG, 8, .inl (fun _ => 0))), (mN, .inl (cN, 8, .inl (upd (fun _ => 0) (7 : Int32).toNatClampNeg 0)))] H := hP
  have hD : va_D A [(m0, .inr (5, [.int 0, .ref mB, .ref mR, .int 0, .ref mO, .int 0, .int 0, .ref mN, .int 0, .int 0, .int 0, .int 0, .int 0, .int 0, .int 0, .int 0, .int 0])), (mB, .inl (cY, 4096, .inl (fun _ => 0))), (mR, .inl (cG, 8, .inl (fun _ => 0))), (mN, .inl (cN, 8, .inl (upd (fun _ => 0) (7 : Int32).toNatClampNeg 0)))] := hD
  rw [q_u0] at hP hD
  refine lv_iinc (v := 8) (lv' := [(1, .int 8), (0, .ref m0)]) hx hb dX5_step_20 hl (k := 0) rfl (by decide) (by decide) rfl (fun ls hl => ?_)
  refine lv_goto (tgt := 2) hx hb dX5_step_23 (by decide) ?_
  refine lv_iload_n hx hb dX5_step_2 rfl (lv_at hl 0 rfl) ?_
  refine lv_bipush (v := 8) hx hb dX5_step_3 (by decide) ?_
  refine lv_icmp_ge (tgt := 26) hx hb dX5_step_5 (by decide) (fun c_9 => ?_) (fun c9 => absurd (by decide) c9)
  refine lv_aload_n hx hb dX5_step_26 rfl (lv_at hl 1 rfl) ?_
  refine lv_aload_n hx hb dX5_step_27 rfl (lv_at hl 1 rfl) ?_
  refine va_get (D := (dC, dI)) (ci := 5) (v := .int 0) (C := RX5) (T := TX5) (N := 17) hx hb hts (by decide +kernel) hown hK hP 0 rfl rfl 3 (by decide) (hts (.fieldLink RX5 39 "WordGuestModel" "flags" "I") (by decide +kernel)) (fun _ h9 => h9) rfl dX5_step_28 ?_
  refine va_put (D := (dC, dI)) (ci := 5) (v := .int 0) (ty := .int) (C := RX5) (T := TX5) (N := 17) hx hb hts (by decide +kernel) tyX5 tyX5_ok nmX5 hown hK hP hD hS 0 rfl rfl 8 (by decide) (hts (.fieldLink RX5 90 "WordGuestModel" "nowFlags" "I") (by decide +kernel)) (fun _ h9 => h9) rfl (by decide +kernel) rfl rfl (Nat.le_of_ble_eq_true rfl) dX5_step_31 (fun H locs hP hD hS => ?_)
  have hP : va_P (dC, dI) vwCl [(m0, .inr (5, [.int 0, .ref mB, .ref mR, .int 0, .ref mO, .int 0, .int 0, .ref mN, .int 0, .int 0, .int 0, .int 0, .int 0, .int 0, .int 0, .int 0, .int 0])), (mB, .inl (cY, 4096, .inl (fun _ => 0))), (mR, .inl (cG, 8, .inl (fun _ => 0))), (mN, .inl (cN, 8, .inl (fun _ => 0)))] H := hP
  have hD : va_D A [(m0, .inr (5, [.int 0, .ref mB, .ref mR, .int 0, .ref mO, .int 0, .int 0, .ref mN, .int 0, .int 0, .int 0, .int 0, .int 0, .int 0, .int 0, .int 0, .int 0])), (mB, .inl (cY, 4096, .inl (fun _ => 0))), (mR, .inl (cG, 8, .inl (fun _ => 0))), (mN, .inl (cN, 8, .inl (fun _ => 0)))] := hD
  refine lv_aload_n hx hb dX5_step_34 rfl (lv_at hl 1 rfl) ?_
  refine lv_iconst (v := 0) hx hb dX5_step_35 (by decide) ?_
  refine va_put (D := (dC, dI)) (ci := 5) (v := .int 0) (ty := .int) (C := RX5) (T := TX5) (N := 17) hx hb hts (by decide +kernel) tyX5 tyX5_ok nmX5 hown hK hP hD hS 0 rfl rfl 12 (by decide) (hts (.fieldLink RX5 48 "WordGuestModel" "fault" "I") (by decide +kernel)) (fun _ h9 => h9) rfl (by decide +kernel) rfl rfl (Nat.le_of_ble_eq_true rfl) dX5_step_36 (fun H locs hP hD hS => ?_)
  have hP : va_P (dC, dI) vwCl [(m0, .inr (5, [.int 0, .ref mB, .ref mR, .int 0, .ref mO, .int 0, .int 0, .ref mN, .int 0, .int 0, .int 0, .int 0, .int 0, .int 0, .int 0, .int 0, .int 0])), (mB, .inl (cY, 4096, .inl (fun _ => 0))), (mR, .inl (cG, 8, .inl (fun _ => 0))), (mN, .inl (cN, 8, .inl (fun _ => 0)))] H := hP
  have hD : va_D A [(m0, .inr (5, [.int 0, .ref mB, .ref mR, .int 0, .ref mO, .int 0, .int 0, .ref mN, .int 0, .int 0, .int 0, .int 0, .int 0, .int 0, .int 0, .int 0, .int 0])), (mB, .inl (cY, 4096, .inl (fun _ => 0))), (mR, .inl (cG, 8, .inl (fun _ => 0))), (mN, .inl (cN, 8, .inl (fun _ => 0)))] := hD
  refine lv_aload_n hx hb dX5_step_39 rfl (lv_at hl 1 rfl) ?_
  refine lv_iconst (v := 0) hx hb dX5_step_40 (by decide) ?_
  refine va_put (D := (dC, dI)) (ci := 5) (v := .int 0) (ty := .int) (C := RX5) (T := TX5) (N := 17) hx hb hts (by decide +kernel) tyX5 tyX5_ok nmX5 hown hK hP hD hS 0 rfl rfl 10 (by decide) (hts (.fieldLink RX5 80 "WordGuestModel" "writeSize" "I") (by decide +kernel)) (fun _ h9 => h9) rfl (by decide +kernel) rfl rfl (Nat.le_of_ble_eq_true rfl) dX5_step_41 (fun H locs hP hD hS => ?_)
  have hP : va_P (dC, dI) vwCl [(m0, .inr (5, [.int 0, .ref mB, .ref mR, .int 0, .ref mO, .int 0, .int 0, .ref mN, .int 0, .int 0, .int 0, .int 0, .int 0, .int 0, .int 0, .int 0, .int 0])), (mB, .inl (cY, 4096, .inl (fun _ => 0))), (mR, .inl (cG, 8, .inl (fun _ => 0))), (mN, .inl (cN, 8, .inl (fun _ => 0)))] H := hP
  have hD : va_D A [(m0, .inr (5, [.int 0, .ref mB, .ref mR, .int 0, .ref mO, .int 0, .int 0, .ref mN, .int 0, .int 0, .int 0, .int 0, .int 0, .int 0, .int 0, .int 0, .int 0])), (mB, .inl (cY, 4096, .inl (fun _ => 0))), (mR, .inl (cG, 8, .inl (fun _ => 0))), (mN, .inl (cN, 8, .inl (fun _ => 0)))] := hD
  refine lv_aload_n hx hb dX5_step_44 rfl (lv_at hl 1 rfl) ?_
  refine lv_iconst (v := 0) hx hb dX5_step_45 (by decide) ?_
  refine va_put (D := (dC, dI)) (ci := 5) (v := .int 0) (ty := .boolean) (C := RX5) (T := TX5) (N := 17) hx hb hts (by decide +kernel) tyX5 tyX5_ok nmX5 hown hK hP hD hS 0 rfl rfl 13 (by decide) (hts (.fieldLink RX5 143 "WordGuestModel" "halt" "Z") (by decide +kernel)) (fun _ h9 => h9) rfl (by decide +kernel) (by decide) (by decide) (Nat.le_of_ble_eq_true rfl) dX5_step_46 (fun H locs hP hD hS => ?_)
  have hP : va_P (dC, dI) vwCl [(m0, .inr (5, [.int 0, .ref mB, .ref mR, .int 0, .ref mO, .int 0, .int 0, .ref mN, .int 0, .int 0, .int 0, .int 0, .int 0, .int 0, .int 0, .int 0, .int 0])), (mB, .inl (cY, 4096, .inl (fun _ => 0))), (mR, .inl (cG, 8, .inl (fun _ => 0))), (mN, .inl (cN, 8, .inl (fun _ => 0)))] H := hP
  have hD : va_D A [(m0, .inr (5, [.int 0, .ref mB, .ref mR, .int 0, .ref mO, .int 0, .int 0, .ref mN, .int 0, .int 0, .int 0, .int 0, .int 0, .int 0, .int 0, .int 0, .int 0])), (mB, .inl (cY, 4096, .inl (fun _ => 0))), (mR, .inl (cG, 8, .inl (fun _ => 0))), (mN, .inl (cN, 8, .inl (fun _ => 0)))] := hD
  refine lv_aload_n hx hb dX5_step_49 rfl (lv_at hl 1 rfl) ?_
  refine lv_iconst (v := 0) hx hb dX5_step_50 (by decide) ?_
  refine va_put (D := (dC, dI)) (ci := 5) (v := .int 0) (ty := .boolean) (C := RX5) (T := TX5) (N := 17) hx hb hts (by decide +kernel) tyX5 tyX5_ok nmX5 hown hK hP hD hS 0 rfl rfl 14 (by decide) (hts (.fieldLink RX5 59 "WordGuestModel" "isByte" "Z") (by decide +kernel)) (fun _ h9 => h9) rfl (by decide +kernel) (by decide) (by decide) (Nat.le_of_ble_eq_true rfl) dX5_step_51 (fun H locs hP hD hS => ?_)
  have hP : va_P (dC, dI) vwCl [(m0, .inr (5, [.int 0, .ref mB, .ref mR, .int 0, .ref mO, .int 0, .int 0, .ref mN, .int 0, .int 0, .int 0, .int 0, .int 0, .int 0, .int 0, .int 0, .int 0])), (mB, .inl (cY, 4096, .inl (fun _ => 0))), (mR, .inl (cG, 8, .inl (fun _ => 0))), (mN, .inl (cN, 8, .inl (fun _ => 0)))] H := hP
  have hD : va_D A [(m0, .inr (5, [.int 0, .ref mB, .ref mR, .int 0, .ref mO, .int 0, .int 0, .ref mN, .int 0, .int 0, .int 0, .int 0, .int 0, .int 0, .int 0, .int 0, .int 0])), (mB, .inl (cY, 4096, .inl (fun _ => 0))), (mR, .inl (cG, 8, .inl (fun _ => 0))), (mN, .inl (cN, 8, .inl (fun _ => 0)))] := hD
  refine lv_aload_n hx hb dX5_step_54 rfl (lv_at hl 1 rfl) ?_
  have hPc := hP.sub (ws' := [(m0, .inr (5, [.int 0, .ref mB, .ref mR, .int 0, .ref mO, .int 0, .int 0, .ref mN, .int 0, .int 0, .int 0, .int 0, .int 0, .int 0, .int 0, .int 0, .int 0])), (mB, .inl (cY, 4096, .inl (fun _ => 0))), (mN, .inl (cN, 8, .inl (fun _ => 0)))]) [0, 1, 3] rfl
  have hDc := hD.sub (ws' := [(m0, .inr (5, [.int 0, .ref mB, .ref mR, .int 0, .ref mO, .int 0, .int 0, .ref mN, .int 0, .int 0, .int 0, .int 0, .int 0, .int 0, .int 0, .int 0, .int 0])), (mB, .inl (cY, 4096, .inl (fun _ => 0))), (mN, .inl (cN, 8, .inl (fun _ => 0)))]) [0, 1, 3] (by decide) rfl
  have hKc := hK.sub (tys' := [(cY, .int), (cN, .int)]) [0, 2] rfl
  have hFc := va_free (wc := [(m0, .inr (5, [.int 0, .ref mB, .ref mR, .int 0, .ref mO, .int 0, .int 0, .ref mN, .int 0, .int 0, .int 0, .int 0, .int 0, .int 0, .int 0, .int 0, .int 0])), (mB, .inl (cY, 4096, .inl (fun _ => 0))), (mN, .inl (cN, 8, .inl (fun _ => 0)))]) hD hS hA [0, 1, 3] rfl
  refine va_calli (va_runV (C := RX5) (b := m0) (As := []) (rest := []) ⟨hx, hb, hml, hown, hts⟩ (c_X5_fetch0 l dC dI H.size m0 mB mR mO mN cY cN) (cwV 0 hts gX5_step_X5_fetch rfl rfl rfl (by decide +kernel) ⟨Nat.le_of_ble_eq_true rfl, Nat.le_of_ble_eq_true rfl⟩) ⟨q_blind, va_recv hK hP (ci := 5) (q0 := 0) rfl rfl, fun U hU hW => ⟨rfl, q_pay hU hW hPc hKc hDc hN⟩⟩ rfl rfl hl.1 rfl (lv_room (Nat.le_of_ble_eq_true rfl)) dX5_step_55 ⟨show 0 + 0 ≤ 0 from by omega, show 0 + 0 ≤ 0 from by omega⟩) hS (fun q _ h => hFc q h) hFc (fun r_10 u9 t H locs ht hvm hw_11 hB hz1 hk1 hS => ?_)
  obtain ⟨nw2_12, rfl⟩ : ∃ z, z = u9 := ⟨_, rfl⟩
  obtain ⟨hP1, hK1, hD1⟩ := hB
  rw [ht] at hP1
  obtain ⟨hP, hD⟩ := va_join (wr := [(mR, .inl (cG, 8, .inl (fun _ => 0)))]) (w1 := [(m0, .inr (5, [.int 0, .ref mB, .ref mR, .int 0, .ref mO, .int 0, .int 0, .ref mN, .int 0, .int 0, .int 0, .int 0, .int 0, .int 0, .int 0, .int 0, .int 0])), (mB, .inl (cY, 4096, .inl (fun _ => 0))), (mN, .inl (cN, 8, .inl nw2_12))]) hP hD [0, 1, 3] [2] rfl rfl (by decide) (by decide) hk1 hFc hP1 hD1
  have hP : va_P (dC, dI) vwCl [(mR, .inl (cG, 8, .inl (fun _ => 0))), (m0, .inr (5, [.int 0, .ref mB, .ref mR, .int 0, .ref mO, .int 0, .int 0, .ref mN, .int 0, .int 0, .int 0, .int 0, .int 0, .int 0, .int 0, .int 0, .int 0])), (mB, .inl (cY, 4096, .inl (fun _ => 0))), (mN, .inl (cN, 8, .inl nw2_12))] H := hP
  have hD : va_D A [(mR, .inl (cG, 8, .inl (fun _ => 0))), (m0, .inr (5, [.int 0, .ref mB, .ref mR, .int 0, .ref mO, .int 0, .int 0, .ref mN, .int 0, .int 0, .int 0, .int 0, .int 0, .int 0, .int 0, .int 0, .int 0])), (mB, .inl (cY, 4096, .inl (fun _ => 0))), (mN, .inl (cN, 8, .inl nw2_12))] := hD
  refine W.widen (k := 0) (n := 0) (by omega) (by omega) ?_
  try dsimp only at hw_11
  obtain rfl := hw_11
  refine q_toc (y := 0) (by first | rfl | decide) ?_
  refine lv_istore_n (lv' := [(1, .int 0), (0, .ref m0)]) hx hb dX5_step_58 rfl hl (by decide) rfl (fun ls hl => ?_)
  refine lv_aload_n hx hb dX5_step_59 rfl (lv_at hl 1 rfl) ?_
  refine va_get (D := (dC, dI)) (ci := 5) (v := .int 0) (C := RX5) (T := TX5) (N := 17) hx hb hts (by decide +kernel) hown hK hP 1 rfl rfl 12 (by decide) (hts (.fieldLink RX5 48 "WordGuestModel" "fault" "I") (by decide +kernel)) (fun _ h9 => h9) rfl dX5_step_60 ?_
  refine lv_if_ne (tgt := 71) hx hb dX5_step_63 (by decide) (fun c9 => absurd (by decide) c9) (fun c_13 => ?_)
  refine lv_aload_n hx hb dX5_step_66 rfl (lv_at hl 1 rfl) ?_
  refine lv_iload_n hx hb dX5_step_67 rfl (lv_at hl 0 rfl) ?_
  have hPc := hP.sub (ws' := [(m0, .inr (5, [.int 0, .ref mB, .ref mR, .int 0, .ref mO, .int 0, .int 0, .ref mN, .int 0, .int 0, .int 0, .int 0, .int 0, .int 0, .int 0, .int 0, .int 0]))]) [1] rfl
  have hDc := hD.sub (ws' := [(m0, .inr (5, [.int 0, .ref mB, .ref mR, .int 0, .ref mO, .int 0, .int 0, .ref mN, .int 0, .int 0, .int 0, .int 0, .int 0, .int 0, .int 0, .int 0, .int 0]))]) [1] (by decide) rfl
  have hKc := hK.sub (tys' := []) [] rfl
  have hFc := va_free (wc := [(m0, .inr (5, [.int 0, .ref mB, .ref mR, .int 0, .ref mO, .int 0, .int 0, .ref mN, .int 0, .int 0, .int 0, .int 0, .int 0, .int 0, .int 0, .int 0, .int 0]))]) hD hS hA [1] rfl
  refine va_callv (va_runV (C := RX5) (b := m0) (As := [.int 0]) (rest := []) ⟨hx, hb, hml, hown, hts⟩ (c_X5_does0 l dC dI H.size m0 mB mR mO mN) (cwV 1 hts gX5_step_X5_does rfl rfl rfl (by decide +kernel) ⟨Nat.le_of_ble_eq_true rfl, Nat.le_of_ble_eq_true rfl⟩) ⟨q_blind, va_recv hK hP (ci := 5) (q0 := 1) rfl rfl, fun U hU hW => ⟨rfl, q_pay hU hW hPc hKc hDc hN⟩⟩ rfl rfl hl.1 rfl (lv_room (Nat.le_of_ble_eq_true rfl)) dX5_step_68 ⟨show 0 + 0 ≤ 0 from by omega, show 0 + 0 ≤ 0 from by omega⟩) hS (fun q _ h => hFc q h) hFc (fun u9 t H locs ht hvm hw_15 hB hz1 hk1 hS => ?_)
  obtain ⟨hP1, hK1, hD1⟩ := hB
  rw [ht] at hP1
  obtain ⟨hP, hD⟩ := va_join (wr := [(mR, .inl (cG, 8, .inl (fun _ => 0))), (mB, .inl (cY, 4096, .inl (fun _ => 0))), (mN, .inl (cN, 8, .inl nw2_12))]) (w1 := [(m0, .inr (5, [.int 0, .ref mB, .ref mR, .int 0, .ref mO, .int 0, .int 0, .ref mN, .int 0, .int 0, .int 0, .int 0, .int 0, .int 1, .int 0, .int 0, .int 0]))]) hP hD [1] [0, 2, 3] rfl rfl (by decide) (by decide) hk1 hFc hP1 hD1
  have hP : va_P (dC, dI) vwCl [(mR, .inl (cG, 8, .inl (fun _ => 0))), (mB, .inl (cY, 4096, .inl (fun _ => 0))), (mN, .inl (cN, 8, .inl nw2_12)), (m0, .inr (5, [.int 0, .ref mB, .ref mR, .int 0, .ref mO, .int 0, .int 0, .ref mN, .int 0, .int 0, .int 0, .int 0, .int 0, .int 1, .int 0, .int 0, .int 0]))] H := hP
  have hD : va_D A [(mR, .inl (cG, 8, .inl (fun _ => 0))), (mB, .inl (cY, 4096, .inl (fun _ => 0))), (mN, .inl (cN, 8, .inl nw2_12)), (m0, .inr (5, [.int 0, .ref mB, .ref mR, .int 0, .ref mO, .int 0, .int 0, .ref mN, .int 0, .int 0, .int 0, .int 0, .int 0, .int 1, .int 0, .int 0, .int 0]))] := hD
  refine W.widen (k := 0) (n := 0) (by omega) (by omega) ?_
  try dsimp only at hw_15
  refine lv_aload_n hx hb dX5_step_71 rfl (lv_at hl 1 rfl) ?_
  refine va_get (D := (dC, dI)) (ci := 5) (v := .int 0) (C := RX5) (T := TX5) (N := 17) hx hb hts (by decide +kernel) hown hK hP 3 rfl rfl 12 (by decide) (hts (.fieldLink RX5 48 "WordGuestModel" "fault" "I") (by decide +kernel)) (fun _ h9 => h9) rfl dX5_step_72 ?_
  refine lv_if_le (tgt := 79) hx hb dX5_step_75 (by decide) (fun c_16 => ?_) (fun c9 => absurd (by decide) c9)
  refine lv_iconst (v := 0) hx hb dX5_step_79 (by decide) ?_
  refine lv_istore_n (lv' := [(2, .int 0), (1, .int 0), (0, .ref m0)]) hx hb dX5_step_80 rfl hl (by decide) rfl (fun ls hl => ?_)
  refine lv_iload_n hx hb dX5_step_81 rfl (lv_at hl 0 rfl) ?_
  refine lv_bipush (v := 8) hx hb dX5_step_82 (by decide) ?_
  refine lv_icmp_ge (tgt := 105) hx hb dX5_step_84 (by decide) (fun c9 => absurd c9 (by decide)) (fun c_17 => ?_)
  refine lv_aload_n hx hb dX5_step_87 rfl (lv_at hl 2 rfl) ?_
  refine va_get (D := (dC, dI)) (ci := 5) (v := .ref mR) (C := RX5) (T := TX5) (N := 17) hx hb hts (by decide +kernel) hown hK hP 3 rfl rfl 2 (by decide) (hts (.fieldLink RX5 13 "WordGuestModel" "registers" "[I") (by decide +kernel)) (fun _ h9 => h9) rfl dX5_step_88 ?_
  refine lv_iload_n hx hb dX5_step_91 rfl (lv_at hl 0 rfl) ?_
  refine lv_aload_n hx hb dX5_step_92 rfl (lv_at hl 2 rfl) ?_
  refine va_get (D := (dC, dI)) (ci := 5) (v := .ref mN) (C := RX5) (T := TX5) (N := 17) hx hb hts (by decide +kernel) hown hK hP 3 rfl rfl 7 (by decide) (hts (.fieldLink RX5 19 "WordGuestModel" "now" "[I") (by decide +kernel)) (fun _ h9 => h9) rfl dX5_step_93 ?_
  refine lv_iload_n hx hb dX5_step_96 rfl (lv_at hl 0 rfl) ?_
  refine va_iald hx hb hK hP 2 2 rfl rfl (by unfold vp_in; decide) dX5_step_97 ?_
  refine va_iast hx hb hK hP hD hS 0 1 rfl rfl (by unfold vp_in; decide) dX5_step_98 (fun H locs hP hD hS => ?_)
  have hP : va_P (dC, dI) vwCl [(mR, .inl (cG, 8, .inl (upd (fun _ => 0) (0 : Int32).toNatClampNeg (nw2_12 (0 : Int32).toNatClampNeg)))), (mB, .inl (cY, 4096, .inl (fun _ => 0))), (mN, .inl (cN, 8, .inl nw2_12)), (m0, .inr (5, [.int 0, .ref mB, .ref mR, .int 0, .ref mO, .int 0, .int 0, .ref mN, .int 0, .int 0, .int 0, .int 0, .int 0, .int 1, .int 0, .int 0, .int 0]))] H := hP
  have hD : va_D A [(mR, .inl (cG, 8, .inl (upd (fun _ => 0) (0 : Int32).toNatClampNeg (nw2_12 (0 : Int32).toNatClampNeg)))), (mB, .inl (cY, 4096, .inl (fun _ => 0))), (mN, .inl (cN, 8, .inl nw2_12)), (m0, .inr (5, [.int 0, .ref mB, .ref mR, .int 0, .ref mO, .int 0, .int 0, .ref mN, .int 0, .int 0, .int 0, .int 0, .int 0, .int 1, .int 0, .int 0, .int 0]))] := hD
  generalize (upd (fun _ => 0) (0 : Int32).toNatClampNeg (nw2_12 (0 : Int32).toNatClampNeg)) = g_18 at hP hD
  refine lv_iinc (v := 1) (lv' := [(2, .int 1), (1, .int 0), (0, .ref m0)]) hx hb dX5_step_99 hl (k := 0) rfl (by decide) (by decide) rfl (fun ls hl => ?_)
  refine lv_goto (tgt := 81) hx hb dX5_step_102 (by decide) ?_
  refine lv_iload_n hx hb dX5_step_81 rfl (lv_at hl 0 rfl) ?_
  refine lv_bipush (v := 8) hx hb dX5_step_82 (by decide) ?_
  refine lv_icmp_ge (tgt := 105) hx hb dX5_step_84 (by decide) (fun c9 => absurd c9 (by decide)) (fun c_19 => ?_)
  refine lv_aload_n hx hb dX5_step_87 rfl (lv_at hl 2 rfl) ?_
  refine va_get (D := (dC, dI)) (ci := 5) (v := .ref mR) (C := RX5) (T := TX5) (N := 17) hx hb hts (by decide +kernel) hown hK hP 3 rfl rfl 2 (by decide) (hts (.fieldLink RX5 13 "WordGuestModel" "registers" "[I") (by decide +kernel)) (fun _ h9 => h9) rfl dX5_step_88 ?_
  refine lv_iload_n hx hb dX5_step_91 rfl (lv_at hl 0 rfl) ?_
  refine lv_aload_n hx hb dX5_step_92 rfl (lv_at hl 2 rfl) ?_
  refine va_get (D := (dC, dI)) (ci := 5) (v := .ref mN) (C := RX5) (T := TX5) (N := 17) hx hb hts (by decide +kernel) hown hK hP 3 rfl rfl 7 (by decide) (hts (.fieldLink RX5 19 "WordGuestModel" "now" "[I") (by decide +kernel)) (fun _ h9 => h9) rfl dX5_step_93 ?_
  refine lv_iload_n hx hb dX5_step_96 rfl (lv_at hl 0 rfl) ?_
  refine va_iald hx hb hK hP 2 2 rfl rfl (by unfold vp_in; decide) dX5_step_97 ?_
  refine va_iast hx hb hK hP hD hS 0 1 rfl rfl (by unfold vp_in; decide) dX5_step_98 (fun H locs hP hD hS => ?_)
  have hP : va_P (dC, dI) vwCl [(mR, .inl (cG, 8, .inl (upd g_18 (1 : Int32).toNatClampNeg (nw2_12 (1 : Int32).toNatClampNeg)))), (mB, .inl (cY, 4096, .inl (fun _ => 0))), (mN, .inl (cN, 8, .inl nw2_12)), (m0, .inr (5, [.int 0, .ref mB, .ref mR, .int 0, .ref mO, .int 0, .int 0, .ref mN, .int 0, .int 0, .int 0, .int 0, .int 0, .int 1, .int 0, .int 0, .int 0]))] H := hP
  have hD : va_D A [(mR, .inl (cG, 8, .inl (upd g_18 (1 : Int32).toNatClampNeg (nw2_12 (1 : Int32).toNatClampNeg)))), (mB, .inl (cY, 4096, .inl (fun _ => 0))), (mN, .inl (cN, 8, .inl nw2_12)), (m0, .inr (5, [.int 0, .ref mB, .ref mR, .int 0, .ref mO, .int 0, .int 0, .ref mN, .int 0, .int 0, .int 0, .int 0, .int 0, .int 1, .int 0, .int 0, .int 0]))] := hD
  generalize (upd g_18 (1 : Int32).toNatClampNeg (nw2_12 (1 : Int32).toNatClampNeg)) = g_20 at hP hD
  refine lv_iinc (v := 2) (lv' := [(2, .int 2), (1, .int 0), (0, .ref m0)]) hx hb dX5_step_99 hl (k := 0) rfl (by decide) (by decide) rfl (fun ls hl => ?_)
  refine lv_goto (tgt := 81) hx hb dX5_step_102 (by decide) ?_
  refine lv_iload_n hx hb dX5_step_81 rfl (lv_at hl 0 rfl) ?_
  refine lv_bipush (v := 8) hx hb dX5_step_82 (by decide) ?_
  refine lv_icmp_ge (tgt := 105) hx hb dX5_step_84 (by decide) (fun c9 => absurd c9 (by decide)) (fun c_21 => ?_)
  refine lv_aload_n hx hb dX5_step_87 rfl (lv_at hl 2 rfl) ?_
  refine va_get (D := (dC, dI)) (ci := 5) (v := .ref mR) (C := RX5) (T := TX5) (N := 17) hx hb hts (by decide +kernel) hown hK hP 3 rfl rfl 2 (by decide) (hts (.fieldLink RX5 13 "WordGuestModel" "registers" "[I") (by decide +kernel)) (fun _ h9 => h9) rfl dX5_step_88 ?_
  refine lv_iload_n hx hb dX5_step_91 rfl (lv_at hl 0 rfl) ?_
  refine lv_aload_n hx hb dX5_step_92 rfl (lv_at hl 2 rfl) ?_
  refine va_get (D := (dC, dI)) (ci := 5) (v := .ref mN) (C := RX5) (T := TX5) (N := 17) hx hb hts (by decide +kernel) hown hK hP 3 rfl rfl 7 (by decide) (hts (.fieldLink RX5 19 "WordGuestModel" "now" "[I") (by decide +kernel)) (fun _ h9 => h9) rfl dX5_step_93 ?_
  refine lv_iload_n hx hb dX5_step_96 rfl (lv_at hl 0 rfl) ?_
  refine va_iald hx hb hK hP 2 2 rfl rfl (by unfold vp_in; decide) dX5_step_97 ?_
  refine va_iast hx hb hK hP hD hS 0 1 rfl rfl (by unfold vp_in; decide) dX5_step_98 (fun H locs hP hD hS => ?_)
  have hP : va_P (dC, dI) vwCl [(mR, .inl (cG, 8, .inl (upd g_20 (2 : Int32).toNatClampNeg (nw2_12 (2 : Int32).toNatClampNeg)))), (mB, .inl (cY, 4096, .inl (fun _ => 0))), (mN, .inl (cN, 8, .inl nw2_12)), (m0, .inr (5, [.int 0, .ref mB, .ref mR, .int 0, .ref mO, .int 0, .int 0, .ref mN, .int 0, .int 0, .int 0, .int 0, .int 0, .int 1, .int 0, .int 0, .int 0]))] H := hP
  have hD : va_D A [(mR, .inl (cG, 8, .inl (upd g_20 (2 : Int32).toNatClampNeg (nw2_12 (2 : Int32).toNatClampNeg)))), (mB, .inl (cY, 4096, .inl (fun _ => 0))), (mN, .inl (cN, 8, .inl nw2_12)), (m0, .inr (5, [.int 0, .ref mB, .ref mR, .int 0, .ref mO, .int 0, .int 0, .ref mN, .int 0, .int 0, .int 0, .int 0, .int 0, .int 1, .int 0, .int 0, .int 0]))] := hD
  generalize (upd g_20 (2 : Int32).toNatClampNeg (nw2_12 (2 : Int32).toNatClampNeg)) = g_22 at hP hD
  refine lv_iinc (v := 3) (lv' := [(2, .int 3), (1, .int 0), (0, .ref m0)]) hx hb dX5_step_99 hl (k := 0) rfl (by decide) (by decide) rfl (fun ls hl => ?_)
  refine lv_goto (tgt := 81) hx hb dX5_step_102 (by decide) ?_
  refine lv_iload_n hx hb dX5_step_81 rfl (lv_at hl 0 rfl) ?_
  refine lv_bipush (v := 8) hx hb dX5_step_82 (by decide) ?_
  refine lv_icmp_ge (tgt := 105) hx hb dX5_step_84 (by decide) (fun c9 => absurd c9 (by decide)) (fun c_23 => ?_)
  refine lv_aload_n hx hb dX5_step_87 rfl (lv_at hl 2 rfl) ?_
  refine va_get (D := (dC, dI)) (ci := 5) (v := .ref mR) (C := RX5) (T := TX5) (N := 17) hx hb hts (by decide +kernel) hown hK hP 3 rfl rfl 2 (by decide) (hts (.fieldLink RX5 13 "WordGuestModel" "registers" "[I") (by decide +kernel)) (fun _ h9 => h9) rfl dX5_step_88 ?_
  refine lv_iload_n hx hb dX5_step_91 rfl (lv_at hl 0 rfl) ?_
  refine lv_aload_n hx hb dX5_step_92 rfl (lv_at hl 2 rfl) ?_
  refine va_get (D := (dC, dI)) (ci := 5) (v := .ref mN) (C := RX5) (T := TX5) (N := 17) hx hb hts (by decide +kernel) hown hK hP 3 rfl rfl 7 (by decide) (hts (.fieldLink RX5 19 "WordGuestModel" "now" "[I") (by decide +kernel)) (fun _ h9 => h9) rfl dX5_step_93 ?_
  refine lv_iload_n hx hb dX5_step_96 rfl (lv_at hl 0 rfl) ?_
  refine va_iald hx hb hK hP 2 2 rfl rfl (by unfold vp_in; decide) dX5_step_97 ?_
  refine va_iast hx hb hK hP hD hS 0 1 rfl rfl (by unfold vp_in; decide) dX5_step_98 (fun H locs hP hD hS => ?_)
  have hP : va_P (dC, dI) vwCl [(mR, .inl (cG, 8, .inl (upd g_22 (3 : Int32).toNatClampNeg (nw2_12 (3 : Int32).toNatClampNeg)))), (mB, .inl (cY, 4096, .inl (fun _ => 0))), (mN, .inl (cN, 8, .inl nw2_12)), (m0, .inr (5, [.int 0, .ref mB, .ref mR, .int 0, .ref mO, .int 0, .int 0, .ref mN, .int 0, .int 0, .int 0, .int 0, .int 0, .int 1, .int 0, .int 0, .int 0]))] H := hP
  have hD : va_D A [(mR, .inl (cG, 8, .inl (upd g_22 (3 : Int32).toNatClampNeg (nw2_12 (3 : Int32).toNatClampNeg)))), (mB, .inl (cY, 4096, .inl (fun _ => 0))), (mN, .inl (cN, 8, .inl nw2_12)), (m0, .inr (5, [.int 0, .ref mB, .ref mR, .int 0, .ref mO, .int 0, .int 0, .ref mN, .int 0, .int 0, .int 0, .int 0, .int 0, .int 1, .int 0, .int 0, .int 0]))] := hD
  generalize (upd g_22 (3 : Int32).toNatClampNeg (nw2_12 (3 : Int32).toNatClampNeg)) = g_24 at hP hD
  refine lv_iinc (v := 4) (lv' := [(2, .int 4), (1, .int 0), (0, .ref m0)]) hx hb dX5_step_99 hl (k := 0) rfl (by decide) (by decide) rfl (fun ls hl => ?_)
  refine lv_goto (tgt := 81) hx hb dX5_step_102 (by decide) ?_
  refine lv_iload_n hx hb dX5_step_81 rfl (lv_at hl 0 rfl) ?_
  refine lv_bipush (v := 8) hx hb dX5_step_82 (by decide) ?_
  refine lv_icmp_ge (tgt := 105) hx hb dX5_step_84 (by decide) (fun c9 => absurd c9 (by decide)) (fun c_25 => ?_)
  refine lv_aload_n hx hb dX5_step_87 rfl (lv_at hl 2 rfl) ?_
  refine va_get (D := (dC, dI)) (ci := 5) (v := .ref mR) (C := RX5) (T := TX5) (N := 17) hx hb hts (by decide +kernel) hown hK hP 3 rfl rfl 2 (by decide) (hts (.fieldLink RX5 13 "WordGuestModel" "registers" "[I") (by decide +kernel)) (fun _ h9 => h9) rfl dX5_step_88 ?_
  refine lv_iload_n hx hb dX5_step_91 rfl (lv_at hl 0 rfl) ?_
  refine lv_aload_n hx hb dX5_step_92 rfl (lv_at hl 2 rfl) ?_
  refine va_get (D := (dC, dI)) (ci := 5) (v := .ref mN) (C := RX5) (T := TX5) (N := 17) hx hb hts (by decide +kernel) hown hK hP 3 rfl rfl 7 (by decide) (hts (.fieldLink RX5 19 "WordGuestModel" "now" "[I") (by decide +kernel)) (fun _ h9 => h9) rfl dX5_step_93 ?_
  refine lv_iload_n hx hb dX5_step_96 rfl (lv_at hl 0 rfl) ?_
  refine va_iald hx hb hK hP 2 2 rfl rfl (by unfold vp_in; decide) dX5_step_97 ?_
  refine va_iast hx hb hK hP hD hS 0 1 rfl rfl (by unfold vp_in; decide) dX5_step_98 (fun H locs hP hD hS => ?_)
  have hP : va_P (dC, dI) vwCl [(mR, .inl (cG, 8, .inl (upd g_24 (4 : Int32).toNatClampNeg (nw2_12 (4 : Int32).toNatClampNeg)))), (mB, .inl (cY, 4096, .inl (fun _ => 0))), (mN, .inl (cN, 8, .inl nw2_12)), (m0, .inr (5, [.int 0, .ref mB, .ref mR, .int 0, .ref mO, .int 0, .int 0, .ref mN, .int 0, .int 0, .int 0, .int 0, .int 0, .int 1, .int 0, .int 0, .int 0]))] H := hP
  have hD : va_D A [(mR, .inl (cG, 8, .inl (upd g_24 (4 : Int32).toNatClampNeg (nw2_12 (4 : Int32).toNatClampNeg)))), (mB, .inl (cY, 4096, .inl (fun _ => 0))), (mN, .inl (cN, 8, .inl nw2_12)), (m0, .inr (5, [.int 0, .ref mB, .ref mR, .int 0, .ref mO, .int 0, .int 0, .ref mN, .int 0, .int 0, .int 0, .int 0, .int 0, .int 1, .int 0, .int 0, .int 0]))] := hD
  generalize (upd g_24 (4 : Int32).toNatClampNeg (nw2_12 (4 : Int32).toNatClampNeg)) = g_26 at hP hD
  refine lv_iinc (v := 5) (lv' := [(2, .int 5), (1, .int 0), (0, .ref m0)]) hx hb dX5_step_99 hl (k := 0) rfl (by decide) (by decide) rfl (fun ls hl => ?_)
  refine lv_goto (tgt := 81) hx hb dX5_step_102 (by decide) ?_
  refine lv_iload_n hx hb dX5_step_81 rfl (lv_at hl 0 rfl) ?_
  refine lv_bipush (v := 8) hx hb dX5_step_82 (by decide) ?_
  refine lv_icmp_ge (tgt := 105) hx hb dX5_step_84 (by decide) (fun c9 => absurd c9 (by decide)) (fun c_27 => ?_)
  refine lv_aload_n hx hb dX5_step_87 rfl (lv_at hl 2 rfl) ?_
  refine va_get (D := (dC, dI)) (ci := 5) (v := .ref mR) (C := RX5) (T := TX5) (N := 17) hx hb hts (by decide +kernel) hown hK hP 3 rfl rfl 2 (by decide) (hts (.fieldLink RX5 13 "WordGuestModel" "registers" "[I") (by decide +kernel)) (fun _ h9 => h9) rfl dX5_step_88 ?_
  refine lv_iload_n hx hb dX5_step_91 rfl (lv_at hl 0 rfl) ?_
  refine lv_aload_n hx hb dX5_step_92 rfl (lv_at hl 2 rfl) ?_
  refine va_get (D := (dC, dI)) (ci := 5) (v := .ref mN) (C := RX5) (T := TX5) (N := 17) hx hb hts (by decide +kernel) hown hK hP 3 rfl rfl 7 (by decide) (hts (.fieldLink RX5 19 "WordGuestModel" "now" "[I") (by decide +kernel)) (fun _ h9 => h9) rfl dX5_step_93 ?_
  refine lv_iload_n hx hb dX5_step_96 rfl (lv_at hl 0 rfl) ?_
  refine va_iald hx hb hK hP 2 2 rfl rfl (by unfold vp_in; decide) dX5_step_97 ?_
  refine va_iast hx hb hK hP hD hS 0 1 rfl rfl (by unfold vp_in; decide) dX5_step_98 (fun H locs hP hD hS => ?_)
  have hP : va_P (dC, dI) vwCl [(mR, .inl (cG, 8, .inl (upd g_26 (5 : Int32).toNatClampNeg (nw2_12 (5 : Int32).toNatClampNeg)))), (mB, .inl (cY, 4096, .inl (fun _ => 0))), (mN, .inl (cN, 8, .inl nw2_12)), (m0, .inr (5, [.int 0, .ref mB, .ref mR, .int 0, .ref mO, .int 0, .int 0, .ref mN, .int 0, .int 0, .int 0, .int 0, .int 0, .int 1, .int 0, .int 0, .int 0]))] H := hP
  have hD : va_D A [(mR, .inl (cG, 8, .inl (upd g_26 (5 : Int32).toNatClampNeg (nw2_12 (5 : Int32).toNatClampNeg)))), (mB, .inl (cY, 4096, .inl (fun _ => 0))), (mN, .inl (cN, 8, .inl nw2_12)), (m0, .inr (5, [.int 0, .ref mB, .ref mR, .int 0, .ref mO, .int 0, .int 0, .ref mN, .int 0, .int 0, .int 0, .int 0, .int 0, .int 1, .int 0, .int 0, .int 0]))] := hD
  generalize (upd g_26 (5 : Int32).toNatClampNeg (nw2_12 (5 : Int32).toNatClampNeg)) = g_28 at hP hD
  refine lv_iinc (v := 6) (lv' := [(2, .int 6), (1, .int 0), (0, .ref m0)]) hx hb dX5_step_99 hl (k := 0) rfl (by decide) (by decide) rfl (fun ls hl => ?_)
  refine lv_goto (tgt := 81) hx hb dX5_step_102 (by decide) ?_
  refine lv_iload_n hx hb dX5_step_81 rfl (lv_at hl 0 rfl) ?_
  refine lv_bipush (v := 8) hx hb dX5_step_82 (by decide) ?_
  refine lv_icmp_ge (tgt := 105) hx hb dX5_step_84 (by decide) (fun c9 => absurd c9 (by decide)) (fun c_29 => ?_)
  refine lv_aload_n hx hb dX5_step_87 rfl (lv_at hl 2 rfl) ?_
  refine va_get (D := (dC, dI)) (ci := 5) (v := .ref mR) (C := RX5) (T := TX5) (N := 17) hx hb hts (by decide +kernel) hown hK hP 3 rfl rfl 2 (by decide) (hts (.fieldLink RX5 13 "WordGuestModel" "registers" "[I") (by decide +kernel)) (fun _ h9 => h9) rfl dX5_step_88 ?_
  refine lv_iload_n hx hb dX5_step_91 rfl (lv_at hl 0 rfl) ?_
  refine lv_aload_n hx hb dX5_step_92 rfl (lv_at hl 2 rfl) ?_
  refine va_get (D := (dC, dI)) (ci := 5) (v := .ref mN) (C := RX5) (T := TX5) (N := 17) hx hb hts (by decide +kernel) hown hK hP 3 rfl rfl 7 (by decide) (hts (.fieldLink RX5 19 "WordGuestModel" "now" "[I") (by decide +kernel)) (fun _ h9 => h9) rfl dX5_step_93 ?_
  refine lv_iload_n hx hb dX5_step_96 rfl (lv_at hl 0 rfl) ?_
  refine va_iald hx hb hK hP 2 2 rfl rfl (by unfold vp_in; decide) dX5_step_97 ?_
  refine va_iast hx hb hK hP hD hS 0 1 rfl rfl (by unfold vp_in; decide) dX5_step_98 (fun H locs hP hD hS => ?_)
  have hP : va_P (dC, dI) vwCl [(mR, .inl (cG, 8, .inl (upd g_28 (6 : Int32).toNatClampNeg (nw2_12 (6 : Int32).toNatClampNeg)))), (mB, .inl (cY, 4096, .inl (fun _ => 0))), (mN, .inl (cN, 8, .inl nw2_12)), (m0, .inr (5, [.int 0, .ref mB, .ref mR, .int 0, .ref mO, .int 0, .int 0, .ref mN, .int 0, .int 0, .int 0, .int 0, .int 0, .int 1, .int 0, .int 0, .int 0]))] H := hP
  have hD : va_D A [(mR, .inl (cG, 8, .inl (upd g_28 (6 : Int32).toNatClampNeg (nw2_12 (6 : Int32).toNatClampNeg)))), (mB, .inl (cY, 4096, .inl (fun _ => 0))), (mN, .inl (cN, 8, .inl nw2_12)), (m0, .inr (5, [.int 0, .ref mB, .ref mR, .int 0, .ref mO, .int 0, .int 0, .ref mN, .int 0, .int 0, .int 0, .int 0, .int 0, .int 1, .int 0, .int 0, .int 0]))] := hD
  generalize (upd g_28 (6 : Int32).toNatClampNeg (nw2_12 (6 : Int32).toNatClampNeg)) = g_30 at hP hD
  refine lv_iinc (v := 7) (lv' := [(2, .int 7), (1, .int 0), (0, .ref m0)]) hx hb dX5_step_99 hl (k := 0) rfl (by decide) (by decide) rfl (fun ls hl => ?_)
  refine lv_goto (tgt := 81) hx hb dX5_step_102 (by decide) ?_
  refine lv_iload_n hx hb dX5_step_81 rfl (lv_at hl 0 rfl) ?_
  refine lv_bipush (v := 8) hx hb dX5_step_82 (by decide) ?_
  refine lv_icmp_ge (tgt := 105) hx hb dX5_step_84 (by decide) (fun c9 => absurd c9 (by decide)) (fun c_31 => ?_)
  refine lv_aload_n hx hb dX5_step_87 rfl (lv_at hl 2 rfl) ?_
  refine va_get (D := (dC, dI)) (ci := 5) (v := .ref mR) (C := RX5) (T := TX5) (N := 17) hx hb hts (by decide +kernel) hown hK hP 3 rfl rfl 2 (by decide) (hts (.fieldLink RX5 13 "WordGuestModel" "registers" "[I") (by decide +kernel)) (fun _ h9 => h9) rfl dX5_step_88 ?_
  refine lv_iload_n hx hb dX5_step_91 rfl (lv_at hl 0 rfl) ?_
  refine lv_aload_n hx hb dX5_step_92 rfl (lv_at hl 2 rfl) ?_
  refine va_get (D := (dC, dI)) (ci := 5) (v := .ref mN) (C := RX5) (T := TX5) (N := 17) hx hb hts (by decide +kernel) hown hK hP 3 rfl rfl 7 (by decide) (hts (.fieldLink RX5 19 "WordGuestModel" "now" "[I") (by decide +kernel)) (fun _ h9 => h9) rfl dX5_step_93 ?_
  refine lv_iload_n hx hb dX5_step_96 rfl (lv_at hl 0 rfl) ?_
  refine va_iald hx hb hK hP 2 2 rfl rfl (by unfold vp_in; decide) dX5_step_97 ?_
  refine va_iast hx hb hK hP hD hS 0 1 rfl rfl (by unfold vp_in; decide) dX5_step_98 (fun H locs hP hD hS => ?_)
  have hP : va_P (dC, dI) vwCl [(mR, .inl (cG, 8, .inl (upd g_30 (7 : Int32).toNatClampNeg (nw2_12 (7 : Int32).toNatClampNeg)))), (mB, .inl (cY, 4096, .inl (fun _ => 0))), (mN, .inl (cN, 8, .inl nw2_12)), (m0, .inr (5, [.int 0, .ref mB, .ref mR, .int 0, .ref mO, .int 0, .int 0, .ref mN, .int 0, .int 0, .int 0, .int 0, .int 0, .int 1, .int 0, .int 0, .int 0]))] H := hP
  have hD : va_D A [(mR, .inl (cG, 8, .inl (upd g_30 (7 : Int32).toNatClampNeg (nw2_12 (7 : Int32).toNatClampNeg)))), (mB, .inl (cY, 4096, .inl (fun _ => 0))), (mN, .inl (cN, 8, .inl nw2_12)), (m0, .inr (5, [.int 0, .ref mB, .ref mR, .int 0, .ref mO, .int 0, .int 0, .ref mN, .int 0, .int 0, .int 0, .int 0, .int 0, .int 1, .int 0, .int 0, .int 0]))] := hD
  generalize (upd g_30 (7 : Int32).toNatClampNeg (nw2_12 (7 : Int32).toNatClampNeg)) = g_32 at hP hD
  refine lv_iinc (v := 8) (lv' := [(2, .int 8), (1, .int 0), (0, .ref m0)]) hx hb dX5_step_99 hl (k := 0) rfl (by decide) (by decide) rfl (fun ls hl => ?_)
  refine lv_goto (tgt := 81) hx hb dX5_step_102 (by decide) ?_
  refine lv_iload_n hx hb dX5_step_81 rfl (lv_at hl 0 rfl) ?_
  refine lv_bipush (v := 8) hx hb dX5_step_82 (by decide) ?_
  refine lv_icmp_ge (tgt := 105) hx hb dX5_step_84 (by decide) (fun c_33 => ?_) (fun c9 => absurd (by decide) c9)
  refine lv_aload_n hx hb dX5_step_105 rfl (lv_at hl 2 rfl) ?_
  refine lv_aload_n hx hb dX5_step_106 rfl (lv_at hl 2 rfl) ?_
  refine va_get (D := (dC, dI)) (ci := 5) (v := .int 0) (C := RX5) (T := TX5) (N := 17) hx hb hts (by decide +kernel) hown hK hP 3 rfl rfl 8 (by decide) (hts (.fieldLink RX5 90 "WordGuestModel" "nowFlags" "I") (by decide +kernel)) (fun _ h9 => h9) rfl dX5_step_107 ?_
  refine va_put (D := (dC, dI)) (ci := 5) (v := .int 0) (ty := .int) (C := RX5) (T := TX5) (N := 17) hx hb hts (by decide +kernel) tyX5 tyX5_ok nmX5 hown hK hP hD hS 3 rfl rfl 3 (by decide) (hts (.fieldLink RX5 39 "WordGuestModel" "flags" "I") (by decide +kernel)) (fun _ h9 => h9) rfl (by decide +kernel) rfl rfl (Nat.le_of_ble_eq_true rfl) dX5_step_110 (fun H locs hP hD hS => ?_)
  have hP : va_P (dC, dI) vwCl [(mR, .inl (cG, 8, .inl g_32)), (mB, .inl (cY, 4096, .inl (fun _ => 0))), (mN, .inl (cN, 8, .inl nw2_12)), (m0, .inr (5, [.int 0, .ref mB, .ref mR, .int 0, .ref mO, .int 0, .int 0, .ref mN, .int 0, .int 0, .int 0, .int 0, .int 0, .int 1, .int 0, .int 0, .int 0]))] H := hP
  have hD : va_D A [(mR, .inl (cG, 8, .inl g_32)), (mB, .inl (cY, 4096, .inl (fun _ => 0))), (mN, .inl (cN, 8, .inl nw2_12)), (m0, .inr (5, [.int 0, .ref mB, .ref mR, .int 0, .ref mO, .int 0, .int 0, .ref mN, .int 0, .int 0, .int 0, .int 0, .int 0, .int 1, .int 0, .int 0, .int 0]))] := hD
  refine lv_aload_n hx hb dX5_step_113 rfl (lv_at hl 2 rfl) ?_
  refine va_get (D := (dC, dI)) (ci := 5) (v := .int 0) (C := RX5) (T := TX5) (N := 17) hx hb hts (by decide +kernel) hown hK hP 3 rfl rfl 10 (by decide) (hts (.fieldLink RX5 80 "WordGuestModel" "writeSize" "I") (by decide +kernel)) (fun _ h9 => h9) rfl dX5_step_114 ?_
  refine lv_iconst (v := 1) hx hb dX5_step_117 (by decide) ?_
  refine lv_icmp_ne (tgt := 141) hx hb dX5_step_118 (by decide) (fun c_34 => ?_) (fun c9 => absurd c9 (by decide))
  refine lv_aload_n hx hb dX5_step_141 rfl (lv_at hl 2 rfl) ?_
  refine va_get (D := (dC, dI)) (ci := 5) (v := .int 0) (C := RX5) (T := TX5) (N := 17) hx hb hts (by decide +kernel) hown hK hP 3 rfl rfl 10 (by decide) (hts (.fieldLink RX5 80 "WordGuestModel" "writeSize" "I") (by decide +kernel)) (fun _ h9 => h9) rfl dX5_step_142 ?_
  refine lv_iconst (v := 2) hx hb dX5_step_145 (by decide) ?_
  refine lv_icmp_ne (tgt := 161) hx hb dX5_step_146 (by decide) (fun c_35 => ?_) (fun c9 => absurd c9 (by decide))
  refine lv_aload_n hx hb dX5_step_161 rfl (lv_at hl 2 rfl) ?_
  refine va_get (D := (dC, dI)) (ci := 5) (v := .int 0) (C := RX5) (T := TX5) (N := 17) hx hb hts (by decide +kernel) hown hK hP 3 rfl rfl 10 (by decide) (hts (.fieldLink RX5 80 "WordGuestModel" "writeSize" "I") (by decide +kernel)) (fun _ h9 => h9) rfl dX5_step_162 ?_
  refine lv_if_le (tgt := 233) hx hb dX5_step_165 (by decide) (fun c_36 => ?_) (fun c9 => absurd (by decide) c9)
  refine lv_aload_n hx hb dX5_step_233 rfl (lv_at hl 2 rfl) ?_
  refine lv_dup hx hb dX5_step_234 rfl ?_
  refine va_get (D := (dC, dI)) (ci := 5) (v := .int 0) (C := RX5) (T := TX5) (N := 17) hx hb hts (by decide +kernel) hown hK hP 3 rfl rfl 6 (by decide) (hts (.fieldLink RX5 42 "WordGuestModel" "steps" "I") (by decide +kernel)) (fun _ h9 => h9) rfl dX5_step_235 ?_
  refine lv_iconst (v := 1) hx hb dX5_step_238 (by decide) ?_
  refine lv_iadd hx hb dX5_step_239 ?_
  refine q_toc (y := 1) (by decide) ?_
  refine va_put (D := (dC, dI)) (ci := 5) (v := .int 1) (ty := .int) (C := RX5) (T := TX5) (N := 17) hx hb hts (by decide +kernel) tyX5 tyX5_ok nmX5 hown hK hP hD hS 3 rfl rfl 6 (by decide) (hts (.fieldLink RX5 42 "WordGuestModel" "steps" "I") (by decide +kernel)) (fun _ h9 => h9) rfl (by decide +kernel) rfl rfl (Nat.le_of_ble_eq_true rfl) dX5_step_240 (fun H locs hP hD hS => ?_)
  have hP : va_P (dC, dI) vwCl [(mR, .inl (cG, 8, .inl g_32)), (mB, .inl (cY, 4096, .inl (fun _ => 0))), (mN, .inl (cN, 8, .inl nw2_12)), (m0, .inr (5, [.int 0, .ref mB, .ref mR, .int 0, .ref mO, .int 0, .int 1, .ref mN, .int 0, .int 0, .int 0, .int 0, .int 0, .int 1, .int 0, .int 0, .int 0]))] H := hP
  have hD : va_D A [(mR, .inl (cG, 8, .inl g_32)), (mB, .inl (cY, 4096, .inl (fun _ => 0))), (mN, .inl (cN, 8, .inl nw2_12)), (m0, .inr (5, [.int 0, .ref mB, .ref mR, .int 0, .ref mO, .int 0, .int 1, .ref mN, .int 0, .int 0, .int 0, .int 0, .int 0, .int 1, .int 0, .int 0, .int 0]))] := hD
  have hP9 := hP.sub (ws' := [(m0, .inr (5, [.int 0, .ref mB, .ref mR, .int 0, .ref mO, .int 0, .int 1, .ref mN, .int 0, .int 0, .int 0, .int 0, .int 0, .int 1, .int 0, .int 0, .int 0])), (mB, .inl (cY, 4096, .inl (fun _ => 0))), (mR, .inl (cG, 8, .inl g_32)), (mN, .inl (cN, 8, .inl nw2_12))]) [3, 1, 0, 2] rfl
  have hD9 := hD.sub (ws' := [(m0, .inr (5, [.int 0, .ref mB, .ref mR, .int 0, .ref mO, .int 0, .int 1, .ref mN, .int 0, .int 0, .int 0, .int 0, .int 0, .int 1, .int 0, .int 0, .int 0])), (mB, .inl (cY, 4096, .inl (fun _ => 0))), (mR, .inl (cG, 8, .inl g_32)), (mN, .inl (cN, 8, .inl nw2_12))]) [3, 1, 0, 2] (by decide) rfl
  have hK9 := hK.sub (tys' := [(cY, .int), (cG, .int), (cN, .int)]) [0, 1, 2] rfl
  exact W.vret hx hb hr (fun t ht hW => ⟨⟨(g_32, nw2_12), rfl, trivial, by rw [ht]; exact hP9, va_K.moved hW.alike hK9, hD9⟩, hS.F ht⟩) hS.2.2 dX5_step_243
set_option maxHeartbeats 4000000 in
set_option maxRecDepth 100000 in
theorem c_X5_run0 (l : Launch) (dC : Nat → ClassId) (dI : Nat → Nat → Nat) (sz : Nat) (m0 : Nat) (mB : Nat) (mR : Nat) (mO : Nat) (mN : Nat) (cY : ClassId) (cG : ClassId) (cN : ClassId) (n : Int32)  : Met l yX5_run wsX5_run ({ frames := 4, cells := 0, slots := 0, locals := 86 }) (va_Pc [.ref m0, .int n] (q_pre dC dI sz [(m0, .inr (5, [.int 0, .ref mB, .ref mR, .int 0, .ref mO, .int 0, .int 0, .ref mN, .int 0, .int 0, .int 0, .int 0, .int 0, .int 0, .int 0, .int 0, .int 0])), (mB, .inl (cY, 4096, .inl (fun _ => 0))), (mR, .inl (cG, 8, .inl (fun _ => 0))), (mN, .inl (cN, 8, .inl (fun _ => 0)))] [(cY, .int), (cG, .int), (cN, .int)])) (va_Qi (fun (r : Int32) (u9 : Int32 × Int32 × Int32 × (Nat → Int32) × (Nat → Int32)) => (¬ (n < 0 ∨ 5000 < n) ∧ u9.1 = 0 ∧ r = (if n ≤ 0 then 0 else 1)) ∨ ((n < 0 ∨ 5000 < n) ∧ u9.1 = 1)) (q_at dC dI (va_A [(m0, .inr (5, [.int 0, .ref mB, .ref mR, .int 0, .ref mO, .int 0, .int 0, .ref mN, .int 0, .int 0, .int 0, .int 0, .int 0, .int 0, .int 0, .int 0, .int 0])), (mB, .inl (cY, 4096, .inl (fun _ => 0))), (mR, .inl (cG, 8, .inl (fun _ => 0))), (mN, .inl (cN, 8, .inl (fun _ => 0)))] sz) (fun (u9 : Int32 × Int32 × Int32 × (Nat → Int32) × (Nat → Int32)) => [(cY, .int), (cG, .int), (cN, .int)]) (fun (u9 : Int32 × Int32 × Int32 × (Nat → Int32) × (Nat → Int32)) => [(m0, .inr (5, [.int u9.1, .ref mB, .ref mR, .int 0, .ref mO, .int 0, .int u9.2.2.1, .ref mN, .int 0, .int 0, .int 0, .int 0, .int 0, .int u9.2.1, .int 0, .int 0, .int 0])), (mB, .inl (cY, 4096, .inl (fun _ => 0))), (mR, .inl (cG, 8, .inl u9.2.2.2.1)), (mN, .inl (cN, 8, .inl u9.2.2.2.2))])) (va_A [(m0, .inr (5, [.int 0, .ref mB, .ref mR, .int 0, .ref mO, .int 0, .int 0, .ref mN, .int 0, .int 0, .int 0, .int 0, .int 0, .int 0, .int 0, .int 0, .int 0])), (mB, .inl (cY, 4096, .inl (fun _ => 0))), (mR, .inl (cG, 8, .inl (fun _ => 0))), (mN, .inl (cN, 8, .inl (fun _ => 0)))] sz)) 0 0 (va_A [(m0, .inr (5, [.int 0, .ref mB, .ref mR, .int 0, .ref mO, .int 0, .int 0, .ref mN, .int 0, .int 0, .int 0, .int 0, .int 0, .int 0, .int 0, .int 0, .int 0])), (mB, .inl (cY, 4096, .inl (fun _ => 0))), (mR, .inl (cG, 8, .inl (fun _ => 0))), (mN, .inl (cN, 8, .inl (fun _ => 0)))] sz) := by
  refine Met.ofW (cc := cX5_run) (maxL := 3) (ret := (some .int)) (by decide) rfl ?_
  intro p e s m args below meth c s₁ B hml hv
  obtain ⟨rfl, hsz, hP, hK, hD0, hN⟩ := hv
  have hx := B.exec
  have hb := B.bytes
  have hr := B.returns
  have hts := atoms_spec (ws := wsX5_run) B.pre
  have hown : s.vm.findClass RX5 = some m.cls := findClass_of_methodNamed B.named
  have hlocks := B.notSynchronized
  subst hsz
  have hD := hD0.self (sz := s.heap.size)
  generalize hAe : va_A [(m0, .inr (5, [.int 0, .ref mB, .ref mR, .int 0, .ref mO, .int 0, .int 0, .ref mN, .int 0, .int 0, .int 0, .int 0, .int 0, .int 0, .int 0, .int 0, .int 0])), (mB, .inl (cY, 4096, .inl (fun _ => 0))), (mR, .inl (cG, 8, .inl (fun _ => 0))), (mN, .inl (cN, 8, .inl (fun _ => 0)))] s.heap.size = A at hD ⊢
  have hA : ∀ q : Nat, s.heap.size ≤ q → A q := fun q h => by rw [← hAe]; exact Or.inr h
  have hS : va_S A s.heap s.heap [] := va_S.rf
  have hP : va_P (dC, dI) vwCl [(m0, .inr (5, [.int 0, .ref mB, .ref mR, .int 0, .ref mO, .int 0, .int 0, .ref mN, .int 0, .int 0, .int 0, .int 0, .int 0, .int 0, .int 0, .int 0, .int 0])), (mB, .inl (cY, 4096, .inl (fun _ => 0))), (mR, .inl (cG, 8, .inl (fun _ => 0))), (mN, .inl (cN, 8, .inl (fun _ => 0)))] s.heap := hP
  have hl := lv_entry ([.ref m0, .int n]) (n := 3) (Nat.le_of_ble_eq_true rfl)
  rw [lg_entry_eq]
  generalize (lg_sl ([.ref m0, .int n]) ++ List.replicate (3 - (lg_sl ([.ref m0, .int n])).length) Slot.unset).toArray = ls at hl ⊢
  have hl : lv_has ls 3 [(0, .ref m0), (1, .int n)] := hl
  refine lv_aload_n hx hb dX5_run_0 rfl (lv_at hl 0 rfl) ?_
  refine lv_iload_n hx hb dX5_run_1 rfl (lv_at hl 1 rfl) ?_
  refine lv_if_lt (tgt := 12) hx hb dX5_run_2 (by decide) (fun c_1 => ?_) (fun c_1 => ?_)
  · refine lv_iconst (v := 1) hx hb dX5_run_12 (by decide) ?_
    refine lv_goto (tgt := 17) hx hb dX5_run_13 (by decide) ?_
    refine va_put (D := (dC, dI)) (ci := 5) (v := .int 1) (ty := .int) (C := RX5) (T := TX5) (N := 17) hx hb hts (by decide +kernel) tyX5 tyX5_ok nmX5 hown hK hP hD hS 0 rfl rfl 0 (by decide) (hts (.fieldLink RX5 22 "WordGuestModel" "thrown" "I") (by decide +kernel)) (fun _ h9 => h9) rfl (by decide +kernel) rfl rfl (Nat.le_of_ble_eq_true rfl) dX5_run_17 (fun H locs hP hD hS => ?_)
    have hP : va_P (dC, dI) vwCl [(m0, .inr (5, [.int 1, .ref mB, .ref mR, .int 0, .ref mO, .int 0, .int 0, .ref mN, .int 0, .int 0, .int 0, .int 0, .int 0, .int 0, .int 0, .int 0, .int 0])), (mB, .inl (cY, 4096, .inl (fun _ => 0))), (mR, .inl (cG, 8, .inl (fun _ => 0))), (mN, .inl (cN, 8, .inl (fun _ => 0)))] H := hP
    have hD : va_D A [(m0, .inr (5, [.int 1, .ref mB, .ref mR, .int 0, .ref mO, .int 0, .int 0, .ref mN, .int 0, .int 0, .int 0, .int 0, .int 0, .int 0, .int 0, .int 0, .int 0])), (mB, .inl (cY, 4096, .inl (fun _ => 0))), (mR, .inl (cG, 8, .inl (fun _ => 0))), (mN, .inl (cN, 8, .inl (fun _ => 0)))] := hD
    refine lv_aload_n hx hb dX5_run_20 rfl (lv_at hl 0 rfl) ?_
    refine va_get (D := (dC, dI)) (ci := 5) (v := .int 1) (C := RX5) (T := TX5) (N := 17) hx hb hts (by decide +kernel) hown hK hP 0 rfl rfl 0 (by decide) (hts (.fieldLink RX5 22 "WordGuestModel" "thrown" "I") (by decide +kernel)) (fun _ h9 => h9) rfl dX5_run_21 ?_
    refine lv_if_le (tgt := 29) hx hb dX5_run_24 (by decide) (fun c9 => absurd c9 (by decide)) (fun c_2 => ?_)
    refine lv_iconst (v := 0) hx hb dX5_run_27 (by decide) ?_
    have hP9 := hP.sub (ws' := [(m0, .inr (5, [.int 1, .ref mB, .ref mR, .int 0, .ref mO, .int 0, .int 0, .ref mN, .int 0, .int 0, .int 0, .int 0, .int 0, .int 0, .int 0, .int 0, .int 0])), (mB, .inl (cY, 4096, .inl (fun _ => 0))), (mR, .inl (cG, 8, .inl (fun _ => 0))), (mN, .inl (cN, 8, .inl (fun _ => 0)))]) [0, 1, 2, 3] rfl
    have hD9 := hD.sub (ws' := [(m0, .inr (5, [.int 1, .ref mB, .ref mR, .int 0, .ref mO, .int 0, .int 0, .ref mN, .int 0, .int 0, .int 0, .int 0, .int 0, .int 0, .int 0, .int 0, .int 0])), (mB, .inl (cY, 4096, .inl (fun _ => 0))), (mR, .inl (cG, 8, .inl (fun _ => 0))), (mN, .inl (cN, 8, .inl (fun _ => 0)))]) [0, 1, 2, 3] (by decide) rfl
    have hK9 := hK.sub (tys' := [(cY, .int), (cG, .int), (cN, .int)]) [0, 1, 2] rfl
    exact W.iret (v := 0) hx hb hr (fun t ht hW => ⟨⟨0, (1, 0, 0, (fun _ => 0), (fun _ => 0)), rfl, Or.inr ⟨Or.inl c_1, rfl⟩, by rw [ht]; exact hP9, va_K.moved hW.alike hK9, hD9⟩, hS.F ht⟩) hS.2.2 dX5_run_28
  · refine lv_iload_n hx hb dX5_run_5 rfl (lv_at hl 1 rfl) ?_
    refine lv_sipush (v := 5000) hx hb dX5_run_6 (by decide) ?_
    refine lv_icmp_le (tgt := 16) hx hb dX5_run_9 (by decide) (fun c_3 => ?_) (fun c_3 => ?_)
    · refine lv_iconst (v := 0) hx hb dX5_run_16 (by decide) ?_
      refine va_put (D := (dC, dI)) (ci := 5) (v := .int 0) (ty := .int) (C := RX5) (T := TX5) (N := 17) hx hb hts (by decide +kernel) tyX5 tyX5_ok nmX5 hown hK hP hD hS 0 rfl rfl 0 (by decide) (hts (.fieldLink RX5 22 "WordGuestModel" "thrown" "I") (by decide +kernel)) (fun _ h9 => h9) rfl (by decide +kernel) rfl rfl (Nat.le_of_ble_eq_true rfl) dX5_run_17 (fun H locs hP hD hS => ?_)
      have hP : va_P (dC, dI) vwCl [(m0, .inr (5, [.int 0, .ref mB, .ref mR, .int 0, .ref mO, .int 0, .int 0, .ref mN, .int 0, .int 0, .int 0, .int 0, .int 0, .int 0, .int 0, .int 0, .int 0])), (mB, .inl (cY, 4096, .inl (fun _ => 0))), (mR, .inl (cG, 8, .inl (fun _ => 0))), (mN, .inl (cN, 8, .inl (fun _ => 0)))] H := hP
      have hD : va_D A [(m0, .inr (5, [.int 0, .ref mB, .ref mR, .int 0, .ref mO, .int 0, .int 0, .ref mN, .int 0, .int 0, .int 0, .int 0, .int 0, .int 0, .int 0, .int 0, .int 0])), (mB, .inl (cY, 4096, .inl (fun _ => 0))), (mR, .inl (cG, 8, .inl (fun _ => 0))), (mN, .inl (cN, 8, .inl (fun _ => 0)))] := hD
      refine lv_aload_n hx hb dX5_run_20 rfl (lv_at hl 0 rfl) ?_
      refine va_get (D := (dC, dI)) (ci := 5) (v := .int 0) (C := RX5) (T := TX5) (N := 17) hx hb hts (by decide +kernel) hown hK hP 0 rfl rfl 0 (by decide) (hts (.fieldLink RX5 22 "WordGuestModel" "thrown" "I") (by decide +kernel)) (fun _ h9 => h9) rfl dX5_run_21 ?_
      refine lv_if_le (tgt := 29) hx hb dX5_run_24 (by decide) (fun c_4 => ?_) (fun c9 => absurd (by decide) c9)
      refine lv_aload_n hx hb dX5_run_29 rfl (lv_at hl 0 rfl) ?_
      refine lv_iconst (v := 0) hx hb dX5_run_30 (by decide) ?_
      refine va_put (D := (dC, dI)) (ci := 5) (v := .int 0) (ty := .int) (C := RX5) (T := TX5) (N := 17) hx hb hts (by decide +kernel) tyX5 tyX5_ok nmX5 hown hK hP hD hS 0 rfl rfl 6 (by decide) (hts (.fieldLink RX5 42 "WordGuestModel" "steps" "I") (by decide +kernel)) (fun _ h9 => h9) rfl (by decide +kernel) rfl rfl (Nat.le_of_ble_eq_true rfl) dX5_run_31 (fun H locs hP hD hS => ?_)
      have hP : va_P (dC, dI) vwCl [(m0, .inr (5, [.int 0, .ref mB, .ref mR, .int 0, .ref mO, .int 0, .int 0, .ref mN, .int 0, .int 0, .int 0, .int 0, .int 0, .int 0, .int 0, .int 0, .int 0])), (mB, .inl (cY, 4096, .inl (fun _ => 0))), (mR, .inl (cG, 8, .inl (fun _ => 0))), (mN, .inl (cN, 8, .inl (fun _ => 0)))] H := hP
      have hD : va_D A [(m0, .inr (5, [.int 0, .ref mB, .ref mR, .int 0, .ref mO, .int 0, .int 0, .ref mN, .int 0, .int 0, .int 0, .int 0, .int 0, .int 0, .int 0, .int 0, .int 0])), (mB, .inl (cY, 4096, .inl (fun _ => 0))), (mR, .inl (cG, 8, .inl (fun _ => 0))), (mN, .inl (cN, 8, .inl (fun _ => 0)))] := hD
      refine lv_iconst (v := 0) hx hb dX5_run_34 (by decide) ?_
      refine lv_istore_n (lv' := [(2, .int 0), (0, .ref m0), (1, .int n)]) hx hb dX5_run_35 rfl hl (by decide) rfl (fun ls hl => ?_)
      refine lv_iload_n hx hb dX5_run_36 rfl (lv_at hl 0 rfl) ?_
      refine lv_iload_n hx hb dX5_run_37 rfl (lv_at hl 2 rfl) ?_
      refine lv_icmp_ge (tgt := 72) hx hb dX5_run_38 (by decide) (fun c_5 => ?_) (fun c_5 => ?_)
      · refine lv_iconst (v := 0) hx hb dX5_run_72 (by decide) ?_
        have hP9 := hP.sub (ws' := [(m0, .inr (5, [.int 0, .ref mB, .ref mR, .int 0, .ref mO, .int 0, .int 0, .ref mN, .int 0, .int 0, .int 0, .int 0, .int 0, .int 0, .int 0, .int 0, .int 0])), (mB, .inl (cY, 4096, .inl (fun _ => 0))), (mR, .inl (cG, 8, .inl (fun _ => 0))), (mN, .inl (cN, 8, .inl (fun _ => 0)))]) [0, 1, 2, 3] rfl
        have hD9 := hD.sub (ws' := [(m0, .inr (5, [.int 0, .ref mB, .ref mR, .int 0, .ref mO, .int 0, .int 0, .ref mN, .int 0, .int 0, .int 0, .int 0, .int 0, .int 0, .int 0, .int 0, .int 0])), (mB, .inl (cY, 4096, .inl (fun _ => 0))), (mR, .inl (cG, 8, .inl (fun _ => 0))), (mN, .inl (cN, 8, .inl (fun _ => 0)))]) [0, 1, 2, 3] (by decide) rfl
        have hK9 := hK.sub (tys' := [(cY, .int), (cG, .int), (cN, .int)]) [0, 1, 2] rfl
        exact W.iret (v := 0) hx hb hr (fun t ht hW => ⟨⟨0, (0, 0, 0, (fun _ => 0), (fun _ => 0)), rfl, Or.inl ⟨(fun h => h.elim c_1 (fun h => absurd c_3 (Int32.not_le.mpr h))), rfl, by rw [if_pos c_5]⟩, by rw [ht]; exact hP9, va_K.moved hW.alike hK9, hD9⟩, hS.F ht⟩) hS.2.2 dX5_run_73
      · refine lv_aload_n hx hb dX5_run_41 rfl (lv_at hl 1 rfl) ?_
        have hPc := hP.sub (ws' := [(m0, .inr (5, [.int 0, .ref mB, .ref mR, .int 0, .ref mO, .int 0, .int 0, .ref mN, .int 0, .int 0, .int 0, .int 0, .int 0, .int 0, .int 0, .int 0, .int 0])), (mB, .inl (cY, 4096, .inl (fun _ => 0))), (mR, .inl (cG, 8, .inl (fun _ => 0))), (mN, .inl (cN, 8, .inl (fun _ => 0)))]) [0, 1, 2, 3] rfl
        have hDc := hD.sub (ws' := [(m0, .inr (5, [.int 0, .ref mB, .ref mR, .int 0, .ref mO, .int 0, .int 0, .ref mN, .int 0, .int 0, .int 0, .int 0, .int 0, .int 0, .int 0, .int 0, .int 0])), (mB, .inl (cY, 4096, .inl (fun _ => 0))), (mR, .inl (cG, 8, .inl (fun _ => 0))), (mN, .inl (cN, 8, .inl (fun _ => 0)))]) [0, 1, 2, 3] (by decide) rfl
        have hKc := hK.sub (tys' := [(cY, .int), (cG, .int), (cN, .int)]) [0, 1, 2] rfl
        have hFc := va_free (wc := [(m0, .inr (5, [.int 0, .ref mB, .ref mR, .int 0, .ref mO, .int 0, .int 0, .ref mN, .int 0, .int 0, .int 0, .int 0, .int 0, .int 0, .int 0, .int 0, .int 0])), (mB, .inl (cY, 4096, .inl (fun _ => 0))), (mR, .inl (cG, 8, .inl (fun _ => 0))), (mN, .inl (cN, 8, .inl (fun _ => 0)))]) hD hS hA [0, 1, 2, 3] rfl
        refine va_callv (va_runV (C := RX5) (b := m0) (As := []) (rest := []) ⟨hx, hb, hml, hown, hts⟩ (c_X5_step0 l dC dI H.size m0 mB mR mO mN cY cG cN) (cwV 0 hts gX5_run_X5_step rfl rfl rfl (by decide +kernel) ⟨Nat.le_of_ble_eq_true rfl, Nat.le_of_ble_eq_true rfl⟩) ⟨q_blind, va_recv hK hP (ci := 5) (q0 := 0) rfl rfl, fun U hU hW => ⟨rfl, q_pay hU hW hPc hKc hDc hN⟩⟩ rfl rfl hl.1 rfl (lv_room (Nat.le_of_ble_eq_true rfl)) dX5_run_42 ⟨show 0 + 0 ≤ 0 from by omega, show 0 + 0 ≤ 0 from by omega⟩) hS (fun q _ h => hFc q h) hFc (fun u9 t H locs ht hvm hw_7 hB hz1 hk1 hS => ?_)
        obtain ⟨rf2_8, nw2_9⟩ := u9
        obtain ⟨hP1, hK1, hD1⟩ := hB
        rw [ht] at hP1
        obtain ⟨hP, hD⟩ := va_join (wr := []) (w1 := [(m0, .inr (5, [.int 0, .ref mB, .ref mR, .int 0, .ref mO, .int 0, .int 1, .ref mN, .int 0, .int 0, .int 0, .int 0, .int 0, .int 1, .int 0, .int 0, .int 0])), (mB, .inl (cY, 4096, .inl (fun _ => 0))), (mR, .inl (cG, 8, .inl rf2_8)), (mN, .inl (cN, 8, .inl nw2_9))]) hP hD [0, 1, 2, 3] [] rfl rfl (by decide) (by decide) hk1 hFc hP1 hD1
        have hP : va_P (dC, dI) vwCl [(m0, .inr (5, [.int 0, .ref mB, .ref mR, .int 0, .ref mO, .int 0, .int 1, .ref mN, .int 0, .int 0, .int 0, .int 0, .int 0, .int 1, .int 0, .int 0, .int 0])), (mB, .inl (cY, 4096, .inl (fun _ => 0))), (mR, .inl (cG, 8, .inl rf2_8)), (mN, .inl (cN, 8, .inl nw2_9))] H := hP
        have hD : va_D A [(m0, .inr (5, [.int 0, .ref mB, .ref mR, .int 0, .ref mO, .int 0, .int 1, .ref mN, .int 0, .int 0, .int 0, .int 0, .int 0, .int 1, .int 0, .int 0, .int 0])), (mB, .inl (cY, 4096, .inl (fun _ => 0))), (mR, .inl (cG, 8, .inl rf2_8)), (mN, .inl (cN, 8, .inl nw2_9))] := hD
        refine W.widen (k := 0) (n := 0) (by omega) (by omega) ?_
        try dsimp only at hw_7
        refine lv_aload_n hx hb dX5_run_45 rfl (lv_at hl 1 rfl) ?_
        refine va_get (D := (dC, dI)) (ci := 5) (v := .int 0) (C := RX5) (T := TX5) (N := 17) hx hb hts (by decide +kernel) hown hK hP 0 rfl rfl 12 (by decide) (hts (.fieldLink RX5 48 "WordGuestModel" "fault" "I") (by decide +kernel)) (fun _ h9 => h9) rfl dX5_run_46 ?_
        refine lv_if_le (tgt := 57) hx hb dX5_run_49 (by decide) (fun c_10 => ?_) (fun c9 => absurd (by decide) c9)
        refine lv_aload_n hx hb dX5_run_57 rfl (lv_at hl 1 rfl) ?_
        refine va_get (D := (dC, dI)) (ci := 5) (v := .int 1) (C := RX5) (T := TX5) (N := 17) hx hb hts (by decide +kernel) hown hK hP 0 rfl rfl 13 (by decide) (hts (.fieldLink RX5 143 "WordGuestModel" "halt" "Z") (by decide +kernel)) (fun _ h9 => h9) rfl dX5_run_58 ?_
        refine lv_if_eq (tgt := 66) hx hb dX5_run_61 (by decide) (fun c9 => absurd c9 (by decide)) (fun c_11 => ?_)
        refine lv_iconst (v := 1) hx hb dX5_run_64 (by decide) ?_
        have hP9 := hP.sub (ws' := [(m0, .inr (5, [.int 0, .ref mB, .ref mR, .int 0, .ref mO, .int 0, .int 1, .ref mN, .int 0, .int 0, .int 0, .int 0, .int 0, .int 1, .int 0, .int 0, .int 0])), (mB, .inl (cY, 4096, .inl (fun _ => 0))), (mR, .inl (cG, 8, .inl rf2_8)), (mN, .inl (cN, 8, .inl nw2_9))]) [0, 1, 2, 3] rfl
        have hD9 := hD.sub (ws' := [(m0, .inr (5, [.int 0, .ref mB, .ref mR, .int 0, .ref mO, .int 0, .int 1, .ref mN, .int 0, .int 0, .int 0, .int 0, .int 0, .int 1, .int 0, .int 0, .int 0])), (mB, .inl (cY, 4096, .inl (fun _ => 0))), (mR, .inl (cG, 8, .inl rf2_8)), (mN, .inl (cN, 8, .inl nw2_9))]) [0, 1, 2, 3] (by decide) rfl
        have hK9 := hK.sub (tys' := [(cY, .int), (cG, .int), (cN, .int)]) [0, 1, 2] rfl
        exact W.iret (v := 1) hx hb hr (fun t ht hW => ⟨⟨1, (0, 1, 1, rf2_8, nw2_9), rfl, Or.inl ⟨(fun h => h.elim c_1 (fun h => absurd c_3 (Int32.not_le.mpr h))), rfl, by rw [if_neg c_5]⟩, by rw [ht]; exact hP9, va_K.moved hW.alike hK9, hD9⟩, hS.F ht⟩) hS.2.2 dX5_run_65
    · refine lv_iconst (v := 1) hx hb dX5_run_12 (by decide) ?_
      refine lv_goto (tgt := 17) hx hb dX5_run_13 (by decide) ?_
      refine va_put (D := (dC, dI)) (ci := 5) (v := .int 1) (ty := .int) (C := RX5) (T := TX5) (N := 17) hx hb hts (by decide +kernel) tyX5 tyX5_ok nmX5 hown hK hP hD hS 0 rfl rfl 0 (by decide) (hts (.fieldLink RX5 22 "WordGuestModel" "thrown" "I") (by decide +kernel)) (fun _ h9 => h9) rfl (by decide +kernel) rfl rfl (Nat.le_of_ble_eq_true rfl) dX5_run_17 (fun H locs hP hD hS => ?_)
      have hP : va_P (dC, dI) vwCl [(m0, .inr (5, [.int 1, .ref mB, .ref mR, .int 0, .ref mO, .int 0, .int 0, .ref mN, .int 0, .int 0, .int 0, .int 0, .int 0, .int 0, .int 0, .int 0, .int 0])), (mB, .inl (cY, 4096, .inl (fun _ => 0))), (mR, .inl (cG, 8, .inl (fun _ => 0))), (mN, .inl (cN, 8, .inl (fun _ => 0)))] H := hP
      have hD : va_D A [(m0, .inr (5, [.int 1, .ref mB, .ref mR, .int 0, .ref mO, .int 0, .int 0, .ref mN, .int 0, .int 0, .int 0, .int 0, .int 0, .int 0, .int 0, .int 0, .int 0])), (mB, .inl (cY, 4096, .inl (fun _ => 0))), (mR, .inl (cG, 8, .inl (fun _ => 0))), (mN, .inl (cN, 8, .inl (fun _ => 0)))] := hD
      refine lv_aload_n hx hb dX5_run_20 rfl (lv_at hl 0 rfl) ?_
      refine va_get (D := (dC, dI)) (ci := 5) (v := .int 1) (C := RX5) (T := TX5) (N := 17) hx hb hts (by decide +kernel) hown hK hP 0 rfl rfl 0 (by decide) (hts (.fieldLink RX5 22 "WordGuestModel" "thrown" "I") (by decide +kernel)) (fun _ h9 => h9) rfl dX5_run_21 ?_
      refine lv_if_le (tgt := 29) hx hb dX5_run_24 (by decide) (fun c9 => absurd c9 (by decide)) (fun c_12 => ?_)
      refine lv_iconst (v := 0) hx hb dX5_run_27 (by decide) ?_
      have hP9 := hP.sub (ws' := [(m0, .inr (5, [.int 1, .ref mB, .ref mR, .int 0, .ref mO, .int 0, .int 0, .ref mN, .int 0, .int 0, .int 0, .int 0, .int 0, .int 0, .int 0, .int 0, .int 0])), (mB, .inl (cY, 4096, .inl (fun _ => 0))), (mR, .inl (cG, 8, .inl (fun _ => 0))), (mN, .inl (cN, 8, .inl (fun _ => 0)))]) [0, 1, 2, 3] rfl
      have hD9 := hD.sub (ws' := [(m0, .inr (5, [.int 1, .ref mB, .ref mR, .int 0, .ref mO, .int 0, .int 0, .ref mN, .int 0, .int 0, .int 0, .int 0, .int 0, .int 0, .int 0, .int 0, .int 0])), (mB, .inl (cY, 4096, .inl (fun _ => 0))), (mR, .inl (cG, 8, .inl (fun _ => 0))), (mN, .inl (cN, 8, .inl (fun _ => 0)))]) [0, 1, 2, 3] (by decide) rfl
      have hK9 := hK.sub (tys' := [(cY, .int), (cG, .int), (cN, .int)]) [0, 1, 2] rfl
      exact W.iret (v := 0) hx hb hr (fun t ht hW => ⟨⟨0, (1, 0, 0, (fun _ => 0), (fun _ => 0)), rfl, Or.inr ⟨Or.inr (Int32.not_le.mp c_3), rfl⟩, by rw [ht]; exact hP9, va_K.moved hW.alike hK9, hD9⟩, hS.F ht⟩) hS.2.2 dX5_run_28
set_option maxHeartbeats 4000000 in
set_option maxRecDepth 100000 in
theorem c_X5_clear (l : Launch) (dC : Nat → ClassId) (dI : Nat → Nat → Nat) (sz : Nat) (m0 : Nat) (mB : Nat) (mR : Nat) (mO : Nat) (mN : Nat) (cY : ClassId) (bf : Nat → Int32) (cG : ClassId) (rf : Nat → Int32)  : Met l yX5_clear wsX5_clear ({ frames := 0, cells := 0, slots := 0, locals := 0 }) (va_Pc [.ref m0] (q_pre dC dI sz [(m0, .inr (5, [.int 0, .ref mB, .ref mR, .int 0, .ref mO, .int 0, .int 0, .ref mN, .int 0, .int 0, .int 0, .int 0, .int 0, .int 0, .int 0, .int 0, .int 0])), (mB, .inl (cY, 4096, .inl bf)), (mR, .inl (cG, 8, .inl rf))] [(cY, .int), (cG, .int)])) (va_Qv (fun (u9 : (Nat → Int32) × (Nat → Int32)) => True) (q_at dC dI (va_A [(m0, .inr (5, [.int 0, .ref mB, .ref mR, .int 0, .ref mO, .int 0, .int 0, .ref mN, .int 0, .int 0, .int 0, .int 0, .int 0, .int 0, .int 0, .int 0, .int 0])), (mB, .inl (cY, 4096, .inl bf)), (mR, .inl (cG, 8, .inl rf))] sz) (fun (u9 : (Nat → Int32) × (Nat → Int32)) => [(cY, .int), (cG, .int)]) (fun (u9 : (Nat → Int32) × (Nat → Int32)) => [(m0, .inr (5, [.int 0, .ref mB, .ref mR, .int 0, .ref mO, .int 0, .int 0, .ref mN, .int 0, .int 0, .int 0, .int 0, .int 0, .int 0, .int 0, .int 0, .int 0])), (mB, .inl (cY, 4096, .inl u9.1)), (mR, .inl (cG, 8, .inl u9.2))])) (va_A [(m0, .inr (5, [.int 0, .ref mB, .ref mR, .int 0, .ref mO, .int 0, .int 0, .ref mN, .int 0, .int 0, .int 0, .int 0, .int 0, .int 0, .int 0, .int 0, .int 0])), (mB, .inl (cY, 4096, .inl bf)), (mR, .inl (cG, 8, .inl rf))] sz)) 0 0 (va_A [(m0, .inr (5, [.int 0, .ref mB, .ref mR, .int 0, .ref mO, .int 0, .int 0, .ref mN, .int 0, .int 0, .int 0, .int 0, .int 0, .int 0, .int 0, .int 0, .int 0])), (mB, .inl (cY, 4096, .inl bf)), (mR, .inl (cG, 8, .inl rf))] sz) := by
  refine Met.ofW (cc := cX5_clear) (maxL := 2) (ret := none) (by decide) rfl ?_
  intro p e s m args below meth c s₁ B hml hv
  obtain ⟨rfl, hsz, hP, hK, hD0, hN⟩ := hv
  have hx := B.exec
  have hb := B.bytes
  have hr := B.returns
  have hts := atoms_spec (ws := wsX5_clear) B.pre
  have hown : s.vm.findClass RX5 = some m.cls := findClass_of_methodNamed B.named
  have hlocks := B.notSynchronized
  subst hsz
  have hD := hD0.self (sz := s.heap.size)
  generalize hAe : va_A [(m0, .inr (5, [.int 0, .ref mB, .ref mR, .int 0, .ref mO, .int 0, .int 0, .ref mN, .int 0, .int 0, .int 0, .int 0, .int 0, .int 0, .int 0, .int 0, .int 0])), (mB, .inl (cY, 4096, .inl bf)), (mR, .inl (cG, 8, .inl rf))] s.heap.size = A at hD ⊢
  have hA : ∀ q : Nat, s.heap.size ≤ q → A q := fun q h => by rw [← hAe]; exact Or.inr h
  have hS : va_S A s.heap s.heap [] := va_S.rf
  have hP : va_P (dC, dI) vwCl [(m0, .inr (5, [.int 0, .ref mB, .ref mR, .int 0, .ref mO, .int 0, .int 0, .ref mN, .int 0, .int 0, .int 0, .int 0, .int 0, .int 0, .int 0, .int 0, .int 0])), (mB, .inl (cY, 4096, .inl bf)), (mR, .inl (cG, 8, .inl rf))] s.heap := hP
  have hl := lv_entry ([.ref m0]) (n := 2) (Nat.le_of_ble_eq_true rfl)
  rw [lg_entry_eq]
  generalize (lg_sl ([.ref m0]) ++ List.replicate (2 - (lg_sl ([.ref m0])).length) Slot.unset).toArray = ls at hl ⊢
  have hl : lv_has ls 2 [(0, .ref m0)] := hl
  refine lv_aload_n hx hb dX5_clear_0 rfl (lv_at hl 0 rfl) ?_
  refine lv_iconst (v := 0) hx hb dX5_clear_1 (by decide) ?_
  refine va_put (D := (dC, dI)) (ci := 5) (v := .int 0) (ty := .int) (C := RX5) (T := TX5) (N := 17) hx hb hts (by decide +kernel) tyX5 tyX5_ok nmX5 hown hK hP hD hS 0 rfl rfl 0 (by decide) (hts (.fieldLink RX5 22 "WordGuestModel" "thrown" "I") (by decide +kernel)) (fun _ h9 => h9) rfl (by decide +kernel) rfl rfl (Nat.le_of_ble_eq_true rfl) dX5_clear_2 (fun H locs hP hD hS => ?_)
  have hP : va_P (dC, dI) vwCl [(m0, .inr (5, [.int 0, .ref mB, .ref mR, .int 0, .ref mO, .int 0, .int 0, .ref mN, .int 0, .int 0, .int 0, .int 0, .int 0, .int 0, .int 0, .int 0, .int 0])), (mB, .inl (cY, 4096, .inl bf)), (mR, .inl (cG, 8, .inl rf))] H := hP
  have hD : va_D A [(m0, .inr (5, [.int 0, .ref mB, .ref mR, .int 0, .ref mO, .int 0, .int 0, .ref mN, .int 0, .int 0, .int 0, .int 0, .int 0, .int 0, .int 0, .int 0, .int 0])), (mB, .inl (cY, 4096, .inl bf)), (mR, .inl (cG, 8, .inl rf))] := hD
  refine lv_iconst (v := 0) hx hb dX5_clear_5 (by decide) ?_
  refine lv_istore_n (lv' := [(1, .int 0), (0, .ref m0)]) hx hb dX5_clear_6 rfl hl (by decide) rfl (fun ls hl => ?_)
  refine q_loop (fun n_3 H locs ls => ∃ (i_1 : Nat) (g_2 : Nat → Int32), i_1 + n_3 = 4096 ∧ va_P (dC, dI) vwCl [(m0, .inr (5, [.int 0, .ref mB, .ref mR, .int 0, .ref mO, .int 0, .int 0, .ref mN, .int 0, .int 0, .int 0, .int 0, .int 0, .int 0, .int 0, .int 0, .int 0])), (mB, .inl (cY, 4096, .inl g_2)), (mR, .inl (cG, 8, .inl rf))] H ∧ va_D A [(m0, .inr (5, [.int 0, .ref mB, .ref mR, .int 0, .ref mO, .int 0, .int 0, .ref mN, .int 0, .int 0, .int 0, .int 0, .int 0, .int 0, .int 0, .int 0, .int 0])), (mB, .inl (cY, 4096, .inl g_2)), (mR, .inl (cG, 8, .inl rf))] ∧ va_S A s.heap H locs ∧ lv_has ls 2 [(1, .int (nI i_1)), (0, .ref m0)]) 7 (fun H locs ls hJ => ?_) (fun n_3 ih H locs ls hJ => ?_) 4096 _ _ _ ⟨0, bf, Nat.zero_add _, hP, hD, hS, hl⟩
  · obtain ⟨i_1, g_2, he9, hP, hD, hS, hl⟩ := hJ
    have hi_4 : i_1 = 4096 := by omega
    refine lv_iload_n hx hb dX5_clear_7 rfl (lv_at hl 0 rfl) ?_
    refine lv_sipush (v := 4096) hx hb dX5_clear_8 (by decide) ?_
    refine lv_icmp_ge (tgt := 27) hx hb dX5_clear_11 (by decide) (fun c_5 => ?_) (fun c9 => absurd (by rw [hi_4]; exact Int32.le_refl _) c9)
    refine lv_iconst (v := 0) hx hb dX5_clear_27 (by decide) ?_
    refine lv_istore_n (lv' := [(1, .int 0), (0, .ref m0)]) hx hb dX5_clear_28 rfl hl (by decide) rfl (fun ls hl => ?_)
    refine q_loop (fun n_8 H locs ls => ∃ (i_6 : Nat) (g_7 : Nat → Int32), i_6 + n_8 = 8 ∧ va_P (dC, dI) vwCl [(m0, .inr (5, [.int 0, .ref mB, .ref mR, .int 0, .ref mO, .int 0, .int 0, .ref mN, .int 0, .int 0, .int 0, .int 0, .int 0, .int 0, .int 0, .int 0, .int 0])), (mB, .inl (cY, 4096, .inl g_2)), (mR, .inl (cG, 8, .inl g_7))] H ∧ va_D A [(m0, .inr (5, [.int 0, .ref mB, .ref mR, .int 0, .ref mO, .int 0, .int 0, .ref mN, .int 0, .int 0, .int 0, .int 0, .int 0, .int 0, .int 0, .int 0, .int 0])), (mB, .inl (cY, 4096, .inl g_2)), (mR, .inl (cG, 8, .inl g_7))] ∧ va_S A s.heap H locs ∧ lv_has ls 2 [(1, .int (nI i_6)), (0, .ref m0)]) 29 (fun H locs ls hJ => ?_) (fun n_8 ih H locs ls hJ => ?_) 8 _ _ _ ⟨0, rf, Nat.zero_add _, hP, hD, hS, hl⟩
    · obtain ⟨i_6, g_7, he9, hP, hD, hS, hl⟩ := hJ
      have hi_9 : i_6 = 8 := by omega
      refine lv_iload_n hx hb dX5_clear_29 rfl (lv_at hl 0 rfl) ?_
      refine lv_bipush (v := 8) hx hb dX5_clear_30 (by decide) ?_
      refine lv_icmp_ge (tgt := 48) hx hb dX5_clear_32 (by decide) (fun c_10 => ?_) (fun c9 => absurd (by rw [hi_9]; exact Int32.le_refl _) c9)
      refine lv_aload_n hx hb dX5_clear_48 rfl (lv_at hl 1 rfl) ?_
      refine lv_iconst (v := 0) hx hb dX5_clear_49 (by decide) ?_
      refine va_put (D := (dC, dI)) (ci := 5) (v := .int 0) (ty := .int) (C := RX5) (T := TX5) (N := 17) hx hb hts (by decide +kernel) tyX5 tyX5_ok nmX5 hown hK hP hD hS 0 rfl rfl 3 (by decide) (hts (.fieldLink RX5 39 "WordGuestModel" "flags" "I") (by decide +kernel)) (fun _ h9 => h9) rfl (by decide +kernel) rfl rfl (Nat.le_of_ble_eq_true rfl) dX5_clear_50 (fun H locs hP hD hS => ?_)
      have hP : va_P (dC, dI) vwCl [(m0, .inr (5, [.int 0, .ref mB, .ref mR, .int 0, .ref mO, .int 0, .int 0, .ref mN, .int 0, .int 0, .int 0, .int 0, .int 0, .int 0, .int 0, .int 0, .int 0])), (mB, .inl (cY, 4096, .inl g_2)), (mR, .inl (cG, 8, .inl g_7))] H := hP
      have hD : va_D A [(m0, .inr (5, [.int 0, .ref mB, .ref mR, .int 0, .ref mO, .int 0, .int 0, .ref mN, .int 0, .int 0, .int 0, .int 0, .int 0, .int 0, .int 0, .int 0, .int 0])), (mB, .inl (cY, 4096, .inl g_2)), (mR, .inl (cG, 8, .inl g_7))] := hD
      refine lv_aload_n hx hb dX5_clear_53 rfl (lv_at hl 1 rfl) ?_
      refine lv_iconst (v := 0) hx hb dX5_clear_54 (by decide) ?_
      refine va_put (D := (dC, dI)) (ci := 5) (v := .int 0) (ty := .int) (C := RX5) (T := TX5) (N := 17) hx hb hts (by decide +kernel) tyX5 tyX5_ok nmX5 hown hK hP hD hS 0 rfl rfl 5 (by decide) (hts (.fieldLink RX5 45 "WordGuestModel" "outCount" "I") (by decide +kernel)) (fun _ h9 => h9) rfl (by decide +kernel) rfl rfl (Nat.le_of_ble_eq_true rfl) dX5_clear_55 (fun H locs hP hD hS => ?_)
      have hP : va_P (dC, dI) vwCl [(m0, .inr (5, [.int 0, .ref mB, .ref mR, .int 0, .ref mO, .int 0, .int 0, .ref mN, .int 0, .int 0, .int 0, .int 0, .int 0, .int 0, .int 0, .int 0, .int 0])), (mB, .inl (cY, 4096, .inl g_2)), (mR, .inl (cG, 8, .inl g_7))] H := hP
      have hD : va_D A [(m0, .inr (5, [.int 0, .ref mB, .ref mR, .int 0, .ref mO, .int 0, .int 0, .ref mN, .int 0, .int 0, .int 0, .int 0, .int 0, .int 0, .int 0, .int 0, .int 0])), (mB, .inl (cY, 4096, .inl g_2)), (mR, .inl (cG, 8, .inl g_7))] := hD
      refine lv_aload_n hx hb dX5_clear_58 rfl (lv_at hl 1 rfl) ?_
      refine lv_iconst (v := 0) hx hb dX5_clear_59 (by decide) ?_
      refine va_put (D := (dC, dI)) (ci := 5) (v := .int 0) (ty := .int) (C := RX5) (T := TX5) (N := 17) hx hb hts (by decide +kernel) tyX5 tyX5_ok nmX5 hown hK hP hD hS 0 rfl rfl 6 (by decide) (hts (.fieldLink RX5 42 "WordGuestModel" "steps" "I") (by decide +kernel)) (fun _ h9 => h9) rfl (by decide +kernel) rfl rfl (Nat.le_of_ble_eq_true rfl) dX5_clear_60 (fun H locs hP hD hS => ?_)
      have hP : va_P (dC, dI) vwCl [(m0, .inr (5, [.int 0, .ref mB, .ref mR, .int 0, .ref mO, .int 0, .int 0, .ref mN, .int 0, .int 0, .int 0, .int 0, .int 0, .int 0, .int 0, .int 0, .int 0])), (mB, .inl (cY, 4096, .inl g_2)), (mR, .inl (cG, 8, .inl g_7))] H := hP
      have hD : va_D A [(m0, .inr (5, [.int 0, .ref mB, .ref mR, .int 0, .ref mO, .int 0, .int 0, .ref mN, .int 0, .int 0, .int 0, .int 0, .int 0, .int 0, .int 0, .int 0, .int 0])), (mB, .inl (cY, 4096, .inl g_2)), (mR, .inl (cG, 8, .inl g_7))] := hD
      have hP9 := hP.sub (ws' := [(m0, .inr (5, [.int 0, .ref mB, .ref mR, .int 0, .ref mO, .int 0, .int 0, .ref mN, .int 0, .int 0, .int 0, .int 0, .int 0, .int 0, .int 0, .int 0, .int 0])), (mB, .inl (cY, 4096, .inl g_2)), (mR, .inl (cG, 8, .inl g_7))]) [0, 1, 2] rfl
      have hD9 := hD.sub (ws' := [(m0, .inr (5, [.int 0, .ref mB, .ref mR, .int 0, .ref mO, .int 0, .int 0, .ref mN, .int 0, .int 0, .int 0, .int 0, .int 0, .int 0, .int 0, .int 0, .int 0])), (mB, .inl (cY, 4096, .inl g_2)), (mR, .inl (cG, 8, .inl g_7))]) [0, 1, 2] (by decide) rfl
      have hK9 := hK.sub (tys' := [(cY, .int), (cG, .int)]) [0, 1] rfl
      exact W.vret hx hb hr (fun t ht hW => ⟨⟨(g_2, g_7), rfl, trivial, by rw [ht]; exact hP9, va_K.moved hW.alike hK9, hD9⟩, hS.F ht⟩) hS.2.2 dX5_clear_63
    · obtain ⟨i_6, g_7, he9, hP, hD, hS, hl⟩ := hJ
      have hi_9 : i_6 < 8 := by omega
      refine lv_iload_n hx hb dX5_clear_29 rfl (lv_at hl 0 rfl) ?_
      refine lv_bipush (v := 8) hx hb dX5_clear_30 (by decide) ?_
      refine lv_icmp_ge (tgt := 48) hx hb dX5_clear_32 (by decide) (fun c9 => absurd c9 (nI_ge (b := 8) hi_9 (by decide))) (fun c_11 => ?_)
      refine lv_aload_n hx hb dX5_clear_35 rfl (lv_at hl 1 rfl) ?_
      refine va_get (D := (dC, dI)) (ci := 5) (v := .ref mR) (C := RX5) (T := TX5) (N := 17) hx hb hts (by decide +kernel) hown hK hP 0 rfl rfl 2 (by decide) (hts (.fieldLink RX5 13 "WordGuestModel" "registers" "[I") (by decide +kernel)) (fun _ h9 => h9) rfl dX5_clear_36 ?_
      refine lv_iload_n hx hb dX5_clear_39 rfl (lv_at hl 0 rfl) ?_
      refine lv_iconst (v := 0) hx hb dX5_clear_40 (by decide) ?_
      refine va_iast hx hb hK hP hD hS 2 1 rfl rfl (vp_in_nI hi_9 (by decide)) dX5_clear_41 (fun H locs hP hD hS => ?_)
      have hP : va_P (dC, dI) vwCl [(m0, .inr (5, [.int 0, .ref mB, .ref mR, .int 0, .ref mO, .int 0, .int 0, .ref mN, .int 0, .int 0, .int 0, .int 0, .int 0, .int 0, .int 0, .int 0, .int 0])), (mB, .inl (cY, 4096, .inl g_2)), (mR, .inl (cG, 8, .inl (upd g_7 (nI i_6).toNatClampNeg 0)))] H := hP
      have hD : va_D A [(m0, .inr (5, [.int 0, .ref mB, .ref mR, .int 0, .ref mO, .int 0, .int 0, .ref mN, .int 0, .int 0, .int 0, .int 0, .int 0, .int 0, .int 0, .int 0, .int 0])), (mB, .inl (cY, 4096, .inl g_2)), (mR, .inl (cG, 8, .inl (upd g_7 (nI i_6).toNatClampNeg 0)))] := hD
      refine lv_iinc (v := nI (i_6 + 1)) (lv' := [(1, .int (nI (i_6 + 1))), (0, .ref m0)]) hx hb dX5_clear_42 hl (k := 0) rfl (nI_1 i_6) (by decide) rfl (fun ls hl => ?_)
      refine lv_goto (tgt := 29) hx hb dX5_clear_45 (by decide) ?_
      exact ih _ _ _ ⟨i_6 + 1, _, by omega, hP, hD, hS, lv_sub hl [0, 1] rfl⟩
  · obtain ⟨i_1, g_2, he9, hP, hD, hS, hl⟩ := hJ
    have hi_4 : i_1 < 4096 := by omega
    refine lv_iload_n hx hb dX5_clear_7 rfl (lv_at hl 0 rfl) ?_
    refine lv_sipush (v := 4096) hx hb dX5_clear_8 (by decide) ?_
    refine lv_icmp_ge (tgt := 27) hx hb dX5_clear_11 (by decide) (fun c9 => absurd c9 (nI_ge (b := 4096) hi_4 (by decide))) (fun c_12 => ?_)
    refine lv_aload_n hx hb dX5_clear_14 rfl (lv_at hl 1 rfl) ?_
    refine va_get (D := (dC, dI)) (ci := 5) (v := .ref mB) (C := RX5) (T := TX5) (N := 17) hx hb hts (by decide +kernel) hown hK hP 0 rfl rfl 1 (by decide) (hts (.fieldLink RX5 7 "WordGuestModel" "bytes" "[I") (by decide +kernel)) (fun _ h9 => h9) rfl dX5_clear_15 ?_
    refine lv_iload_n hx hb dX5_clear_18 rfl (lv_at hl 0 rfl) ?_
    refine lv_iconst (v := 0) hx hb dX5_clear_19 (by decide) ?_
    refine va_iast hx hb hK hP hD hS 1 0 rfl rfl (vp_in_nI hi_4 (by decide)) dX5_clear_20 (fun H locs hP hD hS => ?_)
    have hP : va_P (dC, dI) vwCl [(m0, .inr (5, [.int 0, .ref mB, .ref mR, .int 0, .ref mO, .int 0, .int 0, .ref mN, .int 0, .int 0, .int 0, .int 0, .int 0, .int 0, .int 0, .int 0, .int 0])), (mB, .inl (cY, 4096, .inl (upd g_2 (nI i_1).toNatClampNeg 0))), (mR, .inl (cG, 8, .inl rf))] H := hP
    have hD : va_D A [(m0, .inr (5, [.int 0, .ref mB, .ref mR, .int 0, .ref mO, .int 0, .int 0, .ref mN, .int 0, .int 0, .int 0, .int 0, .int 0, .int 0, .int 0, .int 0, .int 0])), (mB, .inl (cY, 4096, .inl (upd g_2 (nI i_1).toNatClampNeg 0))), (mR, .inl (cG, 8, .inl rf))] := hD
    refine lv_iinc (v := nI (i_1 + 1)) (lv' := [(1, .int (nI (i_1 + 1))), (0, .ref m0)]) hx hb dX5_clear_21 hl (k := 0) rfl (nI_1 i_1) (by decide) rfl (fun ls hl => ?_)
    refine lv_goto (tgt := 7) hx hb dX5_clear_24 (by decide) ?_
    exact ih _ _ _ ⟨i_1 + 1, _, by omega, hP, hD, hS, lv_sub hl [0, 1] rfl⟩
