set_option maxHeartbeats 4000000 in
set_option maxRecDepth 100000 in
theorem s_X3_multiply (l : Launch) (dC : Nat → ClassId) (dI : Nat → Nat → Nat) (sz : Nat) (aP : Nat) (rr : Int32) (k : Int32) (aR : Nat) (aF : Nat) (aM : Nat) (aA : Nat) (aB : Nat) (fault : Int32) (cA : ClassId) (regs : Nat → Int32) (aW : Nat) (aT : Nat) (cnt : Int32) (cW : ClassId) (words : Nat → Int32) (cT : ClassId) (told : Nat → Int32) (fn : Int32) (fz : Int32) (fv : Int32) (fc : Int32) (h4 : ok4 cnt) (hr9 : vp_in rr 8) : Met l yX3_multiply wsX3_multiply ({ frames := 3, cells := 0, slots := 0, locals := 68 }) (va_Pc [.ref aP, .int rr, .int k] (q_pre dC dI sz [(aP, .inr (3, [.ref aR, .ref aF])), (aR, .inr (2, [.ref aM, .ref aA, .ref aB, .int fault])), (aA, .inl (cA, 8, .inl regs)), (aM, .inr (1, [.ref aW, .ref aT, .int cnt])), (aW, .inl (cW, 2048, .inl words)), (aT, .inl (cT, 400, .inl told)), (aF, .inr (0, [.int fn, .int fz, .int fv, .int fc]))] [(cA, .int), (cW, .int), (cT, .int)])) (va_Qv (fun (u9 : Int32 × (Nat → Int32) × Int32 × (Nat → Int32) × (Nat → Int32) × Int32 × Int32 × Int32 × Int32) => ok4 u9.2.2.1) (q_at dC dI (va_A [(aP, .inr (3, [.ref aR, .ref aF])), (aR, .inr (2, [.ref aM, .ref aA, .ref aB, .int fault])), (aA, .inl (cA, 8, .inl regs)), (aM, .inr (1, [.ref aW, .ref aT, .int cnt])), (aW, .inl (cW, 2048, .inl words)), (aT, .inl (cT, 400, .inl told)), (aF, .inr (0, [.int fn, .int fz, .int fv, .int fc]))] sz) (fun (u9 : Int32 × (Nat → Int32) × Int32 × (Nat → Int32) × (Nat → Int32) × Int32 × Int32 × Int32 × Int32) => [(cA, .int), (cW, .int), (cT, .int)]) (fun (u9 : Int32 × (Nat → Int32) × Int32 × (Nat → Int32) × (Nat → Int32) × Int32 × Int32 × Int32 × Int32) => [(aP, .inr (3, [.ref aR, .ref aF])), (aR, .inr (2, [.ref aM, .ref aA, .ref aB, .int u9.1])), (aA, .inl (cA, 8, .inl u9.2.1)), (aM, .inr (1, [.ref aW, .ref aT, .int u9.2.2.1])), (aW, .inl (cW, 2048, .inl u9.2.2.2.1)), (aT, .inl (cT, 400, .inl u9.2.2.2.2.1)), (aF, .inr (0, [.int u9.2.2.2.2.2.1, .int u9.2.2.2.2.2.2.1, .int u9.2.2.2.2.2.2.2.1, .int u9.2.2.2.2.2.2.2.2]))])) (va_A [(aP, .inr (3, [.ref aR, .ref aF])), (aR, .inr (2, [.ref aM, .ref aA, .ref aB, .int fault])), (aA, .inl (cA, 8, .inl regs)), (aM, .inr (1, [.ref aW, .ref aT, .int cnt])), (aW, .inl (cW, 2048, .inl words)), (aT, .inl (cT, 400, .inl told)), (aF, .inr (0, [.int fn, .int fz, .int fv, .int fc]))] sz)) 0 0 (va_A [(aP, .inr (3, [.ref aR, .ref aF])), (aR, .inr (2, [.ref aM, .ref aA, .ref aB, .int fault])), (aA, .inl (cA, 8, .inl regs)), (aM, .inr (1, [.ref aW, .ref aT, .int cnt])), (aW, .inl (cW, 2048, .inl words)), (aT, .inl (cT, 400, .inl told)), (aF, .inr (0, [.int fn, .int fz, .int fv, .int fc]))] sz) := by
  refine Met.ofW (cc := cX3_multiply) (maxL := 5) (ret := none) (by decide) rfl ?_
  intro p e s m args below meth c s₁ B hml hv
  obtain ⟨rfl, hsz, hP, hK, hD0, hN⟩ := hv
  have hx := B.exec
  have hb := B.bytes
  have hr := B.returns
  have hts := atoms_spec (ws := wsX3_multiply) B.pre
  have hown : s.vm.findClass RX3 = some m.cls := findClass_of_methodNamed B.named
  have hlocks := B.notSynchronized
  subst hsz
  have hD := hD0.self (sz := s.heap.size)
  generalize hAe : va_A [(aP, .inr (3, [.ref aR, .ref aF])), (aR, .inr (2, [.ref aM, .ref aA, .ref aB, .int fault])), (aA, .inl (cA, 8, .inl regs)), (aM, .inr (1, [.ref aW, .ref aT, .int cnt])), (aW, .inl (cW, 2048, .inl words)), (aT, .inl (cT, 400, .inl told)), (aF, .inr (0, [.int fn, .int fz, .int fv, .int fc]))] s.heap.size = A at hD ⊢
  have hA : ∀ q : Nat, s.heap.size ≤ q → A q := fun q h => by rw [← hAe]; exact Or.inr h
  have hS : va_S A s.heap s.heap [] := va_S.rf
  have hP : va_P (dC, dI) vwCl [(aP, .inr (3, [.ref aR, .ref aF])), (aR, .inr (2, [.ref aM, .ref aA, .ref aB, .int fault])), (aA, .inl (cA, 8, .inl regs)), (aM, .inr (1, [.ref aW, .ref aT, .int cnt])), (aW, .inl (cW, 2048, .inl words)), (aT, .inl (cT, 400, .inl told)), (aF, .inr (0, [.int fn, .int fz, .int fv, .int fc]))] s.heap := hP
  have hl := lv_entry ([.ref aP, .int rr, .int k]) (n := 5) (Nat.le_of_ble_eq_true rfl)
  rw [lg_entry_eq]
  generalize (lg_sl ([.ref aP, .int rr, .int k]) ++ List.replicate (5 - (lg_sl ([.ref aP, .int rr, .int k])).length) Slot.unset).toArray = ls at hl ⊢
  have hl : lv_has ls 5 [(0, .ref aP), (1, .int rr), (2, .int k)] := hl
  refine lv_aload_n hx hb dX3_multiply_0 rfl (lv_at hl 0 rfl) ?_
  refine va_get (D := (dC, dI)) (ci := 3) (v := .ref aR) (C := RX3) (T := TX3) (N := 2) hx hb hts (by decide +kernel) hown hK hP 0 rfl rfl 0 (by decide) (hts (.fieldLink RX3 23 "WordGuest$Processor" "parts" "LWordGuest$Parts;") (by decide +kernel)) (fun _ h9 => h9) rfl dX3_multiply_1 ?_
  refine lv_aload_n hx hb dX3_multiply_4 rfl (lv_at hl 0 rfl) ?_
  refine va_get (D := (dC, dI)) (ci := 3) (v := .ref aR) (C := RX3) (T := TX3) (N := 2) hx hb hts (by decide +kernel) hown hK hP 0 rfl rfl 0 (by decide) (hts (.fieldLink RX3 23 "WordGuest$Processor" "parts" "LWordGuest$Parts;") (by decide +kernel)) (fun _ h9 => h9) rfl dX3_multiply_5 ?_
  refine lv_iload_n hx hb dX3_multiply_8 rfl (lv_at hl 2 rfl) ?_
  refine lv_ldc (v := 65535) hx hb hown (hts (.constant RX3 69 (65535)) (by decide +kernel)) dX3_multiply_9 ?_
  have hPc := hP.sub (ws' := [(aR, .inr (2, [.ref aM, .ref aA, .ref aB, .int fault])), (aA, .inl (cA, 8, .inl regs)), (aM, .inr (1, [.ref aW, .ref aT, .int cnt])), (aW, .inl (cW, 2048, .inl words))]) [1, 2, 3, 4] rfl
  have hDc := hD.sub (ws' := [(aR, .inr (2, [.ref aM, .ref aA, .ref aB, .int fault])), (aA, .inl (cA, 8, .inl regs)), (aM, .inr (1, [.ref aW, .ref aT, .int cnt])), (aW, .inl (cW, 2048, .inl words))]) [1, 2, 3, 4] (by decide) rfl
  have hKc := hK.sub (tys' := [(cA, .int), (cW, .int)]) [0, 1] rfl
  have hFc := va_free (wc := [(aR, .inr (2, [.ref aM, .ref aA, .ref aB, .int fault])), (aA, .inl (cA, 8, .inl regs)), (aM, .inr (1, [.ref aW, .ref aT, .int cnt])), (aW, .inl (cW, 2048, .inl words))]) hD hS hA [1, 2, 3, 4] rfl
  refine va_calli (va_runV (C := RX2) (b := aR) (As := [.int k, .int 65535]) (rest := [.ref aR]) ⟨hx, hb, hml, hown, hts⟩ (s_X2_locate l dC dI s.heap.size aR k (65535 : Int32) aM aA aB fault cA regs aW aT cnt cW words) (cwV 2 hts gX3_multiply_X2_locate rfl rfl rfl (by decide +kernel) ⟨Nat.le_of_ble_eq_true rfl, Nat.le_of_ble_eq_true rfl⟩) ⟨q_blind, va_recv hK hP (ci := 2) (q0 := 1) rfl rfl, fun U hU hW => ⟨rfl, q_pay hU hW hPc hKc hDc hN⟩⟩ rfl rfl hl.1 rfl (lv_room (Nat.le_of_ble_eq_true rfl)) dX3_multiply_11 ⟨show 0 + 0 ≤ 0 from by omega, show 0 + 0 ≤ 0 from by omega⟩) hS (fun q _ h => hFc q h) hFc (fun r_1 u9 t H locs ht hvm hw_2 hB hz1 hk1 hS => ?_)
  obtain ⟨fault2_3, regs2_4⟩ := u9
  obtain ⟨hP1, hK1, hD1⟩ := hB
  rw [ht] at hP1
  obtain ⟨hP, hD⟩ := va_join (wr := [(aP, .inr (3, [.ref aR, .ref aF])), (aT, .inl (cT, 400, .inl told)), (aF, .inr (0, [.int fn, .int fz, .int fv, .int fc]))]) (w1 := [(aR, .inr (2, [.ref aM, .ref aA, .ref aB, .int fault2_3])), (aA, .inl (cA, 8, .inl regs2_4)), (aM, .inr (1, [.ref aW, .ref aT, .int cnt])), (aW, .inl (cW, 2048, .inl words))]) hP hD [1, 2, 3, 4] [0, 5, 6] rfl rfl (by decide) (by decide) hk1 hFc hP1 hD1
  have hP : va_P (dC, dI) vwCl [(aP, .inr (3, [.ref aR, .ref aF])), (aT, .inl (cT, 400, .inl told)), (aF, .inr (0, [.int fn, .int fz, .int fv, .int fc])), (aR, .inr (2, [.ref aM, .ref aA, .ref aB, .int fault2_3])), (aA, .inl (cA, 8, .inl regs2_4)), (aM, .inr (1, [.ref aW, .ref aT, .int cnt])), (aW, .inl (cW, 2048, .inl words))] H := hP
  have hD : va_D A [(aP, .inr (3, [.ref aR, .ref aF])), (aT, .inl (cT, 400, .inl told)), (aF, .inr (0, [.int fn, .int fz, .int fv, .int fc])), (aR, .inr (2, [.ref aM, .ref aA, .ref aB, .int fault2_3])), (aA, .inl (cA, 8, .inl regs2_4)), (aM, .inr (1, [.ref aW, .ref aT, .int cnt])), (aW, .inl (cW, 2048, .inl words))] := hD
  refine W.widen (k := 0) (n := 0) (by omega) (by omega) ?_
  try dsimp only at hw_2
  refine lv_ldc (v := 65535) hx hb hown (hts (.constant RX3 69 (65535)) (by decide +kernel)) dX3_multiply_14 ?_
  have hPc := hP.sub (ws' := [(aR, .inr (2, [.ref aM, .ref aA, .ref aB, .int fault2_3])), (aA, .inl (cA, 8, .inl regs2_4)), (aM, .inr (1, [.ref aW, .ref aT, .int cnt])), (aW, .inl (cW, 2048, .inl words))]) [3, 4, 5, 6] rfl
  have hDc := hD.sub (ws' := [(aR, .inr (2, [.ref aM, .ref aA, .ref aB, .int fault2_3])), (aA, .inl (cA, 8, .inl regs2_4)), (aM, .inr (1, [.ref aW, .ref aT, .int cnt])), (aW, .inl (cW, 2048, .inl words))]) [3, 4, 5, 6] (by decide) rfl
  have hKc := hK.sub (tys' := [(cA, .int), (cW, .int)]) [0, 1] rfl
  have hFc := va_free (wc := [(aR, .inr (2, [.ref aM, .ref aA, .ref aB, .int fault2_3])), (aA, .inl (cA, 8, .inl regs2_4)), (aM, .inr (1, [.ref aW, .ref aT, .int cnt])), (aW, .inl (cW, 2048, .inl words))]) hD hS hA [3, 4, 5, 6] rfl
  refine va_calli (va_runV (C := RX2) (b := aR) (As := [.int r_1, .int 65535]) (rest := []) ⟨hx, hb, hml, hown, hts⟩ (s_X2_fetch l dC dI H.size aR r_1 (65535 : Int32) aM aA aB fault2_3 cA regs2_4 aW aT cnt cW words) (cwV 2 hts gX3_multiply_X2_fetch rfl rfl rfl (by decide +kernel) ⟨Nat.le_of_ble_eq_true rfl, Nat.le_of_ble_eq_true rfl⟩) ⟨q_blind, va_recv hK hP (ci := 2) (q0 := 3) rfl rfl, fun U hU hW => ⟨rfl, q_pay hU hW hPc hKc hDc hN⟩⟩ rfl rfl hl.1 rfl (lv_room (Nat.le_of_ble_eq_true rfl)) dX3_multiply_16 ⟨show 0 + 0 ≤ 0 from by omega, show 0 + 0 ≤ 0 from by omega⟩) hS (fun q _ h => hFc q h) hFc (fun r_5 u9 t H locs ht hvm hw_6 hB hz1 hk1 hS => ?_)
  obtain ⟨fault2_7, rfl⟩ : ∃ z, z = u9 := ⟨_, rfl⟩
  obtain ⟨hP1, hK1, hD1⟩ := hB
  rw [ht] at hP1
  obtain ⟨hP, hD⟩ := va_join (wr := [(aP, .inr (3, [.ref aR, .ref aF])), (aT, .inl (cT, 400, .inl told)), (aF, .inr (0, [.int fn, .int fz, .int fv, .int fc]))]) (w1 := [(aR, .inr (2, [.ref aM, .ref aA, .ref aB, .int fault2_7])), (aA, .inl (cA, 8, .inl regs2_4)), (aM, .inr (1, [.ref aW, .ref aT, .int cnt])), (aW, .inl (cW, 2048, .inl words))]) hP hD [3, 4, 5, 6] [0, 1, 2] rfl rfl (by decide) (by decide) hk1 hFc hP1 hD1
  have hP : va_P (dC, dI) vwCl [(aP, .inr (3, [.ref aR, .ref aF])), (aT, .inl (cT, 400, .inl told)), (aF, .inr (0, [.int fn, .int fz, .int fv, .int fc])), (aR, .inr (2, [.ref aM, .ref aA, .ref aB, .int fault2_7])), (aA, .inl (cA, 8, .inl regs2_4)), (aM, .inr (1, [.ref aW, .ref aT, .int cnt])), (aW, .inl (cW, 2048, .inl words))] H := hP
  have hD : va_D A [(aP, .inr (3, [.ref aR, .ref aF])), (aT, .inl (cT, 400, .inl told)), (aF, .inr (0, [.int fn, .int fz, .int fv, .int fc])), (aR, .inr (2, [.ref aM, .ref aA, .ref aB, .int fault2_7])), (aA, .inl (cA, 8, .inl regs2_4)), (aM, .inr (1, [.ref aW, .ref aT, .int cnt])), (aW, .inl (cW, 2048, .inl words))] := hD
  refine W.widen (k := 0) (n := 0) (by omega) (by omega) ?_
  try dsimp only at hw_6
  refine lv_ldc (v := 65535) hx hb hown (hts (.constant RX3 69 (65535)) (by decide +kernel)) dX3_multiply_19 ?_
  have hPc := hP.sub (ws' := []) [] rfl
  have hDc := hD.sub (ws' := []) [] (by decide) rfl
  have hKc := hK.sub (tys' := []) [] rfl
  have hFc := va_free (wc := []) hD hS hA [] rfl
  refine va_calli (va_runSN (As := [.int r_5, .int 65535]) (rest := []) ⟨hx, hb, hml, hown, hts⟩ (s_X4_signed l dC dI H.size r_5 (65535 : Int32)) ⟨va_cnB 2 hts gX3_multiply_X4_signed_n178 rfl rfl rfl (hN _ (List.mem_of_getElem? (i := 15) rfl)) (hts (.initialized RX4) (by decide +kernel)) (by decide +kernel) ⟨Nat.le_of_ble_eq_true rfl, Nat.le_of_ble_eq_true rfl⟩, hts (.static yX4_signed) (by decide +kernel), trivial⟩ ⟨q_blind, fun U hU hW => ⟨rfl, q_pay hU hW hPc hKc hDc hN⟩⟩ rfl rfl hl.1 rfl (lv_room (Nat.le_of_ble_eq_true rfl)) dX3_multiply_21 ⟨show 0 + 0 ≤ 0 from by omega, show 0 + 0 ≤ 0 from by omega⟩) hS (fun q _ h => hFc q h) hFc (fun r_8 u9 t H locs ht hvm hw_9 hB hz1 hk1 hS => ?_)
  obtain ⟨hP1, hK1, hD1⟩ := hB
  rw [ht] at hP1
  obtain ⟨hP, hD⟩ := va_join (wr := [(aP, .inr (3, [.ref aR, .ref aF])), (aT, .inl (cT, 400, .inl told)), (aF, .inr (0, [.int fn, .int fz, .int fv, .int fc])), (aR, .inr (2, [.ref aM, .ref aA, .ref aB, .int fault2_7])), (aA, .inl (cA, 8, .inl regs2_4)), (aM, .inr (1, [.ref aW, .ref aT, .int cnt])), (aW, .inl (cW, 2048, .inl words))]) (w1 := []) hP hD [] [0, 1, 2, 3, 4, 5, 6] rfl rfl (by decide) (by decide) hk1 hFc hP1 hD1
  have hP : va_P (dC, dI) vwCl [(aP, .inr (3, [.ref aR, .ref aF])), (aT, .inl (cT, 400, .inl told)), (aF, .inr (0, [.int fn, .int fz, .int fv, .int fc])), (aR, .inr (2, [.ref aM, .ref aA, .ref aB, .int fault2_7])), (aA, .inl (cA, 8, .inl regs2_4)), (aM, .inr (1, [.ref aW, .ref aT, .int cnt])), (aW, .inl (cW, 2048, .inl words))] H := hP
  have hD : va_D A [(aP, .inr (3, [.ref aR, .ref aF])), (aT, .inl (cT, 400, .inl told)), (aF, .inr (0, [.int fn, .int fz, .int fv, .int fc])), (aR, .inr (2, [.ref aM, .ref aA, .ref aB, .int fault2_7])), (aA, .inl (cA, 8, .inl regs2_4)), (aM, .inr (1, [.ref aW, .ref aT, .int cnt])), (aW, .inl (cW, 2048, .inl words))] := hD
  refine W.widen (k := 0) (n := 0) (by omega) (by omega) ?_
  try dsimp only at hw_9
  refine lv_istore_n (lv' := [(3, .int r_8), (0, .ref aP), (1, .int rr), (2, .int k)]) hx hb dX3_multiply_24 rfl hl (by decide) rfl (fun ls hl => ?_)
  refine lv_iload_n hx hb dX3_multiply_25 rfl (lv_at hl 0 rfl) ?_
  refine lv_aload_n hx hb dX3_multiply_26 rfl (lv_at hl 1 rfl) ?_
  refine va_get (D := (dC, dI)) (ci := 3) (v := .ref aR) (C := RX3) (T := TX3) (N := 2) hx hb hts (by decide +kernel) hown hK hP 0 rfl rfl 0 (by decide) (hts (.fieldLink RX3 23 "WordGuest$Processor" "parts" "LWordGuest$Parts;") (by decide +kernel)) (fun _ h9 => h9) rfl dX3_multiply_27 ?_
  refine va_getN (D := (dC, dI)) (ci := 2) (v := .ref aA) (C := RX2) (T := TX2) (N := 4) hx hb hts (by decide +kernel) hown hK hP 3 rfl rfl 1 (by decide) ((va_Nw.use rfl (hN _ (List.mem_of_getElem? (i := 9) rfl)))) (fun _ h9 => h9) rfl dX3_multiply_30 ?_
  refine lv_iload_n hx hb dX3_multiply_33 rfl (lv_at hl 2 rfl) ?_
  refine va_iald hx hb hK hP 4 0 rfl rfl hr9 dX3_multiply_34 ?_
  refine lv_ldc (v := 65535) hx hb hown (hts (.constant RX3 69 (65535)) (by decide +kernel)) dX3_multiply_35 ?_
  have hPc := hP.sub (ws' := []) [] rfl
  have hDc := hD.sub (ws' := []) [] (by decide) rfl
  have hKc := hK.sub (tys' := []) [] rfl
  have hFc := va_free (wc := []) hD hS hA [] rfl
  refine va_calli (va_runSN (As := [.int (regs2_4 rr.toNatClampNeg), .int 65535]) (rest := [.int r_8]) ⟨hx, hb, hml, hown, hts⟩ (s_X4_signed l dC dI H.size (regs2_4 rr.toNatClampNeg) (65535 : Int32)) ⟨va_cnB 2 hts gX3_multiply_X4_signed_n178 rfl rfl rfl (hN _ (List.mem_of_getElem? (i := 15) rfl)) (hts (.initialized RX4) (by decide +kernel)) (by decide +kernel) ⟨Nat.le_of_ble_eq_true rfl, Nat.le_of_ble_eq_true rfl⟩, hts (.static yX4_signed) (by decide +kernel), trivial⟩ ⟨q_blind, fun U hU hW => ⟨rfl, q_pay hU hW hPc hKc hDc hN⟩⟩ rfl rfl hl.1 rfl (lv_room (Nat.le_of_ble_eq_true rfl)) dX3_multiply_37 ⟨show 0 + 0 ≤ 0 from by omega, show 0 + 0 ≤ 0 from by omega⟩) hS (fun q _ h => hFc q h) hFc (fun r_10 u9 t H locs ht hvm hw_11 hB hz1 hk1 hS => ?_)
  obtain ⟨hP1, hK1, hD1⟩ := hB
  rw [ht] at hP1
  obtain ⟨hP, hD⟩ := va_join (wr := [(aP, .inr (3, [.ref aR, .ref aF])), (aT, .inl (cT, 400, .inl told)), (aF, .inr (0, [.int fn, .int fz, .int fv, .int fc])), (aR, .inr (2, [.ref aM, .ref aA, .ref aB, .int fault2_7])), (aA, .inl (cA, 8, .inl regs2_4)), (aM, .inr (1, [.ref aW, .ref aT, .int cnt])), (aW, .inl (cW, 2048, .inl words))]) (w1 := []) hP hD [] [0, 1, 2, 3, 4, 5, 6] rfl rfl (by decide) (by decide) hk1 hFc hP1 hD1
  have hP : va_P (dC, dI) vwCl [(aP, .inr (3, [.ref aR, .ref aF])), (aT, .inl (cT, 400, .inl told)), (aF, .inr (0, [.int fn, .int fz, .int fv, .int fc])), (aR, .inr (2, [.ref aM, .ref aA, .ref aB, .int fault2_7])), (aA, .inl (cA, 8, .inl regs2_4)), (aM, .inr (1, [.ref aW, .ref aT, .int cnt])), (aW, .inl (cW, 2048, .inl words))] H := hP
  have hD : va_D A [(aP, .inr (3, [.ref aR, .ref aF])), (aT, .inl (cT, 400, .inl told)), (aF, .inr (0, [.int fn, .int fz, .int fv, .int fc])), (aR, .inr (2, [.ref aM, .ref aA, .ref aB, .int fault2_7])), (aA, .inl (cA, 8, .inl regs2_4)), (aM, .inr (1, [.ref aW, .ref aT, .int cnt])), (aW, .inl (cW, 2048, .inl words))] := hD
  refine W.widen (k := 0) (n := 0) (by omega) (by omega) ?_
  try dsimp only at hw_11
  refine lv_imul hx hb dX3_multiply_40 ?_
  refine lv_istore (lv' := [(4, .int (r_8 * r_10)), (3, .int r_8), (0, .ref aP), (1, .int rr), (2, .int k)]) hx hb dX3_multiply_41 hl (by decide) rfl (fun ls hl => ?_)
  refine lv_aload_n hx hb dX3_multiply_43 rfl (lv_at hl 2 rfl) ?_
  refine va_get (D := (dC, dI)) (ci := 3) (v := .ref aF) (C := RX3) (T := TX3) (N := 2) hx hb hts (by decide +kernel) hown hK hP 0 rfl rfl 1 (by decide) (hts (.fieldLink RX3 12 "WordGuest$Processor" "conditions" "LWordGuest$Flags;") (by decide +kernel)) (fun _ h9 => h9) rfl dX3_multiply_44 ?_
  refine lv_iload hx hb dX3_multiply_47 (lv_at hl 0 rfl) ?_
  refine q_bool (ls := ls) 57 [.ref aF] (fun b_13 hb_14 => ?_) (fun jn => ?_)
  · refine va_putN (D := (dC, dI)) (ci := 0) (v := .int b_13) (ty := .boolean) (C := RX0) (T := TX0) (N := 4) hx hb hts (by decide +kernel) tyX0 tyX0_ok nmX0 hown hK hP hD hS 2 rfl rfl 0 (by decide) ((va_Nw.use rfl (hN _ (List.mem_of_getElem? (i := 4) rfl)))) (fun _ h9 => h9) rfl (by decide +kernel) (q_nz hb_14) (q_fz hb_14) (Nat.le_of_ble_eq_true rfl) dX3_multiply_57 (fun H locs hP hD hS => ?_)
    have hP : va_P (dC, dI) vwCl [(aP, .inr (3, [.ref aR, .ref aF])), (aT, .inl (cT, 400, .inl told)), (aF, .inr (0, [.int b_13, .int fz, .int fv, .int fc])), (aR, .inr (2, [.ref aM, .ref aA, .ref aB, .int fault2_7])), (aA, .inl (cA, 8, .inl regs2_4)), (aM, .inr (1, [.ref aW, .ref aT, .int cnt])), (aW, .inl (cW, 2048, .inl words))] H := hP
    have hD : va_D A [(aP, .inr (3, [.ref aR, .ref aF])), (aT, .inl (cT, 400, .inl told)), (aF, .inr (0, [.int b_13, .int fz, .int fv, .int fc])), (aR, .inr (2, [.ref aM, .ref aA, .ref aB, .int fault2_7])), (aA, .inl (cA, 8, .inl regs2_4)), (aM, .inr (1, [.ref aW, .ref aT, .int cnt])), (aW, .inl (cW, 2048, .inl words))] := hD
    refine lv_aload_n hx hb dX3_multiply_60 rfl (lv_at hl 2 rfl) ?_
    refine va_get (D := (dC, dI)) (ci := 3) (v := .ref aF) (C := RX3) (T := TX3) (N := 2) hx hb hts (by decide +kernel) hown hK hP 0 rfl rfl 1 (by decide) (hts (.fieldLink RX3 12 "WordGuest$Processor" "conditions" "LWordGuest$Flags;") (by decide +kernel)) (fun _ h9 => h9) rfl dX3_multiply_61 ?_
    refine lv_iload hx hb dX3_multiply_64 (lv_at hl 0 rfl) ?_
    refine q_bool (ls := ls) 74 [.ref aF] (fun b_16 hb_17 => ?_) (fun jn => ?_)
    · refine va_putN (D := (dC, dI)) (ci := 0) (v := .int b_16) (ty := .boolean) (C := RX0) (T := TX0) (N := 4) hx hb hts (by decide +kernel) tyX0 tyX0_ok nmX0 hown hK hP hD hS 2 rfl rfl 1 (by decide) ((va_Nw.use rfl (hN _ (List.mem_of_getElem? (i := 5) rfl)))) (fun _ h9 => h9) rfl (by decide +kernel) (q_nz hb_17) (q_fz hb_17) (Nat.le_of_ble_eq_true rfl) dX3_multiply_74 (fun H locs hP hD hS => ?_)
      have hP : va_P (dC, dI) vwCl [(aP, .inr (3, [.ref aR, .ref aF])), (aT, .inl (cT, 400, .inl told)), (aF, .inr (0, [.int b_13, .int b_16, .int fv, .int fc])), (aR, .inr (2, [.ref aM, .ref aA, .ref aB, .int fault2_7])), (aA, .inl (cA, 8, .inl regs2_4)), (aM, .inr (1, [.ref aW, .ref aT, .int cnt])), (aW, .inl (cW, 2048, .inl words))] H := hP
      have hD : va_D A [(aP, .inr (3, [.ref aR, .ref aF])), (aT, .inl (cT, 400, .inl told)), (aF, .inr (0, [.int b_13, .int b_16, .int fv, .int fc])), (aR, .inr (2, [.ref aM, .ref aA, .ref aB, .int fault2_7])), (aA, .inl (cA, 8, .inl regs2_4)), (aM, .inr (1, [.ref aW, .ref aT, .int cnt])), (aW, .inl (cW, 2048, .inl words))] := hD
      refine lv_aload_n hx hb dX3_multiply_77 rfl (lv_at hl 2 rfl) ?_
      refine va_get (D := (dC, dI)) (ci := 3) (v := .ref aF) (C := RX3) (T := TX3) (N := 2) hx hb hts (by decide +kernel) hown hK hP 0 rfl rfl 1 (by decide) (hts (.fieldLink RX3 12 "WordGuest$Processor" "conditions" "LWordGuest$Flags;") (by decide +kernel)) (fun _ h9 => h9) rfl dX3_multiply_78 ?_
      refine lv_iconst (v := 0) hx hb dX3_multiply_81 (by decide) ?_
      refine va_putN (D := (dC, dI)) (ci := 0) (v := .int 0) (ty := .boolean) (C := RX0) (T := TX0) (N := 4) hx hb hts (by decide +kernel) tyX0 tyX0_ok nmX0 hown hK hP hD hS 2 rfl rfl 2 (by decide) ((va_Nw.use rfl (hN _ (List.mem_of_getElem? (i := 6) rfl)))) (fun _ h9 => h9) rfl (by decide +kernel) (by decide) (by decide) (Nat.le_of_ble_eq_true rfl) dX3_multiply_82 (fun H locs hP hD hS => ?_)
      have hP : va_P (dC, dI) vwCl [(aP, .inr (3, [.ref aR, .ref aF])), (aT, .inl (cT, 400, .inl told)), (aF, .inr (0, [.int b_13, .int b_16, .int 0, .int fc])), (aR, .inr (2, [.ref aM, .ref aA, .ref aB, .int fault2_7])), (aA, .inl (cA, 8, .inl regs2_4)), (aM, .inr (1, [.ref aW, .ref aT, .int cnt])), (aW, .inl (cW, 2048, .inl words))] H := hP
      have hD : va_D A [(aP, .inr (3, [.ref aR, .ref aF])), (aT, .inl (cT, 400, .inl told)), (aF, .inr (0, [.int b_13, .int b_16, .int 0, .int fc])), (aR, .inr (2, [.ref aM, .ref aA, .ref aB, .int fault2_7])), (aA, .inl (cA, 8, .inl regs2_4)), (aM, .inr (1, [.ref aW, .ref aT, .int cnt])), (aW, .inl (cW, 2048, .inl words))] := hD
      refine lv_aload_n hx hb dX3_multiply_85 rfl (lv_at hl 2 rfl) ?_
      refine va_get (D := (dC, dI)) (ci := 3) (v := .ref aF) (C := RX3) (T := TX3) (N := 2) hx hb hts (by decide +kernel) hown hK hP 0 rfl rfl 1 (by decide) (hts (.fieldLink RX3 12 "WordGuest$Processor" "conditions" "LWordGuest$Flags;") (by decide +kernel)) (fun _ h9 => h9) rfl dX3_multiply_86 ?_
      refine lv_iload hx hb dX3_multiply_89 (lv_at hl 0 rfl) ?_
      refine lv_i2l (v := Int32.toInt64 (r_8 * r_10)) hx hb dX3_multiply_91 rfl ?_
      have hPc := hP.sub (ws' := []) [] rfl
      have hDc := hD.sub (ws' := []) [] (by decide) rfl
      have hKc := hK.sub (tys' := []) [] rfl
      have hFc := va_free (wc := []) hD hS hA [] rfl
      refine va_calli (va_runS (As := [.long (Int32.toInt64 (r_8 * r_10))]) (rest := [.ref aF]) ⟨hx, hb, hml, hown, hts⟩ (s_X3_fitsWord l dC dI H.size (Int32.toInt64 (r_8 * r_10))) (va_cwS 1 hts gX3_multiply_X3_fitsWord rfl rfl rfl (by decide +kernel) ⟨Nat.le_of_ble_eq_true rfl, Nat.le_of_ble_eq_true rfl⟩) ⟨q_blind, fun U hU hW => ⟨rfl, q_pay hU hW hPc hKc hDc hN⟩⟩ rfl rfl hl.1 rfl (lv_room (Nat.le_of_ble_eq_true rfl)) dX3_multiply_92 ⟨show 0 + 0 ≤ 0 from by omega, show 0 + 0 ≤ 0 from by omega⟩) hS (fun q _ h => hFc q h) hFc (fun r_18 u9 t H locs ht hvm hw_19 hB hz1 hk1 hS => ?_)
      obtain ⟨hP1, hK1, hD1⟩ := hB
      rw [ht] at hP1
      obtain ⟨hP, hD⟩ := va_join (wr := [(aP, .inr (3, [.ref aR, .ref aF])), (aT, .inl (cT, 400, .inl told)), (aF, .inr (0, [.int b_13, .int b_16, .int 0, .int fc])), (aR, .inr (2, [.ref aM, .ref aA, .ref aB, .int fault2_7])), (aA, .inl (cA, 8, .inl regs2_4)), (aM, .inr (1, [.ref aW, .ref aT, .int cnt])), (aW, .inl (cW, 2048, .inl words))]) (w1 := []) hP hD [] [0, 1, 2, 3, 4, 5, 6] rfl rfl (by decide) (by decide) hk1 hFc hP1 hD1
      have hP : va_P (dC, dI) vwCl [(aP, .inr (3, [.ref aR, .ref aF])), (aT, .inl (cT, 400, .inl told)), (aF, .inr (0, [.int b_13, .int b_16, .int 0, .int fc])), (aR, .inr (2, [.ref aM, .ref aA, .ref aB, .int fault2_7])), (aA, .inl (cA, 8, .inl regs2_4)), (aM, .inr (1, [.ref aW, .ref aT, .int cnt])), (aW, .inl (cW, 2048, .inl words))] H := hP
      have hD : va_D A [(aP, .inr (3, [.ref aR, .ref aF])), (aT, .inl (cT, 400, .inl told)), (aF, .inr (0, [.int b_13, .int b_16, .int 0, .int fc])), (aR, .inr (2, [.ref aM, .ref aA, .ref aB, .int fault2_7])), (aA, .inl (cA, 8, .inl regs2_4)), (aM, .inr (1, [.ref aW, .ref aT, .int cnt])), (aW, .inl (cW, 2048, .inl words))] := hD
      refine W.widen (k := 0) (n := 0) (by omega) (by omega) ?_
      try dsimp only at hw_19
      refine q_bool (ls := ls) 103 [.ref aF] (fun b_21 hb_22 => ?_) (fun jn => ?_)
      · refine va_putN (D := (dC, dI)) (ci := 0) (v := .int b_21) (ty := .boolean) (C := RX0) (T := TX0) (N := 4) hx hb hts (by decide +kernel) tyX0 tyX0_ok nmX0 hown hK hP hD hS 2 rfl rfl 3 (by decide) ((va_Nw.use rfl (hN _ (List.mem_of_getElem? (i := 7) rfl)))) (fun _ h9 => h9) rfl (by decide +kernel) (q_nz hb_22) (q_fz hb_22) (Nat.le_of_ble_eq_true rfl) dX3_multiply_103 (fun H locs hP hD hS => ?_)
        have hP : va_P (dC, dI) vwCl [(aP, .inr (3, [.ref aR, .ref aF])), (aT, .inl (cT, 400, .inl told)), (aF, .inr (0, [.int b_13, .int b_16, .int 0, .int b_21])), (aR, .inr (2, [.ref aM, .ref aA, .ref aB, .int fault2_7])), (aA, .inl (cA, 8, .inl regs2_4)), (aM, .inr (1, [.ref aW, .ref aT, .int cnt])), (aW, .inl (cW, 2048, .inl words))] H := hP
        have hD : va_D A [(aP, .inr (3, [.ref aR, .ref aF])), (aT, .inl (cT, 400, .inl told)), (aF, .inr (0, [.int b_13, .int b_16, .int 0, .int b_21])), (aR, .inr (2, [.ref aM, .ref aA, .ref aB, .int fault2_7])), (aA, .inl (cA, 8, .inl regs2_4)), (aM, .inr (1, [.ref aW, .ref aT, .int cnt])), (aW, .inl (cW, 2048, .inl words))] := hD
        refine lv_iload_n hx hb dX3_multiply_106 rfl (lv_at hl 3 rfl) ?_
        refine lv_iconst (v := 1) hx hb dX3_multiply_107 (by decide) ?_
        refine lv_iand hx hb dX3_multiply_108 ?_
        refine lv_if_ne (tgt := 129) hx hb dX3_multiply_109 (by decide) (fun c_23 => ?_) (fun c_23 => ?_)
        · refine lv_aload_n hx hb dX3_multiply_129 rfl (lv_at hl 2 rfl) ?_
          refine va_get (D := (dC, dI)) (ci := 3) (v := .ref aR) (C := RX3) (T := TX3) (N := 2) hx hb hts (by decide +kernel) hown hK hP 0 rfl rfl 0 (by decide) (hts (.fieldLink RX3 23 "WordGuest$Processor" "parts" "LWordGuest$Parts;") (by decide +kernel)) (fun _ h9 => h9) rfl dX3_multiply_130 ?_
          refine va_getN (D := (dC, dI)) (ci := 2) (v := .ref aA) (C := RX2) (T := TX2) (N := 4) hx hb hts (by decide +kernel) hown hK hP 3 rfl rfl 1 (by decide) ((va_Nw.use rfl (hN _ (List.mem_of_getElem? (i := 9) rfl)))) (fun _ h9 => h9) rfl dX3_multiply_133 ?_
          refine lv_iload_n hx hb dX3_multiply_136 rfl (lv_at hl 3 rfl) ?_
          refine lv_iconst (v := 1) hx hb dX3_multiply_137 (by decide) ?_
          refine lv_ior hx hb dX3_multiply_138 ?_
          refine lv_iload hx hb dX3_multiply_139 (lv_at hl 0 rfl) ?_
          refine lv_ldc (v := 65535) hx hb hown (hts (.constant RX3 69 (65535)) (by decide +kernel)) dX3_multiply_141 ?_
          refine lv_iand hx hb dX3_multiply_143 ?_
          refine va_iast hx hb hK hP hD hS 4 0 rfl rfl (q_or1 hr9) dX3_multiply_144 (fun H locs hP hD hS => ?_)
          have hP : va_P (dC, dI) vwCl [(aP, .inr (3, [.ref aR, .ref aF])), (aT, .inl (cT, 400, .inl told)), (aF, .inr (0, [.int b_13, .int b_16, .int 0, .int b_21])), (aR, .inr (2, [.ref aM, .ref aA, .ref aB, .int fault2_7])), (aA, .inl (cA, 8, .inl (upd regs2_4 (rr ||| 1).toNatClampNeg ((r_8 * r_10) &&& 65535)))), (aM, .inr (1, [.ref aW, .ref aT, .int cnt])), (aW, .inl (cW, 2048, .inl words))] H := hP
          have hD : va_D A [(aP, .inr (3, [.ref aR, .ref aF])), (aT, .inl (cT, 400, .inl told)), (aF, .inr (0, [.int b_13, .int b_16, .int 0, .int b_21])), (aR, .inr (2, [.ref aM, .ref aA, .ref aB, .int fault2_7])), (aA, .inl (cA, 8, .inl (upd regs2_4 (rr ||| 1).toNatClampNeg ((r_8 * r_10) &&& 65535)))), (aM, .inr (1, [.ref aW, .ref aT, .int cnt])), (aW, .inl (cW, 2048, .inl words))] := hD
          generalize (upd regs2_4 (rr ||| 1).toNatClampNeg ((r_8 * r_10) &&& 65535)) = g_24 at hP hD
          have hP9 := hP.sub (ws' := [(aP, .inr (3, [.ref aR, .ref aF])), (aR, .inr (2, [.ref aM, .ref aA, .ref aB, .int fault2_7])), (aA, .inl (cA, 8, .inl g_24)), (aM, .inr (1, [.ref aW, .ref aT, .int cnt])), (aW, .inl (cW, 2048, .inl words)), (aT, .inl (cT, 400, .inl told)), (aF, .inr (0, [.int b_13, .int b_16, .int 0, .int b_21]))]) [0, 3, 4, 5, 6, 1, 2] rfl
          have hD9 := hD.sub (ws' := [(aP, .inr (3, [.ref aR, .ref aF])), (aR, .inr (2, [.ref aM, .ref aA, .ref aB, .int fault2_7])), (aA, .inl (cA, 8, .inl g_24)), (aM, .inr (1, [.ref aW, .ref aT, .int cnt])), (aW, .inl (cW, 2048, .inl words)), (aT, .inl (cT, 400, .inl told)), (aF, .inr (0, [.int b_13, .int b_16, .int 0, .int b_21]))]) [0, 3, 4, 5, 6, 1, 2] (by decide) rfl
          have hK9 := hK.sub (tys' := [(cA, .int), (cW, .int), (cT, .int)]) [0, 1, 2] rfl
          exact W.vret hx hb hr (fun t ht hW => ⟨⟨(fault2_7, g_24, cnt, words, told, b_13, b_16, 0, b_21), rfl, h4, by rw [ht]; exact hP9, va_K.moved hW.alike hK9, hD9⟩, hS.F ht⟩) hS.2.2 dX3_multiply_145
        · refine lv_aload_n hx hb dX3_multiply_112 rfl (lv_at hl 2 rfl) ?_
          refine va_get (D := (dC, dI)) (ci := 3) (v := .ref aR) (C := RX3) (T := TX3) (N := 2) hx hb hts (by decide +kernel) hown hK hP 0 rfl rfl 0 (by decide) (hts (.fieldLink RX3 23 "WordGuest$Processor" "parts" "LWordGuest$Parts;") (by decide +kernel)) (fun _ h9 => h9) rfl dX3_multiply_113 ?_
          refine va_getN (D := (dC, dI)) (ci := 2) (v := .ref aA) (C := RX2) (T := TX2) (N := 4) hx hb hts (by decide +kernel) hown hK hP 3 rfl rfl 1 (by decide) ((va_Nw.use rfl (hN _ (List.mem_of_getElem? (i := 9) rfl)))) (fun _ h9 => h9) rfl dX3_multiply_116 ?_
          refine lv_iload_n hx hb dX3_multiply_119 rfl (lv_at hl 3 rfl) ?_
          refine lv_iload hx hb dX3_multiply_120 (lv_at hl 0 rfl) ?_
          refine lv_bipush (v := 16) hx hb dX3_multiply_122 (by decide) ?_
          refine lv_ishr hx hb dX3_multiply_124 ?_
          refine lv_ldc (v := 65535) hx hb hown (hts (.constant RX3 69 (65535)) (by decide +kernel)) dX3_multiply_125 ?_
          refine lv_iand hx hb dX3_multiply_127 ?_
          refine va_iast hx hb hK hP hD hS 4 0 rfl rfl hr9 dX3_multiply_128 (fun H locs hP hD hS => ?_)
          have hP : va_P (dC, dI) vwCl [(aP, .inr (3, [.ref aR, .ref aF])), (aT, .inl (cT, 400, .inl told)), (aF, .inr (0, [.int b_13, .int b_16, .int 0, .int b_21])), (aR, .inr (2, [.ref aM, .ref aA, .ref aB, .int fault2_7])), (aA, .inl (cA, 8, .inl (upd regs2_4 rr.toNatClampNeg (((r_8 * r_10) >>> (16 &&& 31)) &&& 65535)))), (aM, .inr (1, [.ref aW, .ref aT, .int cnt])), (aW, .inl (cW, 2048, .inl words))] H := hP
          have hD : va_D A [(aP, .inr (3, [.ref aR, .ref aF])), (aT, .inl (cT, 400, .inl told)), (aF, .inr (0, [.int b_13, .int b_16, .int 0, .int b_21])), (aR, .inr (2, [.ref aM, .ref aA, .ref aB, .int fault2_7])), (aA, .inl (cA, 8, .inl (upd regs2_4 rr.toNatClampNeg (((r_8 * r_10) >>> (16 &&& 31)) &&& 65535)))), (aM, .inr (1, [.ref aW, .ref aT, .int cnt])), (aW, .inl (cW, 2048, .inl words))] := hD
          generalize (upd regs2_4 rr.toNatClampNeg (((r_8 * r_10) >>> (16 &&& 31)) &&& 65535)) = g_25 at hP hD
          refine lv_aload_n hx hb dX3_multiply_129 rfl (lv_at hl 2 rfl) ?_
          refine va_get (D := (dC, dI)) (ci := 3) (v := .ref aR) (C := RX3) (T := TX3) (N := 2) hx hb hts (by decide +kernel) hown hK hP 0 rfl rfl 0 (by decide) (hts (.fieldLink RX3 23 "WordGuest$Processor" "parts" "LWordGuest$Parts;") (by decide +kernel)) (fun _ h9 => h9) rfl dX3_multiply_130 ?_
          refine va_getN (D := (dC, dI)) (ci := 2) (v := .ref aA) (C := RX2) (T := TX2) (N := 4) hx hb hts (by decide +kernel) hown hK hP 3 rfl rfl 1 (by decide) ((va_Nw.use rfl (hN _ (List.mem_of_getElem? (i := 9) rfl)))) (fun _ h9 => h9) rfl dX3_multiply_133 ?_
          refine lv_iload_n hx hb dX3_multiply_136 rfl (lv_at hl 3 rfl) ?_
          refine lv_iconst (v := 1) hx hb dX3_multiply_137 (by decide) ?_
          refine lv_ior hx hb dX3_multiply_138 ?_
          refine lv_iload hx hb dX3_multiply_139 (lv_at hl 0 rfl) ?_
          refine lv_ldc (v := 65535) hx hb hown (hts (.constant RX3 69 (65535)) (by decide +kernel)) dX3_multiply_141 ?_
          refine lv_iand hx hb dX3_multiply_143 ?_
          refine va_iast hx hb hK hP hD hS 4 0 rfl rfl (q_or1 hr9) dX3_multiply_144 (fun H locs hP hD hS => ?_)
          have hP : va_P (dC, dI) vwCl [(aP, .inr (3, [.ref aR, .ref aF])), (aT, .inl (cT, 400, .inl told)), (aF, .inr (0, [.int b_13, .int b_16, .int 0, .int b_21])), (aR, .inr (2, [.ref aM, .ref aA, .ref aB, .int fault2_7])), (aA, .inl (cA, 8, .inl (upd g_25 (rr ||| 1).toNatClampNeg ((r_8 * r_10) &&& 65535)))), (aM, .inr (1, [.ref aW, .ref aT, .int cnt])), (aW, .inl (cW, 2048, .inl words))] H := hP
          have hD : va_D A [(aP, .inr (3, [.ref aR, .ref aF])), (aT, .inl (cT, 400, .inl told)), (aF, .inr (0, [.int b_13, .int b_16, .int 0, .int b_21])), (aR, .inr (2, [.ref aM, .ref aA, .ref aB, .int fault2_7])), (aA, .inl (cA, 8, .inl (upd g_25 (rr ||| 1).toNatClampNeg ((r_8 * r_10) &&& 65535)))), (aM, .inr (1, [.ref aW, .ref aT, .int cnt])), (aW, .inl (cW, 2048, .inl words))] := hD
          generalize (upd g_25 (rr ||| 1).toNatClampNeg ((r_8 * r_10) &&& 65535)) = g_26 at hP hD
          have hP9 := hP.sub (ws' := [(aP, .inr (3, [.ref aR, .ref aF])), (aR, .inr (2, [.ref aM, .ref aA, .ref aB, .int fault2_7])), (aA, .inl (cA, 8, .inl g_26)), (aM, .inr (1, [.ref aW, .ref aT, .int cnt])), (aW, .inl (cW, 2048, .inl words)), (aT, .inl (cT, 400, .inl told)), (aF, .inr (0, [.int b_13, .int b_16, .int 0, .int b_21]))]) [0, 3, 4, 5, 6, 1, 2] rfl
          have hD9 := hD.sub (ws' := [(aP, .inr (3, [.ref aR, .ref aF])), (aR, .inr (2, [.ref aM, .ref aA, .ref aB, .int fault2_7])), (aA, .inl (cA, 8, .inl g_26)), (aM, .inr (1, [.ref aW, .ref aT, .int cnt])), (aW, .inl (cW, 2048, .inl words)), (aT, .inl (cT, 400, .inl told)), (aF, .inr (0, [.int b_13, .int b_16, .int 0, .int b_21]))]) [0, 3, 4, 5, 6, 1, 2] (by decide) rfl
          have hK9 := hK.sub (tys' := [(cA, .int), (cW, .int), (cT, .int)]) [0, 1, 2] rfl
          exact W.vret hx hb hr (fun t ht hW => ⟨⟨(fault2_7, g_26, cnt, words, told, b_13, b_16, 0, b_21), rfl, h4, by rw [ht]; exact hP9, va_K.moved hW.alike hK9, hD9⟩, hS.F ht⟩) hS.2.2 dX3_multiply_145
      refine lv_if_ne (tgt := 102) hx hb dX3_multiply_95 (by decide) (fun c_20 => ?_) (fun c_20 => ?_)
      · refine lv_iconst (v := 0) hx hb dX3_multiply_102 (by decide) ?_
        exact jn _ (Or.inl rfl)
      · refine lv_iconst (v := 1) hx hb dX3_multiply_98 (by decide) ?_
        refine lv_goto (tgt := 103) hx hb dX3_multiply_99 (by decide) ?_
        exact jn _ (Or.inr rfl)
    refine lv_if_ne (tgt := 73) hx hb dX3_multiply_66 (by decide) (fun c_15 => ?_) (fun c_15 => ?_)
    · refine lv_iconst (v := 0) hx hb dX3_multiply_73 (by decide) ?_
      exact jn _ (Or.inl rfl)
    · refine lv_iconst (v := 1) hx hb dX3_multiply_69 (by decide) ?_
      refine lv_goto (tgt := 74) hx hb dX3_multiply_70 (by decide) ?_
      exact jn _ (Or.inr rfl)
  refine lv_if_ge (tgt := 56) hx hb dX3_multiply_49 (by decide) (fun c_12 => ?_) (fun c_12 => ?_)
  · refine lv_iconst (v := 0) hx hb dX3_multiply_56 (by decide) ?_
    exact jn _ (Or.inl rfl)
  · refine lv_iconst (v := 1) hx hb dX3_multiply_52 (by decide) ?_
    refine lv_goto (tgt := 57) hx hb dX3_multiply_53 (by decide) ?_
    exact jn _ (Or.inr rfl)
set_option maxHeartbeats 4000000 in
set_option maxRecDepth 100000 in
theorem s_X3_divide (l : Launch) (dC : Nat → ClassId) (dI : Nat → Nat → Nat) (sz : Nat) (aP : Nat) (rr : Int32) (k : Int32) (aR : Nat) (aF : Nat) (aM : Nat) (aA : Nat) (aB : Nat) (fault : Int32) (cA : ClassId) (regs : Nat → Int32) (aW : Nat) (aT : Nat) (cnt : Int32) (cW : ClassId) (words : Nat → Int32) (cT : ClassId) (told : Nat → Int32) (fn : Int32) (fz : Int32) (fv : Int32) (fc : Int32) (h4 : ok4 cnt) (hr9 : vp_in rr 8) : Met l yX3_divide wsX3_divide ({ frames := 3, cells := 0, slots := 0, locals := 68 }) (va_Pc [.ref aP, .int rr, .int k] (q_pre dC dI sz [(aP, .inr (3, [.ref aR, .ref aF])), (aR, .inr (2, [.ref aM, .ref aA, .ref aB, .int fault])), (aA, .inl (cA, 8, .inl regs)), (aM, .inr (1, [.ref aW, .ref aT, .int cnt])), (aW, .inl (cW, 2048, .inl words)), (aT, .inl (cT, 400, .inl told)), (aF, .inr (0, [.int fn, .int fz, .int fv, .int fc]))] [(cA, .int), (cW, .int), (cT, .int)])) (va_Qv (fun (u9 : Int32 × (Nat → Int32) × Int32 × (Nat → Int32) × (Nat → Int32) × Int32 × Int32 × Int32 × Int32) => ok4 u9.2.2.1) (q_at dC dI (va_A [(aP, .inr (3, [.ref aR, .ref aF])), (aR, .inr (2, [.ref aM, .ref aA, .ref aB, .int fault])), (aA, .inl (cA, 8, .inl regs)), (aM, .inr (1, [.ref aW, .ref aT, .int cnt])), (aW, .inl (cW, 2048, .inl words)), (aT, .inl (cT, 400, .inl told)), (aF, .inr (0, [.int fn, .int fz, .int fv, .int fc]))] sz) (fun (u9 : Int32 × (Nat → Int32) × Int32 × (Nat → Int32) × (Nat → Int32) × Int32 × Int32 × Int32 × Int32) => [(cA, .int), (cW, .int), (cT, .int)]) (fun (u9 : Int32 × (Nat → Int32) × Int32 × (Nat → Int32) × (Nat → Int32) × Int32 × Int32 × Int32 × Int32) => [(aP, .inr (3, [.ref aR, .ref aF])), (aR, .inr (2, [.ref aM, .ref aA, .ref aB, .int u9.1])), (aA, .inl (cA, 8, .inl u9.2.1)), (aM, .inr (1, [.ref aW, .ref aT, .int u9.2.2.1])), (aW, .inl (cW, 2048, .inl u9.2.2.2.1)), (aT, .inl (cT, 400, .inl u9.2.2.2.2.1)), (aF, .inr (0, [.int u9.2.2.2.2.2.1, .int u9.2.2.2.2.2.2.1, .int u9.2.2.2.2.2.2.2.1, .int u9.2.2.2.2.2.2.2.2]))])) (va_A [(aP, .inr (3, [.ref aR, .ref aF])), (aR, .inr (2, [.ref aM, .ref aA, .ref aB, .int fault])), (aA, .inl (cA, 8, .inl regs)), (aM, .inr (1, [.ref aW, .ref aT, .int cnt])), (aW, .inl (cW, 2048, .inl words)), (aT, .inl (cT, 400, .inl told)), (aF, .inr (0, [.int fn, .int fz, .int fv, .int fc]))] sz)) 0 0 (va_A [(aP, .inr (3, [.ref aR, .ref aF])), (aR, .inr (2, [.ref aM, .ref aA, .ref aB, .int fault])), (aA, .inl (cA, 8, .inl regs)), (aM, .inr (1, [.ref aW, .ref aT, .int cnt])), (aW, .inl (cW, 2048, .inl words)), (aT, .inl (cT, 400, .inl told)), (aF, .inr (0, [.int fn, .int fz, .int fv, .int fc]))] sz) := by
  refine Met.ofW (cc := cX3_divide) (maxL := 8) (ret := none) (by decide) rfl ?_
  intro p e s m args below meth c s₁ B hml hv
  obtain ⟨rfl, hsz, hP, hK, hD0, hN⟩ := hv
  have hx := B.exec
  have hb := B.bytes
  have hr := B.returns
  have hts := atoms_spec (ws := wsX3_divide) B.pre
  have hown : s.vm.findClass RX3 = some m.cls := findClass_of_methodNamed B.named
  have hlocks := B.notSynchronized
  subst hsz
  have hD := hD0.self (sz := s.heap.size)
  generalize hAe : va_A [(aP, .inr (3, [.ref aR, .ref aF])), (aR, .inr (2, [.ref aM, .ref aA, .ref aB, .int fault])), (aA, .inl (cA, 8, .inl regs)), (aM, .inr (1, [.ref aW, .ref aT, .int cnt])), (aW, .inl (cW, 2048, .inl words)), (aT, .inl (cT, 400, .inl told)), (aF, .inr (0, [.int fn, .int fz, .int fv, .int fc]))] s.heap.size = A at hD ⊢
  have hA : ∀ q : Nat, s.heap.size ≤ q → A q := fun q h => by rw [← hAe]; exact Or.inr h
  have hS : va_S A s.heap s.heap [] := va_S.rf
  have hP : va_P (dC, dI) vwCl [(aP, .inr (3, [.ref aR, .ref aF])), (aR, .inr (2, [.ref aM, .ref aA, .ref aB, .int fault])), (aA, .inl (cA, 8, .inl regs)), (aM, .inr (1, [.ref aW, .ref aT, .int cnt])), (aW, .inl (cW, 2048, .inl words)), (aT, .inl (cT, 400, .inl told)), (aF, .inr (0, [.int fn, .int fz, .int fv, .int fc]))] s.heap := hP
  have hl := lv_entry ([.ref aP, .int rr, .int k]) (n := 8) (Nat.le_of_ble_eq_true rfl)
  rw [lg_entry_eq]
  generalize (lg_sl ([.ref aP, .int rr, .int k]) ++ List.replicate (8 - (lg_sl ([.ref aP, .int rr, .int k])).length) Slot.unset).toArray = ls at hl ⊢
  have hl : lv_has ls 8 [(0, .ref aP), (1, .int rr), (2, .int k)] := hl
  refine lv_iload_n hx hb dX3_divide_0 rfl (lv_at hl 1 rfl) ?_
  refine lv_iconst (v := 1) hx hb dX3_divide_1 (by decide) ?_
  refine lv_iand hx hb dX3_divide_2 ?_
  refine lv_if_eq (tgt := 11) hx hb dX3_divide_3 (by decide) (fun c_1 => ?_) (fun c_1 => ?_)
  · refine lv_aload_n hx hb dX3_divide_11 rfl (lv_at hl 0 rfl) ?_
    refine va_get (D := (dC, dI)) (ci := 3) (v := .ref aR) (C := RX3) (T := TX3) (N := 2) hx hb hts (by decide +kernel) hown hK hP 0 rfl rfl 0 (by decide) (hts (.fieldLink RX3 23 "WordGuest$Processor" "parts" "LWordGuest$Parts;") (by decide +kernel)) (fun _ h9 => h9) rfl dX3_divide_12 ?_
    refine lv_aload_n hx hb dX3_divide_15 rfl (lv_at hl 0 rfl) ?_
    refine va_get (D := (dC, dI)) (ci := 3) (v := .ref aR) (C := RX3) (T := TX3) (N := 2) hx hb hts (by decide +kernel) hown hK hP 0 rfl rfl 0 (by decide) (hts (.fieldLink RX3 23 "WordGuest$Processor" "parts" "LWordGuest$Parts;") (by decide +kernel)) (fun _ h9 => h9) rfl dX3_divide_16 ?_
    refine lv_iload_n hx hb dX3_divide_19 rfl (lv_at hl 2 rfl) ?_
    refine lv_ldc (v := 65535) hx hb hown (hts (.constant RX3 69 (65535)) (by decide +kernel)) dX3_divide_20 ?_
    have hPc := hP.sub (ws' := [(aR, .inr (2, [.ref aM, .ref aA, .ref aB, .int fault])), (aA, .inl (cA, 8, .inl regs)), (aM, .inr (1, [.ref aW, .ref aT, .int cnt])), (aW, .inl (cW, 2048, .inl words))]) [1, 2, 3, 4] rfl
    have hDc := hD.sub (ws' := [(aR, .inr (2, [.ref aM, .ref aA, .ref aB, .int fault])), (aA, .inl (cA, 8, .inl regs)), (aM, .inr (1, [.ref aW, .ref aT, .int cnt])), (aW, .inl (cW, 2048, .inl words))]) [1, 2, 3, 4] (by decide) rfl
    have hKc := hK.sub (tys' := [(cA, .int), (cW, .int)]) [0, 1] rfl
    have hFc := va_free (wc := [(aR, .inr (2, [.ref aM, .ref aA, .ref aB, .int fault])), (aA, .inl (cA, 8, .inl regs)), (aM, .inr (1, [.ref aW, .ref aT, .int cnt])), (aW, .inl (cW, 2048, .inl words))]) hD hS hA [1, 2, 3, 4] rfl
    refine va_calli (va_runV (C := RX2) (b := aR) (As := [.int k, .int 65535]) (rest := [.ref aR]) ⟨hx, hb, hml, hown, hts⟩ (s_X2_locate l dC dI s.heap.size aR k (65535 : Int32) aM aA aB fault cA regs aW aT cnt cW words) (cwV 2 hts gX3_divide_X2_locate rfl rfl rfl (by decide +kernel) ⟨Nat.le_of_ble_eq_true rfl, Nat.le_of_ble_eq_true rfl⟩) ⟨q_blind, va_recv hK hP (ci := 2) (q0 := 1) rfl rfl, fun U hU hW => ⟨rfl, q_pay hU hW hPc hKc hDc hN⟩⟩ rfl rfl hl.1 rfl (lv_room (Nat.le_of_ble_eq_true rfl)) dX3_divide_22 ⟨show 0 + 0 ≤ 0 from by omega, show 0 + 0 ≤ 0 from by omega⟩) hS (fun q _ h => hFc q h) hFc (fun r_2 u9 t H locs ht hvm hw_3 hB hz1 hk1 hS => ?_)
    obtain ⟨fault2_4, regs2_5⟩ := u9
    obtain ⟨hP1, hK1, hD1⟩ := hB
    rw [ht] at hP1
    obtain ⟨hP, hD⟩ := va_join (wr := [(aP, .inr (3, [.ref aR, .ref aF])), (aT, .inl (cT, 400, .inl told)), (aF, .inr (0, [.int fn, .int fz, .int fv, .int fc]))]) (w1 := [(aR, .inr (2, [.ref aM, .ref aA, .ref aB, .int fault2_4])), (aA, .inl (cA, 8, .inl regs2_5)), (aM, .inr (1, [.ref aW, .ref aT, .int cnt])), (aW, .inl (cW, 2048, .inl words))]) hP hD [1, 2, 3, 4] [0, 5, 6] rfl rfl (by decide) (by decide) hk1 hFc hP1 hD1
    have hP : va_P (dC, dI) vwCl [(aP, .inr (3, [.ref aR, .ref aF])), (aT, .inl (cT, 400, .inl told)), (aF, .inr (0, [.int fn, .int fz, .int fv, .int fc])), (aR, .inr (2, [.ref aM, .ref aA, .ref aB, .int fault2_4])), (aA, .inl (cA, 8, .inl regs2_5)), (aM, .inr (1, [.ref aW, .ref aT, .int cnt])), (aW, .inl (cW, 2048, .inl words))] H := hP
    have hD : va_D A [(aP, .inr (3, [.ref aR, .ref aF])), (aT, .inl (cT, 400, .inl told)), (aF, .inr (0, [.int fn, .int fz, .int fv, .int fc])), (aR, .inr (2, [.ref aM, .ref aA, .ref aB, .int fault2_4])), (aA, .inl (cA, 8, .inl regs2_5)), (aM, .inr (1, [.ref aW, .ref aT, .int cnt])), (aW, .inl (cW, 2048, .inl words))] := hD
    refine W.widen (k := 0) (n := 0) (by omega) (by omega) ?_
    try dsimp only at hw_3
    refine lv_ldc (v := 65535) hx hb hown (hts (.constant RX3 69 (65535)) (by decide +kernel)) dX3_divide_25 ?_
    have hPc := hP.sub (ws' := [(aR, .inr (2, [.ref aM, .ref aA, .ref aB, .int fault2_4])), (aA, .inl (cA, 8, .inl regs2_5)), (aM, .inr (1, [.ref aW, .ref aT, .int cnt])), (aW, .inl (cW, 2048, .inl words))]) [3, 4, 5, 6] rfl
    have hDc := hD.sub (ws' := [(aR, .inr (2, [.ref aM, .ref aA, .ref aB, .int fault2_4])), (aA, .inl (cA, 8, .inl regs2_5)), (aM, .inr (1, [.ref aW, .ref aT, .int cnt])), (aW, .inl (cW, 2048, .inl words))]) [3, 4, 5, 6] (by decide) rfl
    have hKc := hK.sub (tys' := [(cA, .int), (cW, .int)]) [0, 1] rfl
    have hFc := va_free (wc := [(aR, .inr (2, [.ref aM, .ref aA, .ref aB, .int fault2_4])), (aA, .inl (cA, 8, .inl regs2_5)), (aM, .inr (1, [.ref aW, .ref aT, .int cnt])), (aW, .inl (cW, 2048, .inl words))]) hD hS hA [3, 4, 5, 6] rfl
    refine va_calli (va_runV (C := RX2) (b := aR) (As := [.int r_2, .int 65535]) (rest := []) ⟨hx, hb, hml, hown, hts⟩ (s_X2_fetch l dC dI H.size aR r_2 (65535 : Int32) aM aA aB fault2_4 cA regs2_5 aW aT cnt cW words) (cwV 2 hts gX3_divide_X2_fetch rfl rfl rfl (by decide +kernel) ⟨Nat.le_of_ble_eq_true rfl, Nat.le_of_ble_eq_true rfl⟩) ⟨q_blind, va_recv hK hP (ci := 2) (q0 := 3) rfl rfl, fun U hU hW => ⟨rfl, q_pay hU hW hPc hKc hDc hN⟩⟩ rfl rfl hl.1 rfl (lv_room (Nat.le_of_ble_eq_true rfl)) dX3_divide_27 ⟨show 0 + 0 ≤ 0 from by omega, show 0 + 0 ≤ 0 from by omega⟩) hS (fun q _ h => hFc q h) hFc (fun r_6 u9 t H locs ht hvm hw_7 hB hz1 hk1 hS => ?_)
    obtain ⟨fault2_8, rfl⟩ : ∃ z, z = u9 := ⟨_, rfl⟩
    obtain ⟨hP1, hK1, hD1⟩ := hB
    rw [ht] at hP1
    obtain ⟨hP, hD⟩ := va_join (wr := [(aP, .inr (3, [.ref aR, .ref aF])), (aT, .inl (cT, 400, .inl told)), (aF, .inr (0, [.int fn, .int fz, .int fv, .int fc]))]) (w1 := [(aR, .inr (2, [.ref aM, .ref aA, .ref aB, .int fault2_8])), (aA, .inl (cA, 8, .inl regs2_5)), (aM, .inr (1, [.ref aW, .ref aT, .int cnt])), (aW, .inl (cW, 2048, .inl words))]) hP hD [3, 4, 5, 6] [0, 1, 2] rfl rfl (by decide) (by decide) hk1 hFc hP1 hD1
    have hP : va_P (dC, dI) vwCl [(aP, .inr (3, [.ref aR, .ref aF])), (aT, .inl (cT, 400, .inl told)), (aF, .inr (0, [.int fn, .int fz, .int fv, .int fc])), (aR, .inr (2, [.ref aM, .ref aA, .ref aB, .int fault2_8])), (aA, .inl (cA, 8, .inl regs2_5)), (aM, .inr (1, [.ref aW, .ref aT, .int cnt])), (aW, .inl (cW, 2048, .inl words))] H := hP
    have hD : va_D A [(aP, .inr (3, [.ref aR, .ref aF])), (aT, .inl (cT, 400, .inl told)), (aF, .inr (0, [.int fn, .int fz, .int fv, .int fc])), (aR, .inr (2, [.ref aM, .ref aA, .ref aB, .int fault2_8])), (aA, .inl (cA, 8, .inl regs2_5)), (aM, .inr (1, [.ref aW, .ref aT, .int cnt])), (aW, .inl (cW, 2048, .inl words))] := hD
    refine W.widen (k := 0) (n := 0) (by omega) (by omega) ?_
    try dsimp only at hw_7
    refine lv_ldc (v := 65535) hx hb hown (hts (.constant RX3 69 (65535)) (by decide +kernel)) dX3_divide_30 ?_
    have hPc := hP.sub (ws' := []) [] rfl
    have hDc := hD.sub (ws' := []) [] (by decide) rfl
    have hKc := hK.sub (tys' := []) [] rfl
    have hFc := va_free (wc := []) hD hS hA [] rfl
    refine va_calli (va_runSN (As := [.int r_6, .int 65535]) (rest := []) ⟨hx, hb, hml, hown, hts⟩ (s_X4_signed l dC dI H.size r_6 (65535 : Int32)) ⟨va_cnB 2 hts gX3_divide_X4_signed_n178 rfl rfl rfl (hN _ (List.mem_of_getElem? (i := 15) rfl)) (hts (.initialized RX4) (by decide +kernel)) (by decide +kernel) ⟨Nat.le_of_ble_eq_true rfl, Nat.le_of_ble_eq_true rfl⟩, hts (.static yX4_signed) (by decide +kernel), trivial⟩ ⟨q_blind, fun U hU hW => ⟨rfl, q_pay hU hW hPc hKc hDc hN⟩⟩ rfl rfl hl.1 rfl (lv_room (Nat.le_of_ble_eq_true rfl)) dX3_divide_32 ⟨show 0 + 0 ≤ 0 from by omega, show 0 + 0 ≤ 0 from by omega⟩) hS (fun q _ h => hFc q h) hFc (fun r_9 u9 t H locs ht hvm hw_10 hB hz1 hk1 hS => ?_)
    obtain ⟨hP1, hK1, hD1⟩ := hB
    rw [ht] at hP1
    obtain ⟨hP, hD⟩ := va_join (wr := [(aP, .inr (3, [.ref aR, .ref aF])), (aT, .inl (cT, 400, .inl told)), (aF, .inr (0, [.int fn, .int fz, .int fv, .int fc])), (aR, .inr (2, [.ref aM, .ref aA, .ref aB, .int fault2_8])), (aA, .inl (cA, 8, .inl regs2_5)), (aM, .inr (1, [.ref aW, .ref aT, .int cnt])), (aW, .inl (cW, 2048, .inl words))]) (w1 := []) hP hD [] [0, 1, 2, 3, 4, 5, 6] rfl rfl (by decide) (by decide) hk1 hFc hP1 hD1
    have hP : va_P (dC, dI) vwCl [(aP, .inr (3, [.ref aR, .ref aF])), (aT, .inl (cT, 400, .inl told)), (aF, .inr (0, [.int fn, .int fz, .int fv, .int fc])), (aR, .inr (2, [.ref aM, .ref aA, .ref aB, .int fault2_8])), (aA, .inl (cA, 8, .inl regs2_5)), (aM, .inr (1, [.ref aW, .ref aT, .int cnt])), (aW, .inl (cW, 2048, .inl words))] H := hP
    have hD : va_D A [(aP, .inr (3, [.ref aR, .ref aF])), (aT, .inl (cT, 400, .inl told)), (aF, .inr (0, [.int fn, .int fz, .int fv, .int fc])), (aR, .inr (2, [.ref aM, .ref aA, .ref aB, .int fault2_8])), (aA, .inl (cA, 8, .inl regs2_5)), (aM, .inr (1, [.ref aW, .ref aT, .int cnt])), (aW, .inl (cW, 2048, .inl words))] := hD
    refine W.widen (k := 0) (n := 0) (by omega) (by omega) ?_
    try dsimp only at hw_10
    refine lv_istore_n (lv' := [(3, .int r_9), (0, .ref aP), (1, .int rr), (2, .int k)]) hx hb dX3_divide_35 rfl hl (by decide) rfl (fun ls hl => ?_)
    refine lv_iload_n hx hb dX3_divide_36 rfl (lv_at hl 0 rfl) ?_
    refine lv_if_ne (tgt := 57) hx hb dX3_divide_37 (by decide) (fun c_11 => ?_) (fun c_11 => ?_)
    · refine lv_aload_n hx hb dX3_divide_57 rfl (lv_at hl 1 rfl) ?_
      refine va_get (D := (dC, dI)) (ci := 3) (v := .ref aR) (C := RX3) (T := TX3) (N := 2) hx hb hts (by decide +kernel) hown hK hP 0 rfl rfl 0 (by decide) (hts (.fieldLink RX3 23 "WordGuest$Processor" "parts" "LWordGuest$Parts;") (by decide +kernel)) (fun _ h9 => h9) rfl dX3_divide_58 ?_
      refine va_getN (D := (dC, dI)) (ci := 2) (v := .ref aA) (C := RX2) (T := TX2) (N := 4) hx hb hts (by decide +kernel) hown hK hP 3 rfl rfl 1 (by decide) ((va_Nw.use rfl (hN _ (List.mem_of_getElem? (i := 9) rfl)))) (fun _ h9 => h9) rfl dX3_divide_61 ?_
      refine lv_iload_n hx hb dX3_divide_64 rfl (lv_at hl 2 rfl) ?_
      refine va_iald hx hb hK hP 4 0 rfl rfl hr9 dX3_divide_65 ?_
      refine lv_bipush (v := 16) hx hb dX3_divide_66 (by decide) ?_
      refine lv_ishl hx hb dX3_divide_68 ?_
      refine lv_aload_n hx hb dX3_divide_69 rfl (lv_at hl 1 rfl) ?_
      refine va_get (D := (dC, dI)) (ci := 3) (v := .ref aR) (C := RX3) (T := TX3) (N := 2) hx hb hts (by decide +kernel) hown hK hP 0 rfl rfl 0 (by decide) (hts (.fieldLink RX3 23 "WordGuest$Processor" "parts" "LWordGuest$Parts;") (by decide +kernel)) (fun _ h9 => h9) rfl dX3_divide_70 ?_
      refine va_getN (D := (dC, dI)) (ci := 2) (v := .ref aA) (C := RX2) (T := TX2) (N := 4) hx hb hts (by decide +kernel) hown hK hP 3 rfl rfl 1 (by decide) ((va_Nw.use rfl (hN _ (List.mem_of_getElem? (i := 9) rfl)))) (fun _ h9 => h9) rfl dX3_divide_73 ?_
      refine lv_iload_n hx hb dX3_divide_76 rfl (lv_at hl 2 rfl) ?_
      refine lv_iconst (v := 1) hx hb dX3_divide_77 (by decide) ?_
      refine lv_ior hx hb dX3_divide_78 ?_
      refine va_iald hx hb hK hP 4 0 rfl rfl (q_or1 hr9) dX3_divide_79 ?_
      refine lv_ior hx hb dX3_divide_80 ?_
      refine lv_i2l (v := Int32.toInt64 (((regs2_5 rr.toNatClampNeg) <<< (16 &&& 31)) ||| (regs2_5 (rr ||| 1).toNatClampNeg))) hx hb dX3_divide_81 rfl ?_
      refine lv_lstore (lv' := [(4, .long (Int32.toInt64 (((regs2_5 rr.toNatClampNeg) <<< (16 &&& 31)) ||| (regs2_5 (rr ||| 1).toNatClampNeg)))), (3, .int r_9), (0, .ref aP), (1, .int rr), (2, .int k)]) hx hb dX3_divide_82 hl (by decide) rfl (fun ls hl => ?_)
      refine lv_lload hx hb dX3_divide_84 (lv_at hl 0 rfl) ?_
      refine lv_iload_n hx hb dX3_divide_86 rfl (lv_at hl 1 rfl) ?_
      refine lv_i2l (v := Int32.toInt64 r_9) hx hb dX3_divide_87 rfl ?_
      refine lv_ldiv hx hb dX3_divide_88 (q_lnz c_11) ?_
      refine lv_lstore (lv' := [(6, .long ((Int32.toInt64 (((regs2_5 rr.toNatClampNeg) <<< (16 &&& 31)) ||| (regs2_5 (rr ||| 1).toNatClampNeg))) / (Int32.toInt64 r_9))), (4, .long (Int32.toInt64 (((regs2_5 rr.toNatClampNeg) <<< (16 &&& 31)) ||| (regs2_5 (rr ||| 1).toNatClampNeg)))), (3, .int r_9), (0, .ref aP), (1, .int rr), (2, .int k)]) hx hb dX3_divide_89 hl (by decide) rfl (fun ls hl => ?_)
      refine lv_aload_n hx hb dX3_divide_91 rfl (lv_at hl 3 rfl) ?_
      refine va_get (D := (dC, dI)) (ci := 3) (v := .ref aF) (C := RX3) (T := TX3) (N := 2) hx hb hts (by decide +kernel) hown hK hP 0 rfl rfl 1 (by decide) (hts (.fieldLink RX3 12 "WordGuest$Processor" "conditions" "LWordGuest$Flags;") (by decide +kernel)) (fun _ h9 => h9) rfl dX3_divide_92 ?_
      refine lv_iconst (v := 0) hx hb dX3_divide_95 (by decide) ?_
      refine va_putN (D := (dC, dI)) (ci := 0) (v := .int 0) (ty := .boolean) (C := RX0) (T := TX0) (N := 4) hx hb hts (by decide +kernel) tyX0 tyX0_ok nmX0 hown hK hP hD hS 2 rfl rfl 3 (by decide) ((va_Nw.use rfl (hN _ (List.mem_of_getElem? (i := 7) rfl)))) (fun _ h9 => h9) rfl (by decide +kernel) (by decide) (by decide) (Nat.le_of_ble_eq_true rfl) dX3_divide_96 (fun H locs hP hD hS => ?_)
      have hP : va_P (dC, dI) vwCl [(aP, .inr (3, [.ref aR, .ref aF])), (aT, .inl (cT, 400, .inl told)), (aF, .inr (0, [.int fn, .int fz, .int fv, .int 0])), (aR, .inr (2, [.ref aM, .ref aA, .ref aB, .int fault2_8])), (aA, .inl (cA, 8, .inl regs2_5)), (aM, .inr (1, [.ref aW, .ref aT, .int cnt])), (aW, .inl (cW, 2048, .inl words))] H := hP
      have hD : va_D A [(aP, .inr (3, [.ref aR, .ref aF])), (aT, .inl (cT, 400, .inl told)), (aF, .inr (0, [.int fn, .int fz, .int fv, .int 0])), (aR, .inr (2, [.ref aM, .ref aA, .ref aB, .int fault2_8])), (aA, .inl (cA, 8, .inl regs2_5)), (aM, .inr (1, [.ref aW, .ref aT, .int cnt])), (aW, .inl (cW, 2048, .inl words))] := hD
      refine lv_aload_n hx hb dX3_divide_99 rfl (lv_at hl 3 rfl) ?_
      refine va_get (D := (dC, dI)) (ci := 3) (v := .ref aF) (C := RX3) (T := TX3) (N := 2) hx hb hts (by decide +kernel) hown hK hP 0 rfl rfl 1 (by decide) (hts (.fieldLink RX3 12 "WordGuest$Processor" "conditions" "LWordGuest$Flags;") (by decide +kernel)) (fun _ h9 => h9) rfl dX3_divide_100 ?_
      refine lv_lload hx hb dX3_divide_103 (lv_at hl 0 rfl) ?_
      have hPc := hP.sub (ws' := []) [] rfl
      have hDc := hD.sub (ws' := []) [] (by decide) rfl
      have hKc := hK.sub (tys' := []) [] rfl
      have hFc := va_free (wc := []) hD hS hA [] rfl
      refine va_calli (va_runS (As := [.long ((Int32.toInt64 (((regs2_5 rr.toNatClampNeg) <<< (16 &&& 31)) ||| (regs2_5 (rr ||| 1).toNatClampNeg))) / (Int32.toInt64 r_9))]) (rest := [.ref aF]) ⟨hx, hb, hml, hown, hts⟩ (s_X3_fitsWord l dC dI H.size ((Int32.toInt64 (((regs2_5 rr.toNatClampNeg) <<< (16 &&& 31)) ||| (regs2_5 (rr ||| 1).toNatClampNeg))) / (Int32.toInt64 r_9))) (va_cwS 1 hts gX3_divide_X3_fitsWord rfl rfl rfl (by decide +kernel) ⟨Nat.le_of_ble_eq_true rfl, Nat.le_of_ble_eq_true rfl⟩) ⟨q_blind, fun U hU hW => ⟨rfl, q_pay hU hW hPc hKc hDc hN⟩⟩ rfl rfl hl.1 rfl (lv_room (Nat.le_of_ble_eq_true rfl)) dX3_divide_105 ⟨show 0 + 0 ≤ 0 from by omega, show 0 + 0 ≤ 0 from by omega⟩) hS (fun q _ h => hFc q h) hFc (fun r_12 u9 t H locs ht hvm hw_13 hB hz1 hk1 hS => ?_)
      obtain ⟨hP1, hK1, hD1⟩ := hB
      rw [ht] at hP1
      obtain ⟨hP, hD⟩ := va_join (wr := [(aP, .inr (3, [.ref aR, .ref aF])), (aT, .inl (cT, 400, .inl told)), (aF, .inr (0, [.int fn, .int fz, .int fv, .int 0])), (aR, .inr (2, [.ref aM, .ref aA, .ref aB, .int fault2_8])), (aA, .inl (cA, 8, .inl regs2_5)), (aM, .inr (1, [.ref aW, .ref aT, .int cnt])), (aW, .inl (cW, 2048, .inl words))]) (w1 := []) hP hD [] [0, 1, 2, 3, 4, 5, 6] rfl rfl (by decide) (by decide) hk1 hFc hP1 hD1
      have hP : va_P (dC, dI) vwCl [(aP, .inr (3, [.ref aR, .ref aF])), (aT, .inl (cT, 400, .inl told)), (aF, .inr (0, [.int fn, .int fz, .int fv, .int 0])), (aR, .inr (2, [.ref aM, .ref aA, .ref aB, .int fault2_8])), (aA, .inl (cA, 8, .inl regs2_5)), (aM, .inr (1, [.ref aW, .ref aT, .int cnt])), (aW, .inl (cW, 2048, .inl words))] H := hP
      have hD : va_D A [(aP, .inr (3, [.ref aR, .ref aF])), (aT, .inl (cT, 400, .inl told)), (aF, .inr (0, [.int fn, .int fz, .int fv, .int 0])), (aR, .inr (2, [.ref aM, .ref aA, .ref aB, .int fault2_8])), (aA, .inl (cA, 8, .inl regs2_5)), (aM, .inr (1, [.ref aW, .ref aT, .int cnt])), (aW, .inl (cW, 2048, .inl words))] := hD
      refine W.widen (k := 0) (n := 0) (by omega) (by omega) ?_
      try dsimp only at hw_13
      refine q_bool (ls := ls) 116 [.ref aF] (fun b_15 hb_16 => ?_) (fun jn => ?_)
      · refine va_putN (D := (dC, dI)) (ci := 0) (v := .int b_15) (ty := .boolean) (C := RX0) (T := TX0) (N := 4) hx hb hts (by decide +kernel) tyX0 tyX0_ok nmX0 hown hK hP hD hS 2 rfl rfl 2 (by decide) ((va_Nw.use rfl (hN _ (List.mem_of_getElem? (i := 6) rfl)))) (fun _ h9 => h9) rfl (by decide +kernel) (q_nz hb_16) (q_fz hb_16) (Nat.le_of_ble_eq_true rfl) dX3_divide_116 (fun H locs hP hD hS => ?_)
        have hP : va_P (dC, dI) vwCl [(aP, .inr (3, [.ref aR, .ref aF])), (aT, .inl (cT, 400, .inl told)), (aF, .inr (0, [.int fn, .int fz, .int b_15, .int 0])), (aR, .inr (2, [.ref aM, .ref aA, .ref aB, .int fault2_8])), (aA, .inl (cA, 8, .inl regs2_5)), (aM, .inr (1, [.ref aW, .ref aT, .int cnt])), (aW, .inl (cW, 2048, .inl words))] H := hP
        have hD : va_D A [(aP, .inr (3, [.ref aR, .ref aF])), (aT, .inl (cT, 400, .inl told)), (aF, .inr (0, [.int fn, .int fz, .int b_15, .int 0])), (aR, .inr (2, [.ref aM, .ref aA, .ref aB, .int fault2_8])), (aA, .inl (cA, 8, .inl regs2_5)), (aM, .inr (1, [.ref aW, .ref aT, .int cnt])), (aW, .inl (cW, 2048, .inl words))] := hD
        refine lv_aload_n hx hb dX3_divide_119 rfl (lv_at hl 3 rfl) ?_
        refine va_get (D := (dC, dI)) (ci := 3) (v := .ref aF) (C := RX3) (T := TX3) (N := 2) hx hb hts (by decide +kernel) hown hK hP 0 rfl rfl 1 (by decide) (hts (.fieldLink RX3 12 "WordGuest$Processor" "conditions" "LWordGuest$Flags;") (by decide +kernel)) (fun _ h9 => h9) rfl dX3_divide_120 ?_
        refine va_getN (D := (dC, dI)) (ci := 0) (v := .int b_15) (C := RX0) (T := TX0) (N := 4) hx hb hts (by decide +kernel) hown hK hP 2 rfl rfl 2 (by decide) ((va_Nw.use rfl (hN _ (List.mem_of_getElem? (i := 6) rfl)))) (fun _ h9 => h9) rfl dX3_divide_123 ?_
        refine lv_if_eq (tgt := 130) hx hb dX3_divide_126 (by decide) (fun c_17 => ?_) (fun c_17 => ?_)
        · refine lv_aload_n hx hb dX3_divide_130 rfl (lv_at hl 3 rfl) ?_
          refine va_get (D := (dC, dI)) (ci := 3) (v := .ref aF) (C := RX3) (T := TX3) (N := 2) hx hb hts (by decide +kernel) hown hK hP 0 rfl rfl 1 (by decide) (hts (.fieldLink RX3 12 "WordGuest$Processor" "conditions" "LWordGuest$Flags;") (by decide +kernel)) (fun _ h9 => h9) rfl dX3_divide_131 ?_
          refine lv_lload hx hb dX3_divide_134 (lv_at hl 0 rfl) ?_
          refine lv_lconst (v := 0) hx hb dX3_divide_136 (by decide) ?_
          refine W.lcmp hx hb dX3_divide_137 ?_
          refine q_bool (ls := ls) 146 [.ref aF] (fun b_19 hb_20 => ?_) (fun jn => ?_)
          · refine va_putN (D := (dC, dI)) (ci := 0) (v := .int b_19) (ty := .boolean) (C := RX0) (T := TX0) (N := 4) hx hb hts (by decide +kernel) tyX0 tyX0_ok nmX0 hown hK hP hD hS 2 rfl rfl 0 (by decide) ((va_Nw.use rfl (hN _ (List.mem_of_getElem? (i := 4) rfl)))) (fun _ h9 => h9) rfl (by decide +kernel) (q_nz hb_20) (q_fz hb_20) (Nat.le_of_ble_eq_true rfl) dX3_divide_146 (fun H locs hP hD hS => ?_)
            have hP : va_P (dC, dI) vwCl [(aP, .inr (3, [.ref aR, .ref aF])), (aT, .inl (cT, 400, .inl told)), (aF, .inr (0, [.int b_19, .int fz, .int b_15, .int 0])), (aR, .inr (2, [.ref aM, .ref aA, .ref aB, .int fault2_8])), (aA, .inl (cA, 8, .inl regs2_5)), (aM, .inr (1, [.ref aW, .ref aT, .int cnt])), (aW, .inl (cW, 2048, .inl words))] H := hP
            have hD : va_D A [(aP, .inr (3, [.ref aR, .ref aF])), (aT, .inl (cT, 400, .inl told)), (aF, .inr (0, [.int b_19, .int fz, .int b_15, .int 0])), (aR, .inr (2, [.ref aM, .ref aA, .ref aB, .int fault2_8])), (aA, .inl (cA, 8, .inl regs2_5)), (aM, .inr (1, [.ref aW, .ref aT, .int cnt])), (aW, .inl (cW, 2048, .inl words))] := hD
            refine lv_aload_n hx hb dX3_divide_149 rfl (lv_at hl 3 rfl) ?_
            refine va_get (D := (dC, dI)) (ci := 3) (v := .ref aF) (C := RX3) (T := TX3) (N := 2) hx hb hts (by decide +kernel) hown hK hP 0 rfl rfl 1 (by decide) (hts (.fieldLink RX3 12 "WordGuest$Processor" "conditions" "LWordGuest$Flags;") (by decide +kernel)) (fun _ h9 => h9) rfl dX3_divide_150 ?_
            refine lv_lload hx hb dX3_divide_153 (lv_at hl 0 rfl) ?_
            refine lv_lconst (v := 0) hx hb dX3_divide_155 (by decide) ?_
            refine W.lcmp hx hb dX3_divide_156 ?_
            refine q_bool (ls := ls) 165 [.ref aF] (fun b_22 hb_23 => ?_) (fun jn => ?_)
            · refine va_putN (D := (dC, dI)) (ci := 0) (v := .int b_22) (ty := .boolean) (C := RX0) (T := TX0) (N := 4) hx hb hts (by decide +kernel) tyX0 tyX0_ok nmX0 hown hK hP hD hS 2 rfl rfl 1 (by decide) ((va_Nw.use rfl (hN _ (List.mem_of_getElem? (i := 5) rfl)))) (fun _ h9 => h9) rfl (by decide +kernel) (q_nz hb_23) (q_fz hb_23) (Nat.le_of_ble_eq_true rfl) dX3_divide_165 (fun H locs hP hD hS => ?_)
              have hP : va_P (dC, dI) vwCl [(aP, .inr (3, [.ref aR, .ref aF])), (aT, .inl (cT, 400, .inl told)), (aF, .inr (0, [.int b_19, .int b_22, .int b_15, .int 0])), (aR, .inr (2, [.ref aM, .ref aA, .ref aB, .int fault2_8])), (aA, .inl (cA, 8, .inl regs2_5)), (aM, .inr (1, [.ref aW, .ref aT, .int cnt])), (aW, .inl (cW, 2048, .inl words))] H := hP
              have hD : va_D A [(aP, .inr (3, [.ref aR, .ref aF])), (aT, .inl (cT, 400, .inl told)), (aF, .inr (0, [.int b_19, .int b_22, .int b_15, .int 0])), (aR, .inr (2, [.ref aM, .ref aA, .ref aB, .int fault2_8])), (aA, .inl (cA, 8, .inl regs2_5)), (aM, .inr (1, [.ref aW, .ref aT, .int cnt])), (aW, .inl (cW, 2048, .inl words))] := hD
              refine lv_aload_n hx hb dX3_divide_168 rfl (lv_at hl 3 rfl) ?_
              refine va_get (D := (dC, dI)) (ci := 3) (v := .ref aR) (C := RX3) (T := TX3) (N := 2) hx hb hts (by decide +kernel) hown hK hP 0 rfl rfl 0 (by decide) (hts (.fieldLink RX3 23 "WordGuest$Processor" "parts" "LWordGuest$Parts;") (by decide +kernel)) (fun _ h9 => h9) rfl dX3_divide_169 ?_
              refine va_getN (D := (dC, dI)) (ci := 2) (v := .ref aA) (C := RX2) (T := TX2) (N := 4) hx hb hts (by decide +kernel) hown hK hP 3 rfl rfl 1 (by decide) ((va_Nw.use rfl (hN _ (List.mem_of_getElem? (i := 9) rfl)))) (fun _ h9 => h9) rfl dX3_divide_172 ?_
              refine lv_iload_n hx hb dX3_divide_175 rfl (lv_at hl 4 rfl) ?_
              refine lv_lload hx hb dX3_divide_176 (lv_at hl 0 rfl) ?_
              refine lv_ldc2 (v := 65535) hx hb hown (hts (.constantLong RX3 189 (65535)) (by decide +kernel)) dX3_divide_178 ?_
              refine lv_land hx hb dX3_divide_181 ?_
              refine lv_l2i (v := Int64.toInt32 (((Int32.toInt64 (((regs2_5 rr.toNatClampNeg) <<< (16 &&& 31)) ||| (regs2_5 (rr ||| 1).toNatClampNeg))) / (Int32.toInt64 r_9)) &&& (65535 : Int64))) hx hb dX3_divide_182 rfl ?_
              refine va_iast hx hb hK hP hD hS 4 0 rfl rfl hr9 dX3_divide_183 (fun H locs hP hD hS => ?_)
              have hP : va_P (dC, dI) vwCl [(aP, .inr (3, [.ref aR, .ref aF])), (aT, .inl (cT, 400, .inl told)), (aF, .inr (0, [.int b_19, .int b_22, .int b_15, .int 0])), (aR, .inr (2, [.ref aM, .ref aA, .ref aB, .int fault2_8])), (aA, .inl (cA, 8, .inl (upd regs2_5 rr.toNatClampNeg (Int64.toInt32 (((Int32.toInt64 (((regs2_5 rr.toNatClampNeg) <<< (16 &&& 31)) ||| (regs2_5 (rr ||| 1).toNatClampNeg))) / (Int32.toInt64 r_9)) &&& (65535 : Int64)))))), (aM, .inr (1, [.ref aW, .ref aT, .int cnt])), (aW, .inl (cW, 2048, .inl words))] H := hP
              have hD : va_D A [(aP, .inr (3, [.ref aR, .ref aF])), (aT, .inl (cT, 400, .inl told)), (aF, .inr (0, [.int b_19, .int b_22, .int b_15, .int 0])), (aR, .inr (2, [.ref aM, .ref aA, .ref aB, .int fault2_8])), (aA, .inl (cA, 8, .inl (upd regs2_5 rr.toNatClampNeg (Int64.toInt32 (((Int32.toInt64 (((regs2_5 rr.toNatClampNeg) <<< (16 &&& 31)) ||| (regs2_5 (rr ||| 1).toNatClampNeg))) / (Int32.toInt64 r_9)) &&& (65535 : Int64)))))), (aM, .inr (1, [.ref aW, .ref aT, .int cnt])), (aW, .inl (cW, 2048, .inl words))] := hD
              generalize (upd regs2_5 rr.toNatClampNeg (Int64.toInt32 (((Int32.toInt64 (((regs2_5 rr.toNatClampNeg) <<< (16 &&& 31)) ||| (regs2_5 (rr ||| 1).toNatClampNeg))) / (Int32.toInt64 r_9)) &&& (65535 : Int64)))) = g_24 at hP hD
              refine lv_aload_n hx hb dX3_divide_184 rfl (lv_at hl 3 rfl) ?_
              refine va_get (D := (dC, dI)) (ci := 3) (v := .ref aR) (C := RX3) (T := TX3) (N := 2) hx hb hts (by decide +kernel) hown hK hP 0 rfl rfl 0 (by decide) (hts (.fieldLink RX3 23 "WordGuest$Processor" "parts" "LWordGuest$Parts;") (by decide +kernel)) (fun _ h9 => h9) rfl dX3_divide_185 ?_
              refine va_getN (D := (dC, dI)) (ci := 2) (v := .ref aA) (C := RX2) (T := TX2) (N := 4) hx hb hts (by decide +kernel) hown hK hP 3 rfl rfl 1 (by decide) ((va_Nw.use rfl (hN _ (List.mem_of_getElem? (i := 9) rfl)))) (fun _ h9 => h9) rfl dX3_divide_188 ?_
              refine lv_iload_n hx hb dX3_divide_191 rfl (lv_at hl 4 rfl) ?_
              refine lv_iconst (v := 1) hx hb dX3_divide_192 (by decide) ?_
              refine lv_ior hx hb dX3_divide_193 ?_
              refine lv_lload hx hb dX3_divide_194 (lv_at hl 1 rfl) ?_
              refine lv_iload_n hx hb dX3_divide_196 rfl (lv_at hl 2 rfl) ?_
              refine lv_i2l (v := Int32.toInt64 r_9) hx hb dX3_divide_197 rfl ?_
              refine lv_lrem hx hb dX3_divide_198 (q_lnz c_11) ?_
              refine lv_ldc2 (v := 65535) hx hb hown (hts (.constantLong RX3 189 (65535)) (by decide +kernel)) dX3_divide_199 ?_
              refine lv_land hx hb dX3_divide_202 ?_
              refine lv_l2i (v := Int64.toInt32 (((Int32.toInt64 (((regs2_5 rr.toNatClampNeg) <<< (16 &&& 31)) ||| (regs2_5 (rr ||| 1).toNatClampNeg))) - (Int32.toInt64 (((regs2_5 rr.toNatClampNeg) <<< (16 &&& 31)) ||| (regs2_5 (rr ||| 1).toNatClampNeg))) / (Int32.toInt64 r_9) * (Int32.toInt64 r_9)) &&& (65535 : Int64))) hx hb dX3_divide_203 rfl ?_
              refine va_iast hx hb hK hP hD hS 4 0 rfl rfl (q_or1 hr9) dX3_divide_204 (fun H locs hP hD hS => ?_)
              have hP : va_P (dC, dI) vwCl [(aP, .inr (3, [.ref aR, .ref aF])), (aT, .inl (cT, 400, .inl told)), (aF, .inr (0, [.int b_19, .int b_22, .int b_15, .int 0])), (aR, .inr (2, [.ref aM, .ref aA, .ref aB, .int fault2_8])), (aA, .inl (cA, 8, .inl (upd g_24 (rr ||| 1).toNatClampNeg (Int64.toInt32 (((Int32.toInt64 (((regs2_5 rr.toNatClampNeg) <<< (16 &&& 31)) ||| (regs2_5 (rr ||| 1).toNatClampNeg))) - (Int32.toInt64 (((regs2_5 rr.toNatClampNeg) <<< (16 &&& 31)) ||| (regs2_5 (rr ||| 1).toNatClampNeg))) / (Int32.toInt64 r_9) * (Int32.toInt64 r_9)) &&& (65535 : Int64)))))), (aM, .inr (1, [.ref aW, .ref aT, .int cnt])), (aW, .inl (cW, 2048, .inl words))] H := hP
              have hD : va_D A [(aP, .inr (3, [.ref aR, .ref aF])), (aT, .inl (cT, 400, .inl told)), (aF, .inr (0, [.int b_19, .int b_22, .int b_15, .int 0])), (aR, .inr (2, [.ref aM, .ref aA, .ref aB, .int fault2_8])), (aA, .inl (cA, 8, .inl (upd g_24 (rr ||| 1).toNatClampNeg (Int64.toInt32 (((Int32.toInt64 (((regs2_5 rr.toNatClampNeg) <<< (16 &&& 31)) ||| (regs2_5 (rr ||| 1).toNatClampNeg))) - (Int32.toInt64 (((regs2_5 rr.toNatClampNeg) <<< (16 &&& 31)) ||| (regs2_5 (rr ||| 1).toNatClampNeg))) / (Int32.toInt64 r_9) * (Int32.toInt64 r_9)) &&& (65535 : Int64)))))), (aM, .inr (1, [.ref aW, .ref aT, .int cnt])), (aW, .inl (cW, 2048, .inl words))] := hD
              generalize (upd g_24 (rr ||| 1).toNatClampNeg (Int64.toInt32 (((Int32.toInt64 (((regs2_5 rr.toNatClampNeg) <<< (16 &&& 31)) ||| (regs2_5 (rr ||| 1).toNatClampNeg))) - (Int32.toInt64 (((regs2_5 rr.toNatClampNeg) <<< (16 &&& 31)) ||| (regs2_5 (rr ||| 1).toNatClampNeg))) / (Int32.toInt64 r_9) * (Int32.toInt64 r_9)) &&& (65535 : Int64)))) = g_25 at hP hD
              have hP9 := hP.sub (ws' := [(aP, .inr (3, [.ref aR, .ref aF])), (aR, .inr (2, [.ref aM, .ref aA, .ref aB, .int fault2_8])), (aA, .inl (cA, 8, .inl g_25)), (aM, .inr (1, [.ref aW, .ref aT, .int cnt])), (aW, .inl (cW, 2048, .inl words)), (aT, .inl (cT, 400, .inl told)), (aF, .inr (0, [.int b_19, .int b_22, .int b_15, .int 0]))]) [0, 3, 4, 5, 6, 1, 2] rfl
              have hD9 := hD.sub (ws' := [(aP, .inr (3, [.ref aR, .ref aF])), (aR, .inr (2, [.ref aM, .ref aA, .ref aB, .int fault2_8])), (aA, .inl (cA, 8, .inl g_25)), (aM, .inr (1, [.ref aW, .ref aT, .int cnt])), (aW, .inl (cW, 2048, .inl words)), (aT, .inl (cT, 400, .inl told)), (aF, .inr (0, [.int b_19, .int b_22, .int b_15, .int 0]))]) [0, 3, 4, 5, 6, 1, 2] (by decide) rfl
              have hK9 := hK.sub (tys' := [(cA, .int), (cW, .int), (cT, .int)]) [0, 1, 2] rfl
              exact W.vret hx hb hr (fun t ht hW => ⟨⟨(fault2_8, g_25, cnt, words, told, b_19, b_22, b_15, 0), rfl, h4, by rw [ht]; exact hP9, va_K.moved hW.alike hK9, hD9⟩, hS.F ht⟩) hS.2.2 dX3_divide_205
            refine lv_if_ne (tgt := 164) hx hb dX3_divide_157 (by decide) (fun c_21 => ?_) (fun c_21 => ?_)
            · refine lv_iconst (v := 0) hx hb dX3_divide_164 (by decide) ?_
              exact jn _ (Or.inl rfl)
            · refine lv_iconst (v := 1) hx hb dX3_divide_160 (by decide) ?_
              refine lv_goto (tgt := 165) hx hb dX3_divide_161 (by decide) ?_
              exact jn _ (Or.inr rfl)
          refine lv_if_ge (tgt := 145) hx hb dX3_divide_138 (by decide) (fun c_18 => ?_) (fun c_18 => ?_)
          · refine lv_iconst (v := 0) hx hb dX3_divide_145 (by decide) ?_
            exact jn _ (Or.inl rfl)
          · refine lv_iconst (v := 1) hx hb dX3_divide_141 (by decide) ?_
            refine lv_goto (tgt := 146) hx hb dX3_divide_142 (by decide) ?_
            exact jn _ (Or.inr rfl)
        · have hP9 := hP.sub (ws' := [(aP, .inr (3, [.ref aR, .ref aF])), (aR, .inr (2, [.ref aM, .ref aA, .ref aB, .int fault2_8])), (aA, .inl (cA, 8, .inl regs2_5)), (aM, .inr (1, [.ref aW, .ref aT, .int cnt])), (aW, .inl (cW, 2048, .inl words)), (aT, .inl (cT, 400, .inl told)), (aF, .inr (0, [.int fn, .int fz, .int b_15, .int 0]))]) [0, 3, 4, 5, 6, 1, 2] rfl
          have hD9 := hD.sub (ws' := [(aP, .inr (3, [.ref aR, .ref aF])), (aR, .inr (2, [.ref aM, .ref aA, .ref aB, .int fault2_8])), (aA, .inl (cA, 8, .inl regs2_5)), (aM, .inr (1, [.ref aW, .ref aT, .int cnt])), (aW, .inl (cW, 2048, .inl words)), (aT, .inl (cT, 400, .inl told)), (aF, .inr (0, [.int fn, .int fz, .int b_15, .int 0]))]) [0, 3, 4, 5, 6, 1, 2] (by decide) rfl
          have hK9 := hK.sub (tys' := [(cA, .int), (cW, .int), (cT, .int)]) [0, 1, 2] rfl
          exact W.vret hx hb hr (fun t ht hW => ⟨⟨(fault2_8, regs2_5, cnt, words, told, fn, fz, b_15, 0), rfl, h4, by rw [ht]; exact hP9, va_K.moved hW.alike hK9, hD9⟩, hS.F ht⟩) hS.2.2 dX3_divide_129
      refine lv_if_ne (tgt := 115) hx hb dX3_divide_108 (by decide) (fun c_14 => ?_) (fun c_14 => ?_)
      · refine lv_iconst (v := 0) hx hb dX3_divide_115 (by decide) ?_
        exact jn _ (Or.inl rfl)
      · refine lv_iconst (v := 1) hx hb dX3_divide_111 (by decide) ?_
        refine lv_goto (tgt := 116) hx hb dX3_divide_112 (by decide) ?_
        exact jn _ (Or.inr rfl)
    · refine lv_aload_n hx hb dX3_divide_40 rfl (lv_at hl 1 rfl) ?_
      refine va_get (D := (dC, dI)) (ci := 3) (v := .ref aF) (C := RX3) (T := TX3) (N := 2) hx hb hts (by decide +kernel) hown hK hP 0 rfl rfl 1 (by decide) (hts (.fieldLink RX3 12 "WordGuest$Processor" "conditions" "LWordGuest$Flags;") (by decide +kernel)) (fun _ h9 => h9) rfl dX3_divide_41 ?_
      refine lv_iconst (v := 1) hx hb dX3_divide_44 (by decide) ?_
      refine va_putN (D := (dC, dI)) (ci := 0) (v := .int 1) (ty := .boolean) (C := RX0) (T := TX0) (N := 4) hx hb hts (by decide +kernel) tyX0 tyX0_ok nmX0 hown hK hP hD hS 2 rfl rfl 2 (by decide) ((va_Nw.use rfl (hN _ (List.mem_of_getElem? (i := 6) rfl)))) (fun _ h9 => h9) rfl (by decide +kernel) (by decide) (by decide) (Nat.le_of_ble_eq_true rfl) dX3_divide_45 (fun H locs hP hD hS => ?_)
      have hP : va_P (dC, dI) vwCl [(aP, .inr (3, [.ref aR, .ref aF])), (aT, .inl (cT, 400, .inl told)), (aF, .inr (0, [.int fn, .int fz, .int 1, .int fc])), (aR, .inr (2, [.ref aM, .ref aA, .ref aB, .int fault2_8])), (aA, .inl (cA, 8, .inl regs2_5)), (aM, .inr (1, [.ref aW, .ref aT, .int cnt])), (aW, .inl (cW, 2048, .inl words))] H := hP
      have hD : va_D A [(aP, .inr (3, [.ref aR, .ref aF])), (aT, .inl (cT, 400, .inl told)), (aF, .inr (0, [.int fn, .int fz, .int 1, .int fc])), (aR, .inr (2, [.ref aM, .ref aA, .ref aB, .int fault2_8])), (aA, .inl (cA, 8, .inl regs2_5)), (aM, .inr (1, [.ref aW, .ref aT, .int cnt])), (aW, .inl (cW, 2048, .inl words))] := hD
      refine lv_aload_n hx hb dX3_divide_48 rfl (lv_at hl 1 rfl) ?_
      refine va_get (D := (dC, dI)) (ci := 3) (v := .ref aF) (C := RX3) (T := TX3) (N := 2) hx hb hts (by decide +kernel) hown hK hP 0 rfl rfl 1 (by decide) (hts (.fieldLink RX3 12 "WordGuest$Processor" "conditions" "LWordGuest$Flags;") (by decide +kernel)) (fun _ h9 => h9) rfl dX3_divide_49 ?_
      refine lv_iconst (v := 1) hx hb dX3_divide_52 (by decide) ?_
      refine va_putN (D := (dC, dI)) (ci := 0) (v := .int 1) (ty := .boolean) (C := RX0) (T := TX0) (N := 4) hx hb hts (by decide +kernel) tyX0 tyX0_ok nmX0 hown hK hP hD hS 2 rfl rfl 3 (by decide) ((va_Nw.use rfl (hN _ (List.mem_of_getElem? (i := 7) rfl)))) (fun _ h9 => h9) rfl (by decide +kernel) (by decide) (by decide) (Nat.le_of_ble_eq_true rfl) dX3_divide_53 (fun H locs hP hD hS => ?_)
      have hP : va_P (dC, dI) vwCl [(aP, .inr (3, [.ref aR, .ref aF])), (aT, .inl (cT, 400, .inl told)), (aF, .inr (0, [.int fn, .int fz, .int 1, .int 1])), (aR, .inr (2, [.ref aM, .ref aA, .ref aB, .int fault2_8])), (aA, .inl (cA, 8, .inl regs2_5)), (aM, .inr (1, [.ref aW, .ref aT, .int cnt])), (aW, .inl (cW, 2048, .inl words))] H := hP
      have hD : va_D A [(aP, .inr (3, [.ref aR, .ref aF])), (aT, .inl (cT, 400, .inl told)), (aF, .inr (0, [.int fn, .int fz, .int 1, .int 1])), (aR, .inr (2, [.ref aM, .ref aA, .ref aB, .int fault2_8])), (aA, .inl (cA, 8, .inl regs2_5)), (aM, .inr (1, [.ref aW, .ref aT, .int cnt])), (aW, .inl (cW, 2048, .inl words))] := hD
      have hP9 := hP.sub (ws' := [(aP, .inr (3, [.ref aR, .ref aF])), (aR, .inr (2, [.ref aM, .ref aA, .ref aB, .int fault2_8])), (aA, .inl (cA, 8, .inl regs2_5)), (aM, .inr (1, [.ref aW, .ref aT, .int cnt])), (aW, .inl (cW, 2048, .inl words)), (aT, .inl (cT, 400, .inl told)), (aF, .inr (0, [.int fn, .int fz, .int 1, .int 1]))]) [0, 3, 4, 5, 6, 1, 2] rfl
      have hD9 := hD.sub (ws' := [(aP, .inr (3, [.ref aR, .ref aF])), (aR, .inr (2, [.ref aM, .ref aA, .ref aB, .int fault2_8])), (aA, .inl (cA, 8, .inl regs2_5)), (aM, .inr (1, [.ref aW, .ref aT, .int cnt])), (aW, .inl (cW, 2048, .inl words)), (aT, .inl (cT, 400, .inl told)), (aF, .inr (0, [.int fn, .int fz, .int 1, .int 1]))]) [0, 3, 4, 5, 6, 1, 2] (by decide) rfl
      have hK9 := hK.sub (tys' := [(cA, .int), (cW, .int), (cT, .int)]) [0, 1, 2] rfl
      exact W.vret hx hb hr (fun t ht hW => ⟨⟨(fault2_8, regs2_5, cnt, words, told, fn, fz, 1, 1), rfl, h4, by rw [ht]; exact hP9, va_K.moved hW.alike hK9, hD9⟩, hS.F ht⟩) hS.2.2 dX3_divide_56
  · refine lv_aload_n hx hb dX3_divide_6 rfl (lv_at hl 0 rfl) ?_
    have hPc := hP.sub (ws' := [(aP, .inr (3, [.ref aR, .ref aF])), (aR, .inr (2, [.ref aM, .ref aA, .ref aB, .int fault]))]) [0, 1] rfl
    have hDc := hD.sub (ws' := [(aP, .inr (3, [.ref aR, .ref aF])), (aR, .inr (2, [.ref aM, .ref aA, .ref aB, .int fault]))]) [0, 1] (by decide) rfl
    have hKc := hK.sub (tys' := []) [] rfl
    have hFc := va_free (wc := [(aP, .inr (3, [.ref aR, .ref aF])), (aR, .inr (2, [.ref aM, .ref aA, .ref aB, .int fault]))]) hD hS hA [0, 1] rfl
    refine va_callv (va_runV (C := RX3) (b := aP) (As := []) (rest := []) ⟨hx, hb, hml, hown, hts⟩ (s_X3_refuse l dC dI s.heap.size aP aR aF aM aA aB fault) (cwV 0 hts gX3_divide_X3_refuse rfl rfl rfl (by decide +kernel) ⟨Nat.le_of_ble_eq_true rfl, Nat.le_of_ble_eq_true rfl⟩) ⟨q_blind, va_recv hK hP (ci := 3) (q0 := 0) rfl rfl, fun U hU hW => ⟨rfl, q_pay hU hW hPc hKc hDc hN⟩⟩ rfl rfl hl.1 rfl (lv_room (Nat.le_of_ble_eq_true rfl)) dX3_divide_7 ⟨show 0 + 0 ≤ 0 from by omega, show 0 + 0 ≤ 0 from by omega⟩) hS (fun q _ h => hFc q h) hFc (fun u9 t H locs ht hvm hw_27 hB hz1 hk1 hS => ?_)
    obtain ⟨fault2_28, rfl⟩ : ∃ z, z = u9 := ⟨_, rfl⟩
    obtain ⟨hP1, hK1, hD1⟩ := hB
    rw [ht] at hP1
    obtain ⟨hP, hD⟩ := va_join (wr := [(aA, .inl (cA, 8, .inl regs)), (aM, .inr (1, [.ref aW, .ref aT, .int cnt])), (aW, .inl (cW, 2048, .inl words)), (aT, .inl (cT, 400, .inl told)), (aF, .inr (0, [.int fn, .int fz, .int fv, .int fc]))]) (w1 := [(aP, .inr (3, [.ref aR, .ref aF])), (aR, .inr (2, [.ref aM, .ref aA, .ref aB, .int fault2_28]))]) hP hD [0, 1] [2, 3, 4, 5, 6] rfl rfl (by decide) (by decide) hk1 hFc hP1 hD1
    have hP : va_P (dC, dI) vwCl [(aA, .inl (cA, 8, .inl regs)), (aM, .inr (1, [.ref aW, .ref aT, .int cnt])), (aW, .inl (cW, 2048, .inl words)), (aT, .inl (cT, 400, .inl told)), (aF, .inr (0, [.int fn, .int fz, .int fv, .int fc])), (aP, .inr (3, [.ref aR, .ref aF])), (aR, .inr (2, [.ref aM, .ref aA, .ref aB, .int fault2_28]))] H := hP
    have hD : va_D A [(aA, .inl (cA, 8, .inl regs)), (aM, .inr (1, [.ref aW, .ref aT, .int cnt])), (aW, .inl (cW, 2048, .inl words)), (aT, .inl (cT, 400, .inl told)), (aF, .inr (0, [.int fn, .int fz, .int fv, .int fc])), (aP, .inr (3, [.ref aR, .ref aF])), (aR, .inr (2, [.ref aM, .ref aA, .ref aB, .int fault2_28]))] := hD
    refine W.widen (k := 0) (n := 0) (by omega) (by omega) ?_
    try dsimp only at hw_27
    have hP9 := hP.sub (ws' := [(aP, .inr (3, [.ref aR, .ref aF])), (aR, .inr (2, [.ref aM, .ref aA, .ref aB, .int fault2_28])), (aA, .inl (cA, 8, .inl regs)), (aM, .inr (1, [.ref aW, .ref aT, .int cnt])), (aW, .inl (cW, 2048, .inl words)), (aT, .inl (cT, 400, .inl told)), (aF, .inr (0, [.int fn, .int fz, .int fv, .int fc]))]) [5, 6, 0, 1, 2, 3, 4] rfl
    have hD9 := hD.sub (ws' := [(aP, .inr (3, [.ref aR, .ref aF])), (aR, .inr (2, [.ref aM, .ref aA, .ref aB, .int fault2_28])), (aA, .inl (cA, 8, .inl regs)), (aM, .inr (1, [.ref aW, .ref aT, .int cnt])), (aW, .inl (cW, 2048, .inl words)), (aT, .inl (cT, 400, .inl told)), (aF, .inr (0, [.int fn, .int fz, .int fv, .int fc]))]) [5, 6, 0, 1, 2, 3, 4] (by decide) rfl
    have hK9 := hK.sub (tys' := [(cA, .int), (cW, .int), (cT, .int)]) [0, 1, 2] rfl
    exact W.vret hx hb hr (fun t ht hW => ⟨⟨(fault2_28, regs, cnt, words, told, fn, fz, fv, fc), rfl, h4, by rw [ht]; exact hP9, va_K.moved hW.alike hK9, hD9⟩, hS.F ht⟩) hS.2.2 dX3_divide_10
set_option maxHeartbeats 4000000 in
set_option maxRecDepth 100000 in
theorem s_X3_shift (l : Launch) (dC : Nat → ClassId) (dI : Nat → Nat → Nat) (sz : Nat) (aP : Nat) (rr : Int32) (k : Int32) (aR : Nat) (aF : Nat) (aM : Nat) (aA : Nat) (aB : Nat) (fault : Int32) (cA : ClassId) (regs : Nat → Int32) (aW : Nat) (aT : Nat) (cnt : Int32) (cW : ClassId) (words : Nat → Int32) (cT : ClassId) (told : Nat → Int32) (fn : Int32) (fz : Int32) (fv : Int32) (fc : Int32) (h4 : ok4 cnt) (hr9 : vp_in rr 8) : Met l yX3_shift wsX3_shift ({ frames := 3, cells := 0, slots := 0, locals := 68 }) (va_Pc [.ref aP, .int rr, .int k] (q_pre dC dI sz [(aP, .inr (3, [.ref aR, .ref aF])), (aR, .inr (2, [.ref aM, .ref aA, .ref aB, .int fault])), (aA, .inl (cA, 8, .inl regs)), (aM, .inr (1, [.ref aW, .ref aT, .int cnt])), (aW, .inl (cW, 2048, .inl words)), (aT, .inl (cT, 400, .inl told)), (aF, .inr (0, [.int fn, .int fz, .int fv, .int fc]))] [(cA, .int), (cW, .int), (cT, .int)])) (va_Qv (fun (u9 : Int32 × (Nat → Int32) × Int32 × (Nat → Int32) × (Nat → Int32) × Int32 × Int32 × Int32 × Int32) => ok4 u9.2.2.1) (q_at dC dI (va_A [(aP, .inr (3, [.ref aR, .ref aF])), (aR, .inr (2, [.ref aM, .ref aA, .ref aB, .int fault])), (aA, .inl (cA, 8, .inl regs)), (aM, .inr (1, [.ref aW, .ref aT, .int cnt])), (aW, .inl (cW, 2048, .inl words)), (aT, .inl (cT, 400, .inl told)), (aF, .inr (0, [.int fn, .int fz, .int fv, .int fc]))] sz) (fun (u9 : Int32 × (Nat → Int32) × Int32 × (Nat → Int32) × (Nat → Int32) × Int32 × Int32 × Int32 × Int32) => [(cA, .int), (cW, .int), (cT, .int)]) (fun (u9 : Int32 × (Nat → Int32) × Int32 × (Nat → Int32) × (Nat → Int32) × Int32 × Int32 × Int32 × Int32) => [(aP, .inr (3, [.ref aR, .ref aF])), (aR, .inr (2, [.ref aM, .ref aA, .ref aB, .int u9.1])), (aA, .inl (cA, 8, .inl u9.2.1)), (aM, .inr (1, [.ref aW, .ref aT, .int u9.2.2.1])), (aW, .inl (cW, 2048, .inl u9.2.2.2.1)), (aT, .inl (cT, 400, .inl u9.2.2.2.2.1)), (aF, .inr (0, [.int u9.2.2.2.2.2.1, .int u9.2.2.2.2.2.2.1, .int u9.2.2.2.2.2.2.2.1, .int u9.2.2.2.2.2.2.2.2]))])) (va_A [(aP, .inr (3, [.ref aR, .ref aF])), (aR, .inr (2, [.ref aM, .ref aA, .ref aB, .int fault])), (aA, .inl (cA, 8, .inl regs)), (aM, .inr (1, [.ref aW, .ref aT, .int cnt])), (aW, .inl (cW, 2048, .inl words)), (aT, .inl (cT, 400, .inl told)), (aF, .inr (0, [.int fn, .int fz, .int fv, .int fc]))] sz)) 0 0 (va_A [(aP, .inr (3, [.ref aR, .ref aF])), (aR, .inr (2, [.ref aM, .ref aA, .ref aB, .int fault])), (aA, .inl (cA, 8, .inl regs)), (aM, .inr (1, [.ref aW, .ref aT, .int cnt])), (aW, .inl (cW, 2048, .inl words)), (aT, .inl (cT, 400, .inl told)), (aF, .inr (0, [.int fn, .int fz, .int fv, .int fc]))] sz) := by
  refine Met.ofW (cc := cX3_shift) (maxL := 10) (ret := none) (by decide) rfl ?_
  intro p e s m args below meth c s₁ B hml hv
  obtain ⟨rfl, hsz, hP, hK, hD0, hN⟩ := hv
  have hx := B.exec
  have hb := B.bytes
  have hr := B.returns
  have hts := atoms_spec (ws := wsX3_shift) B.pre
  have hown : s.vm.findClass RX3 = some m.cls := findClass_of_methodNamed B.named
  have hlocks := B.notSynchronized
  subst hsz
  have hD := hD0.self (sz := s.heap.size)
  generalize hAe : va_A [(aP, .inr (3, [.ref aR, .ref aF])), (aR, .inr (2, [.ref aM, .ref aA, .ref aB, .int fault])), (aA, .inl (cA, 8, .inl regs)), (aM, .inr (1, [.ref aW, .ref aT, .int cnt])), (aW, .inl (cW, 2048, .inl words)), (aT, .inl (cT, 400, .inl told)), (aF, .inr (0, [.int fn, .int fz, .int fv, .int fc]))] s.heap.size = A at hD ⊢
  have hA : ∀ q : Nat, s.heap.size ≤ q → A q := fun q h => by rw [← hAe]; exact Or.inr h
  have hS : va_S A s.heap s.heap [] := va_S.rf
  have hP : va_P (dC, dI) vwCl [(aP, .inr (3, [.ref aR, .ref aF])), (aR, .inr (2, [.ref aM, .ref aA, .ref aB, .int fault])), (aA, .inl (cA, 8, .inl regs)), (aM, .inr (1, [.ref aW, .ref aT, .int cnt])), (aW, .inl (cW, 2048, .inl words)), (aT, .inl (cT, 400, .inl told)), (aF, .inr (0, [.int fn, .int fz, .int fv, .int fc]))] s.heap := hP
  have hl := lv_entry ([.ref aP, .int rr, .int k]) (n := 10) (Nat.le_of_ble_eq_true rfl)
  rw [lg_entry_eq]
  generalize (lg_sl ([.ref aP, .int rr, .int k]) ++ List.replicate (10 - (lg_sl ([.ref aP, .int rr, .int k])).length) Slot.unset).toArray = ls at hl ⊢
  have hl : lv_has ls 10 [(0, .ref aP), (1, .int rr), (2, .int k)] := hl
  refine lv_aload_n hx hb dX3_shift_0 rfl (lv_at hl 0 rfl) ?_
  refine va_get (D := (dC, dI)) (ci := 3) (v := .ref aR) (C := RX3) (T := TX3) (N := 2) hx hb hts (by decide +kernel) hown hK hP 0 rfl rfl 0 (by decide) (hts (.fieldLink RX3 23 "WordGuest$Processor" "parts" "LWordGuest$Parts;") (by decide +kernel)) (fun _ h9 => h9) rfl dX3_shift_1 ?_
  refine lv_aload_n hx hb dX3_shift_4 rfl (lv_at hl 0 rfl) ?_
  refine va_get (D := (dC, dI)) (ci := 3) (v := .ref aR) (C := RX3) (T := TX3) (N := 2) hx hb hts (by decide +kernel) hown hK hP 0 rfl rfl 0 (by decide) (hts (.fieldLink RX3 23 "WordGuest$Processor" "parts" "LWordGuest$Parts;") (by decide +kernel)) (fun _ h9 => h9) rfl dX3_shift_5 ?_
  refine lv_iload_n hx hb dX3_shift_8 rfl (lv_at hl 2 rfl) ?_
  refine lv_ldc (v := 65535) hx hb hown (hts (.constant RX3 69 (65535)) (by decide +kernel)) dX3_shift_9 ?_
  have hPc := hP.sub (ws' := [(aR, .inr (2, [.ref aM, .ref aA, .ref aB, .int fault])), (aA, .inl (cA, 8, .inl regs)), (aM, .inr (1, [.ref aW, .ref aT, .int cnt])), (aW, .inl (cW, 2048, .inl words))]) [1, 2, 3, 4] rfl
  have hDc := hD.sub (ws' := [(aR, .inr (2, [.ref aM, .ref aA, .ref aB, .int fault])), (aA, .inl (cA, 8, .inl regs)), (aM, .inr (1, [.ref aW, .ref aT, .int cnt])), (aW, .inl (cW, 2048, .inl words))]) [1, 2, 3, 4] (by decide) rfl
  have hKc := hK.sub (tys' := [(cA, .int), (cW, .int)]) [0, 1] rfl
  have hFc := va_free (wc := [(aR, .inr (2, [.ref aM, .ref aA, .ref aB, .int fault])), (aA, .inl (cA, 8, .inl regs)), (aM, .inr (1, [.ref aW, .ref aT, .int cnt])), (aW, .inl (cW, 2048, .inl words))]) hD hS hA [1, 2, 3, 4] rfl
  refine va_calli (va_runV (C := RX2) (b := aR) (As := [.int k, .int 65535]) (rest := [.ref aR]) ⟨hx, hb, hml, hown, hts⟩ (s_X2_locate l dC dI s.heap.size aR k (65535 : Int32) aM aA aB fault cA regs aW aT cnt cW words) (cwV 2 hts gX3_shift_X2_locate rfl rfl rfl (by decide +kernel) ⟨Nat.le_of_ble_eq_true rfl, Nat.le_of_ble_eq_true rfl⟩) ⟨q_blind, va_recv hK hP (ci := 2) (q0 := 1) rfl rfl, fun U hU hW => ⟨rfl, q_pay hU hW hPc hKc hDc hN⟩⟩ rfl rfl hl.1 rfl (lv_room (Nat.le_of_ble_eq_true rfl)) dX3_shift_11 ⟨show 0 + 0 ≤ 0 from by omega, show 0 + 0 ≤ 0 from by omega⟩) hS (fun q _ h => hFc q h) hFc (fun r_1 u9 t H locs ht hvm hw_2 hB hz1 hk1 hS => ?_)
  obtain ⟨fault2_3, regs2_4⟩ := u9
  obtain ⟨hP1, hK1, hD1⟩ := hB
  rw [ht] at hP1
  obtain ⟨hP, hD⟩ := va_join (wr := [(aP, .inr (3, [.ref aR, .ref aF])), (aT, .inl (cT, 400, .inl told)), (aF, .inr (0, [.int fn, .int fz, .int fv, .int fc]))]) (w1 := [(aR, .inr (2, [.ref aM, .ref aA, .ref aB, .int fault2_3])), (aA, .inl (cA, 8, .inl regs2_4)), (aM, .inr (1, [.ref aW, .ref aT, .int cnt])), (aW, .inl (cW, 2048, .inl words))]) hP hD [1, 2, 3, 4] [0, 5, 6] rfl rfl (by decide) (by decide) hk1 hFc hP1 hD1
  have hP : va_P (dC, dI) vwCl [(aP, .inr (3, [.ref aR, .ref aF])), (aT, .inl (cT, 400, .inl told)), (aF, .inr (0, [.int fn, .int fz, .int fv, .int fc])), (aR, .inr (2, [.ref aM, .ref aA, .ref aB, .int fault2_3])), (aA, .inl (cA, 8, .inl regs2_4)), (aM, .inr (1, [.ref aW, .ref aT, .int cnt])), (aW, .inl (cW, 2048, .inl words))] H := hP
  have hD : va_D A [(aP, .inr (3, [.ref aR, .ref aF])), (aT, .inl (cT, 400, .inl told)), (aF, .inr (0, [.int fn, .int fz, .int fv, .int fc])), (aR, .inr (2, [.ref aM, .ref aA, .ref aB, .int fault2_3])), (aA, .inl (cA, 8, .inl regs2_4)), (aM, .inr (1, [.ref aW, .ref aT, .int cnt])), (aW, .inl (cW, 2048, .inl words))] := hD
  refine W.widen (k := 0) (n := 0) (by omega) (by omega) ?_
  try dsimp only at hw_2
  refine lv_ldc (v := 65535) hx hb hown (hts (.constant RX3 69 (65535)) (by decide +kernel)) dX3_shift_14 ?_
  have hPc := hP.sub (ws' := [(aR, .inr (2, [.ref aM, .ref aA, .ref aB, .int fault2_3])), (aA, .inl (cA, 8, .inl regs2_4)), (aM, .inr (1, [.ref aW, .ref aT, .int cnt])), (aW, .inl (cW, 2048, .inl words))]) [3, 4, 5, 6] rfl
  have hDc := hD.sub (ws' := [(aR, .inr (2, [.ref aM, .ref aA, .ref aB, .int fault2_3])), (aA, .inl (cA, 8, .inl regs2_4)), (aM, .inr (1, [.ref aW, .ref aT, .int cnt])), (aW, .inl (cW, 2048, .inl words))]) [3, 4, 5, 6] (by decide) rfl
  have hKc := hK.sub (tys' := [(cA, .int), (cW, .int)]) [0, 1] rfl
  have hFc := va_free (wc := [(aR, .inr (2, [.ref aM, .ref aA, .ref aB, .int fault2_3])), (aA, .inl (cA, 8, .inl regs2_4)), (aM, .inr (1, [.ref aW, .ref aT, .int cnt])), (aW, .inl (cW, 2048, .inl words))]) hD hS hA [3, 4, 5, 6] rfl
  refine va_calli (va_runV (C := RX2) (b := aR) (As := [.int r_1, .int 65535]) (rest := []) ⟨hx, hb, hml, hown, hts⟩ (s_X2_fetch l dC dI H.size aR r_1 (65535 : Int32) aM aA aB fault2_3 cA regs2_4 aW aT cnt cW words) (cwV 2 hts gX3_shift_X2_fetch rfl rfl rfl (by decide +kernel) ⟨Nat.le_of_ble_eq_true rfl, Nat.le_of_ble_eq_true rfl⟩) ⟨q_blind, va_recv hK hP (ci := 2) (q0 := 3) rfl rfl, fun U hU hW => ⟨rfl, q_pay hU hW hPc hKc hDc hN⟩⟩ rfl rfl hl.1 rfl (lv_room (Nat.le_of_ble_eq_true rfl)) dX3_shift_16 ⟨show 0 + 0 ≤ 0 from by omega, show 0 + 0 ≤ 0 from by omega⟩) hS (fun q _ h => hFc q h) hFc (fun r_5 u9 t H locs ht hvm hw_6 hB hz1 hk1 hS => ?_)
  obtain ⟨fault2_7, rfl⟩ : ∃ z, z = u9 := ⟨_, rfl⟩
  obtain ⟨hP1, hK1, hD1⟩ := hB
  rw [ht] at hP1
  obtain ⟨hP, hD⟩ := va_join (wr := [(aP, .inr (3, [.ref aR, .ref aF])), (aT, .inl (cT, 400, .inl told)), (aF, .inr (0, [.int fn, .int fz, .int fv, .int fc]))]) (w1 := [(aR, .inr (2, [.ref aM, .ref aA, .ref aB, .int fault2_7])), (aA, .inl (cA, 8, .inl regs2_4)), (aM, .inr (1, [.ref aW, .ref aT, .int cnt])), (aW, .inl (cW, 2048, .inl words))]) hP hD [3, 4, 5, 6] [0, 1, 2] rfl rfl (by decide) (by decide) hk1 hFc hP1 hD1
  have hP : va_P (dC, dI) vwCl [(aP, .inr (3, [.ref aR, .ref aF])), (aT, .inl (cT, 400, .inl told)), (aF, .inr (0, [.int fn, .int fz, .int fv, .int fc])), (aR, .inr (2, [.ref aM, .ref aA, .ref aB, .int fault2_7])), (aA, .inl (cA, 8, .inl regs2_4)), (aM, .inr (1, [.ref aW, .ref aT, .int cnt])), (aW, .inl (cW, 2048, .inl words))] H := hP
  have hD : va_D A [(aP, .inr (3, [.ref aR, .ref aF])), (aT, .inl (cT, 400, .inl told)), (aF, .inr (0, [.int fn, .int fz, .int fv, .int fc])), (aR, .inr (2, [.ref aM, .ref aA, .ref aB, .int fault2_7])), (aA, .inl (cA, 8, .inl regs2_4)), (aM, .inr (1, [.ref aW, .ref aT, .int cnt])), (aW, .inl (cW, 2048, .inl words))] := hD
  refine W.widen (k := 0) (n := 0) (by omega) (by omega) ?_
  try dsimp only at hw_6
  refine lv_bipush (v := 63) hx hb dX3_shift_19 (by decide) ?_
  refine lv_iand hx hb dX3_shift_21 ?_
  refine lv_istore_n (lv' := [(3, .int (r_5 &&& 63)), (0, .ref aP), (1, .int rr), (2, .int k)]) hx hb dX3_shift_22 rfl hl (by decide) rfl (fun ls hl => ?_)
  refine lv_aload_n hx hb dX3_shift_23 rfl (lv_at hl 1 rfl) ?_
  refine va_get (D := (dC, dI)) (ci := 3) (v := .ref aR) (C := RX3) (T := TX3) (N := 2) hx hb hts (by decide +kernel) hown hK hP 0 rfl rfl 0 (by decide) (hts (.fieldLink RX3 23 "WordGuest$Processor" "parts" "LWordGuest$Parts;") (by decide +kernel)) (fun _ h9 => h9) rfl dX3_shift_24 ?_
  refine va_getN (D := (dC, dI)) (ci := 2) (v := .ref aA) (C := RX2) (T := TX2) (N := 4) hx hb hts (by decide +kernel) hown hK hP 3 rfl rfl 1 (by decide) ((va_Nw.use rfl (hN _ (List.mem_of_getElem? (i := 9) rfl)))) (fun _ h9 => h9) rfl dX3_shift_27 ?_
  refine lv_iload_n hx hb dX3_shift_30 rfl (lv_at hl 2 rfl) ?_
  refine va_iald hx hb hK hP 4 0 rfl rfl hr9 dX3_shift_31 ?_
  refine lv_istore (lv' := [(4, .int (regs2_4 rr.toNatClampNeg)), (3, .int (r_5 &&& 63)), (0, .ref aP), (1, .int rr), (2, .int k)]) hx hb dX3_shift_32 hl (by decide) rfl (fun ls hl => ?_)
  refine lv_iload hx hb dX3_shift_34 (lv_at hl 0 rfl) ?_
  refine lv_ldc (v := 65535) hx hb hown (hts (.constant RX3 69 (65535)) (by decide +kernel)) dX3_shift_36 ?_
  have hPc := hP.sub (ws' := []) [] rfl
  have hDc := hD.sub (ws' := []) [] (by decide) rfl
  have hKc := hK.sub (tys' := []) [] rfl
  have hFc := va_free (wc := []) hD hS hA [] rfl
  refine va_calli (va_runSN (As := [.int (regs2_4 rr.toNatClampNeg), .int 65535]) (rest := []) ⟨hx, hb, hml, hown, hts⟩ (s_X4_signed l dC dI H.size (regs2_4 rr.toNatClampNeg) (65535 : Int32)) ⟨va_cnB 2 hts gX3_shift_X4_signed_n178 rfl rfl rfl (hN _ (List.mem_of_getElem? (i := 15) rfl)) (hts (.initialized RX4) (by decide +kernel)) (by decide +kernel) ⟨Nat.le_of_ble_eq_true rfl, Nat.le_of_ble_eq_true rfl⟩, hts (.static yX4_signed) (by decide +kernel), trivial⟩ ⟨q_blind, fun U hU hW => ⟨rfl, q_pay hU hW hPc hKc hDc hN⟩⟩ rfl rfl hl.1 rfl (lv_room (Nat.le_of_ble_eq_true rfl)) dX3_shift_38 ⟨show 0 + 0 ≤ 0 from by omega, show 0 + 0 ≤ 0 from by omega⟩) hS (fun q _ h => hFc q h) hFc (fun r_8 u9 t H locs ht hvm hw_9 hB hz1 hk1 hS => ?_)
  obtain ⟨hP1, hK1, hD1⟩ := hB
  rw [ht] at hP1
  obtain ⟨hP, hD⟩ := va_join (wr := [(aP, .inr (3, [.ref aR, .ref aF])), (aT, .inl (cT, 400, .inl told)), (aF, .inr (0, [.int fn, .int fz, .int fv, .int fc])), (aR, .inr (2, [.ref aM, .ref aA, .ref aB, .int fault2_7])), (aA, .inl (cA, 8, .inl regs2_4)), (aM, .inr (1, [.ref aW, .ref aT, .int cnt])), (aW, .inl (cW, 2048, .inl words))]) (w1 := []) hP hD [] [0, 1, 2, 3, 4, 5, 6] rfl rfl (by decide) (by decide) hk1 hFc hP1 hD1
  have hP : va_P (dC, dI) vwCl [(aP, .inr (3, [.ref aR, .ref aF])), (aT, .inl (cT, 400, .inl told)), (aF, .inr (0, [.int fn, .int fz, .int fv, .int fc])), (aR, .inr (2, [.ref aM, .ref aA, .ref aB, .int fault2_7])), (aA, .inl (cA, 8, .inl regs2_4)), (aM, .inr (1, [.ref aW, .ref aT, .int cnt])), (aW, .inl (cW, 2048, .inl words))] H := hP
  have hD : va_D A [(aP, .inr (3, [.ref aR, .ref aF])), (aT, .inl (cT, 400, .inl told)), (aF, .inr (0, [.int fn, .int fz, .int fv, .int fc])), (aR, .inr (2, [.ref aM, .ref aA, .ref aB, .int fault2_7])), (aA, .inl (cA, 8, .inl regs2_4)), (aM, .inr (1, [.ref aW, .ref aT, .int cnt])), (aW, .inl (cW, 2048, .inl words))] := hD
  refine W.widen (k := 0) (n := 0) (by omega) (by omega) ?_
  try dsimp only at hw_9
  refine lv_i2l (v := Int32.toInt64 r_8) hx hb dX3_shift_41 rfl ?_
  refine lv_lstore (lv' := [(5, .long (Int32.toInt64 r_8)), (4, .int (regs2_4 rr.toNatClampNeg)), (3, .int (r_5 &&& 63)), (0, .ref aP), (1, .int rr), (2, .int k)]) hx hb dX3_shift_42 hl (by decide) rfl (fun ls hl => ?_)
  refine lv_iload_n hx hb dX3_shift_44 rfl (lv_at hl 2 rfl) ?_
  refine lv_bipush (v := 32) hx hb dX3_shift_45 (by decide) ?_
  refine lv_icmp_ge (tgt := 87) hx hb dX3_shift_47 (by decide) (fun c_10 => ?_) (fun c_10 => ?_)
  · refine lv_bipush (v := 64) hx hb dX3_shift_87 (by decide) ?_
    refine lv_iload_n hx hb dX3_shift_89 rfl (lv_at hl 2 rfl) ?_
    refine lv_isub hx hb dX3_shift_90 ?_
    refine lv_istore (lv' := [(9, .int (64 - (r_5 &&& 63))), (5, .long (Int32.toInt64 r_8)), (4, .int (regs2_4 rr.toNatClampNeg)), (3, .int (r_5 &&& 63)), (0, .ref aP), (1, .int rr), (2, .int k)]) hx hb dX3_shift_91 hl (by decide) rfl (fun ls hl => ?_)
    refine lv_lload hx hb dX3_shift_93 (lv_at hl 1 rfl) ?_
    refine lv_iload hx hb dX3_shift_95 (lv_at hl 0 rfl) ?_
    refine lv_lshr (v := (Int32.toInt64 r_8) >>> (Int32.toInt64 (64 - (r_5 &&& 63)) &&& 63)) hx hb dX3_shift_97 rfl ?_
    refine lv_lstore (lv' := [(7, .long ((Int32.toInt64 r_8) >>> (Int32.toInt64 (64 - (r_5 &&& 63)) &&& 63))), (9, .int (64 - (r_5 &&& 63))), (5, .long (Int32.toInt64 r_8)), (4, .int (regs2_4 rr.toNatClampNeg)), (3, .int (r_5 &&& 63)), (0, .ref aP), (1, .int rr), (2, .int k)]) hx hb dX3_shift_98 hl (by decide) rfl (fun ls hl => ?_)
    refine lv_aload_n hx hb dX3_shift_100 rfl (lv_at hl 5 rfl) ?_
    refine va_get (D := (dC, dI)) (ci := 3) (v := .ref aF) (C := RX3) (T := TX3) (N := 2) hx hb hts (by decide +kernel) hown hK hP 0 rfl rfl 1 (by decide) (hts (.fieldLink RX3 12 "WordGuest$Processor" "conditions" "LWordGuest$Flags;") (by decide +kernel)) (fun _ h9 => h9) rfl dX3_shift_101 ?_
    refine lv_lload hx hb dX3_shift_104 (lv_at hl 2 rfl) ?_
    refine lv_iload hx hb dX3_shift_106 (lv_at hl 1 rfl) ?_
    refine lv_iconst (v := 1) hx hb dX3_shift_108 (by decide) ?_
    refine lv_isub hx hb dX3_shift_109 ?_
    refine lv_lshr (v := (Int32.toInt64 r_8) >>> (Int32.toInt64 ((64 - (r_5 &&& 63)) - 1) &&& 63)) hx hb dX3_shift_110 rfl ?_
    refine lv_lconst (v := 1) hx hb dX3_shift_111 (by decide) ?_
    refine lv_land hx hb dX3_shift_112 ?_
    refine lv_lconst (v := 0) hx hb dX3_shift_113 (by decide) ?_
    refine W.lcmp hx hb dX3_shift_114 ?_
    refine q_bool (ls := ls) 123 [.ref aF] (fun b_12 hb_13 => ?_) (fun jn => ?_)
    · refine va_putN (D := (dC, dI)) (ci := 0) (v := .int b_12) (ty := .boolean) (C := RX0) (T := TX0) (N := 4) hx hb hts (by decide +kernel) tyX0 tyX0_ok nmX0 hown hK hP hD hS 2 rfl rfl 3 (by decide) ((va_Nw.use rfl (hN _ (List.mem_of_getElem? (i := 7) rfl)))) (fun _ h9 => h9) rfl (by decide +kernel) (q_nz hb_13) (q_fz hb_13) (Nat.le_of_ble_eq_true rfl) dX3_shift_123 (fun H locs hP hD hS => ?_)
      have hP : va_P (dC, dI) vwCl [(aP, .inr (3, [.ref aR, .ref aF])), (aT, .inl (cT, 400, .inl told)), (aF, .inr (0, [.int fn, .int fz, .int fv, .int b_12])), (aR, .inr (2, [.ref aM, .ref aA, .ref aB, .int fault2_7])), (aA, .inl (cA, 8, .inl regs2_4)), (aM, .inr (1, [.ref aW, .ref aT, .int cnt])), (aW, .inl (cW, 2048, .inl words))] H := hP
      have hD : va_D A [(aP, .inr (3, [.ref aR, .ref aF])), (aT, .inl (cT, 400, .inl told)), (aF, .inr (0, [.int fn, .int fz, .int fv, .int b_12])), (aR, .inr (2, [.ref aM, .ref aA, .ref aB, .int fault2_7])), (aA, .inl (cA, 8, .inl regs2_4)), (aM, .inr (1, [.ref aW, .ref aT, .int cnt])), (aW, .inl (cW, 2048, .inl words))] := hD
      refine lv_lload hx hb dX3_shift_126 (lv_at hl 0 rfl) ?_
      refine lv_ldc2 (v := 65535) hx hb hown (hts (.constantLong RX3 189 (65535)) (by decide +kernel)) dX3_shift_128 ?_
      refine lv_land hx hb dX3_shift_131 ?_
      refine lv_l2i (v := Int64.toInt32 (((Int32.toInt64 r_8) >>> (Int32.toInt64 (64 - (r_5 &&& 63)) &&& 63)) &&& (65535 : Int64))) hx hb dX3_shift_132 rfl ?_
      refine lv_istore (lv' := [(9, .int (Int64.toInt32 (((Int32.toInt64 r_8) >>> (Int32.toInt64 (64 - (r_5 &&& 63)) &&& 63)) &&& (65535 : Int64)))), (7, .long ((Int32.toInt64 r_8) >>> (Int32.toInt64 (64 - (r_5 &&& 63)) &&& 63))), (5, .long (Int32.toInt64 r_8)), (4, .int (regs2_4 rr.toNatClampNeg)), (3, .int (r_5 &&& 63)), (0, .ref aP), (1, .int rr), (2, .int k)]) hx hb dX3_shift_133 hl (by decide) rfl (fun ls hl => ?_)
      refine lv_aload_n hx hb dX3_shift_135 rfl (lv_at hl 5 rfl) ?_
      refine va_get (D := (dC, dI)) (ci := 3) (v := .ref aF) (C := RX3) (T := TX3) (N := 2) hx hb hts (by decide +kernel) hown hK hP 0 rfl rfl 1 (by decide) (hts (.fieldLink RX3 12 "WordGuest$Processor" "conditions" "LWordGuest$Flags;") (by decide +kernel)) (fun _ h9 => h9) rfl dX3_shift_136 ?_
      refine lv_iload hx hb dX3_shift_139 (lv_at hl 0 rfl) ?_
      refine lv_ldc (v := 65535) hx hb hown (hts (.constant RX3 69 (65535)) (by decide +kernel)) dX3_shift_141 ?_
      have hPc := hP.sub (ws' := [(aF, .inr (0, [.int fn, .int fz, .int fv, .int b_12]))]) [2] rfl
      have hDc := hD.sub (ws' := [(aF, .inr (0, [.int fn, .int fz, .int fv, .int b_12]))]) [2] (by decide) rfl
      have hKc := hK.sub (tys' := []) [] rfl
      have hFc := va_free (wc := [(aF, .inr (0, [.int fn, .int fz, .int fv, .int b_12]))]) hD hS hA [2] rfl
      refine va_callv (va_runV (C := RX0) (b := aF) (As := [.int (Int64.toInt32 (((Int32.toInt64 r_8) >>> (Int32.toInt64 (64 - (r_5 &&& 63)) &&& 63)) &&& (65535 : Int64))), .int 65535]) (rest := []) ⟨hx, hb, hml, hown, hts⟩ (s_X0_setByResult l dC dI H.size aF (Int64.toInt32 (((Int32.toInt64 r_8) >>> (Int32.toInt64 (64 - (r_5 &&& 63)) &&& 63)) &&& (65535 : Int64))) (65535 : Int32) fn fz fv b_12) (cwV 2 hts gX3_shift_X0_setByResult rfl rfl rfl (by decide +kernel) ⟨Nat.le_of_ble_eq_true rfl, Nat.le_of_ble_eq_true rfl⟩) ⟨q_blind, va_recv hK hP (ci := 0) (q0 := 2) rfl rfl, fun U hU hW => ⟨rfl, q_pay hU hW hPc hKc hDc hN⟩⟩ rfl rfl hl.1 rfl (lv_room (Nat.le_of_ble_eq_true rfl)) dX3_shift_143 ⟨show 0 + 0 ≤ 0 from by omega, show 0 + 0 ≤ 0 from by omega⟩) hS (fun q _ h => hFc q h) hFc (fun u9 t H locs ht hvm hw_15 hB hz1 hk1 hS => ?_)
      obtain ⟨fn2_16, fz2_17⟩ := u9
      obtain ⟨hP1, hK1, hD1⟩ := hB
      rw [ht] at hP1
      obtain ⟨hP, hD⟩ := va_join (wr := [(aP, .inr (3, [.ref aR, .ref aF])), (aT, .inl (cT, 400, .inl told)), (aR, .inr (2, [.ref aM, .ref aA, .ref aB, .int fault2_7])), (aA, .inl (cA, 8, .inl regs2_4)), (aM, .inr (1, [.ref aW, .ref aT, .int cnt])), (aW, .inl (cW, 2048, .inl words))]) (w1 := [(aF, .inr (0, [.int fn2_16, .int fz2_17, .int fv, .int b_12]))]) hP hD [2] [0, 1, 3, 4, 5, 6] rfl rfl (by decide) (by decide) hk1 hFc hP1 hD1
      have hP : va_P (dC, dI) vwCl [(aP, .inr (3, [.ref aR, .ref aF])), (aT, .inl (cT, 400, .inl told)), (aR, .inr (2, [.ref aM, .ref aA, .ref aB, .int fault2_7])), (aA, .inl (cA, 8, .inl regs2_4)), (aM, .inr (1, [.ref aW, .ref aT, .int cnt])), (aW, .inl (cW, 2048, .inl words)), (aF, .inr (0, [.int fn2_16, .int fz2_17, .int fv, .int b_12]))] H := hP
      have hD : va_D A [(aP, .inr (3, [.ref aR, .ref aF])), (aT, .inl (cT, 400, .inl told)), (aR, .inr (2, [.ref aM, .ref aA, .ref aB, .int fault2_7])), (aA, .inl (cA, 8, .inl regs2_4)), (aM, .inr (1, [.ref aW, .ref aT, .int cnt])), (aW, .inl (cW, 2048, .inl words)), (aF, .inr (0, [.int fn2_16, .int fz2_17, .int fv, .int b_12]))] := hD
      refine W.widen (k := 0) (n := 0) (by omega) (by omega) ?_
      try dsimp only at hw_15
      refine lv_aload_n hx hb dX3_shift_146 rfl (lv_at hl 5 rfl) ?_
      refine va_get (D := (dC, dI)) (ci := 3) (v := .ref aF) (C := RX3) (T := TX3) (N := 2) hx hb hts (by decide +kernel) hown hK hP 0 rfl rfl 1 (by decide) (hts (.fieldLink RX3 12 "WordGuest$Processor" "conditions" "LWordGuest$Flags;") (by decide +kernel)) (fun _ h9 => h9) rfl dX3_shift_147 ?_
      refine lv_iload hx hb dX3_shift_150 (lv_at hl 3 rfl) ?_
      refine lv_iload hx hb dX3_shift_152 (lv_at hl 0 rfl) ?_
      refine lv_ixor hx hb dX3_shift_154 ?_
      refine lv_ldc (v := 32768) hx hb hown (hts (.constant RX3 64 (32768)) (by decide +kernel)) dX3_shift_155 ?_
      refine lv_iand hx hb dX3_shift_157 ?_
      refine q_bool (ls := ls) 166 [.ref aF] (fun b_19 hb_20 => ?_) (fun jn => ?_)
      · refine va_putN (D := (dC, dI)) (ci := 0) (v := .int b_19) (ty := .boolean) (C := RX0) (T := TX0) (N := 4) hx hb hts (by decide +kernel) tyX0 tyX0_ok nmX0 hown hK hP hD hS 6 rfl rfl 2 (by decide) ((va_Nw.use rfl (hN _ (List.mem_of_getElem? (i := 6) rfl)))) (fun _ h9 => h9) rfl (by decide +kernel) (q_nz hb_20) (q_fz hb_20) (Nat.le_of_ble_eq_true rfl) dX3_shift_166 (fun H locs hP hD hS => ?_)
        have hP : va_P (dC, dI) vwCl [(aP, .inr (3, [.ref aR, .ref aF])), (aT, .inl (cT, 400, .inl told)), (aR, .inr (2, [.ref aM, .ref aA, .ref aB, .int fault2_7])), (aA, .inl (cA, 8, .inl regs2_4)), (aM, .inr (1, [.ref aW, .ref aT, .int cnt])), (aW, .inl (cW, 2048, .inl words)), (aF, .inr (0, [.int fn2_16, .int fz2_17, .int b_19, .int b_12]))] H := hP
        have hD : va_D A [(aP, .inr (3, [.ref aR, .ref aF])), (aT, .inl (cT, 400, .inl told)), (aR, .inr (2, [.ref aM, .ref aA, .ref aB, .int fault2_7])), (aA, .inl (cA, 8, .inl regs2_4)), (aM, .inr (1, [.ref aW, .ref aT, .int cnt])), (aW, .inl (cW, 2048, .inl words)), (aF, .inr (0, [.int fn2_16, .int fz2_17, .int b_19, .int b_12]))] := hD
        refine lv_aload_n hx hb dX3_shift_169 rfl (lv_at hl 5 rfl) ?_
        refine va_get (D := (dC, dI)) (ci := 3) (v := .ref aR) (C := RX3) (T := TX3) (N := 2) hx hb hts (by decide +kernel) hown hK hP 0 rfl rfl 0 (by decide) (hts (.fieldLink RX3 23 "WordGuest$Processor" "parts" "LWordGuest$Parts;") (by decide +kernel)) (fun _ h9 => h9) rfl dX3_shift_170 ?_
        refine va_getN (D := (dC, dI)) (ci := 2) (v := .ref aA) (C := RX2) (T := TX2) (N := 4) hx hb hts (by decide +kernel) hown hK hP 2 rfl rfl 1 (by decide) ((va_Nw.use rfl (hN _ (List.mem_of_getElem? (i := 9) rfl)))) (fun _ h9 => h9) rfl dX3_shift_173 ?_
        refine lv_iload_n hx hb dX3_shift_176 rfl (lv_at hl 6 rfl) ?_
        refine lv_iload hx hb dX3_shift_177 (lv_at hl 0 rfl) ?_
        refine va_iast hx hb hK hP hD hS 3 0 rfl rfl hr9 dX3_shift_179 (fun H locs hP hD hS => ?_)
        have hP : va_P (dC, dI) vwCl [(aP, .inr (3, [.ref aR, .ref aF])), (aT, .inl (cT, 400, .inl told)), (aR, .inr (2, [.ref aM, .ref aA, .ref aB, .int fault2_7])), (aA, .inl (cA, 8, .inl (upd regs2_4 rr.toNatClampNeg (Int64.toInt32 (((Int32.toInt64 r_8) >>> (Int32.toInt64 (64 - (r_5 &&& 63)) &&& 63)) &&& (65535 : Int64)))))), (aM, .inr (1, [.ref aW, .ref aT, .int cnt])), (aW, .inl (cW, 2048, .inl words)), (aF, .inr (0, [.int fn2_16, .int fz2_17, .int b_19, .int b_12]))] H := hP
        have hD : va_D A [(aP, .inr (3, [.ref aR, .ref aF])), (aT, .inl (cT, 400, .inl told)), (aR, .inr (2, [.ref aM, .ref aA, .ref aB, .int fault2_7])), (aA, .inl (cA, 8, .inl (upd regs2_4 rr.toNatClampNeg (Int64.toInt32 (((Int32.toInt64 r_8) >>> (Int32.toInt64 (64 - (r_5 &&& 63)) &&& 63)) &&& (65535 : Int64)))))), (aM, .inr (1, [.ref aW, .ref aT, .int cnt])), (aW, .inl (cW, 2048, .inl words)), (aF, .inr (0, [.int fn2_16, .int fz2_17, .int b_19, .int b_12]))] := hD
        generalize (upd regs2_4 rr.toNatClampNeg (Int64.toInt32 (((Int32.toInt64 r_8) >>> (Int32.toInt64 (64 - (r_5 &&& 63)) &&& 63)) &&& (65535 : Int64)))) = g_21 at hP hD
        have hP9 := hP.sub (ws' := [(aP, .inr (3, [.ref aR, .ref aF])), (aR, .inr (2, [.ref aM, .ref aA, .ref aB, .int fault2_7])), (aA, .inl (cA, 8, .inl g_21)), (aM, .inr (1, [.ref aW, .ref aT, .int cnt])), (aW, .inl (cW, 2048, .inl words)), (aT, .inl (cT, 400, .inl told)), (aF, .inr (0, [.int fn2_16, .int fz2_17, .int b_19, .int b_12]))]) [0, 2, 3, 4, 5, 1, 6] rfl
        have hD9 := hD.sub (ws' := [(aP, .inr (3, [.ref aR, .ref aF])), (aR, .inr (2, [.ref aM, .ref aA, .ref aB, .int fault2_7])), (aA, .inl (cA, 8, .inl g_21)), (aM, .inr (1, [.ref aW, .ref aT, .int cnt])), (aW, .inl (cW, 2048, .inl words)), (aT, .inl (cT, 400, .inl told)), (aF, .inr (0, [.int fn2_16, .int fz2_17, .int b_19, .int b_12]))]) [0, 2, 3, 4, 5, 1, 6] (by decide) rfl
        have hK9 := hK.sub (tys' := [(cA, .int), (cW, .int), (cT, .int)]) [0, 1, 2] rfl
        exact W.vret hx hb hr (fun t ht hW => ⟨⟨(fault2_7, g_21, cnt, words, told, fn2_16, fz2_17, b_19, b_12), rfl, h4, by rw [ht]; exact hP9, va_K.moved hW.alike hK9, hD9⟩, hS.F ht⟩) hS.2.2 dX3_shift_180
      refine lv_if_eq (tgt := 165) hx hb dX3_shift_158 (by decide) (fun c_18 => ?_) (fun c_18 => ?_)
      · refine lv_iconst (v := 0) hx hb dX3_shift_165 (by decide) ?_
        exact jn _ (Or.inl rfl)
      · refine lv_iconst (v := 1) hx hb dX3_shift_161 (by decide) ?_
        refine lv_goto (tgt := 166) hx hb dX3_shift_162 (by decide) ?_
        exact jn _ (Or.inr rfl)
    refine lv_if_eq (tgt := 122) hx hb dX3_shift_115 (by decide) (fun c_11 => ?_) (fun c_11 => ?_)
    · refine lv_iconst (v := 0) hx hb dX3_shift_122 (by decide) ?_
      exact jn _ (Or.inl rfl)
    · refine lv_iconst (v := 1) hx hb dX3_shift_118 (by decide) ?_
      refine lv_goto (tgt := 123) hx hb dX3_shift_119 (by decide) ?_
      exact jn _ (Or.inr rfl)
  · refine lv_lload hx hb dX3_shift_50 (lv_at hl 0 rfl) ?_
    refine lv_iload_n hx hb dX3_shift_52 rfl (lv_at hl 2 rfl) ?_
    refine lv_lshl (v := (Int32.toInt64 r_8) <<< (Int32.toInt64 (r_5 &&& 63) &&& 63)) hx hb dX3_shift_53 rfl ?_
    refine lv_lstore (lv' := [(7, .long ((Int32.toInt64 r_8) <<< (Int32.toInt64 (r_5 &&& 63) &&& 63))), (5, .long (Int32.toInt64 r_8)), (4, .int (regs2_4 rr.toNatClampNeg)), (3, .int (r_5 &&& 63)), (0, .ref aP), (1, .int rr), (2, .int k)]) hx hb dX3_shift_54 hl (by decide) rfl (fun ls hl => ?_)
    refine lv_aload_n hx hb dX3_shift_56 rfl (lv_at hl 4 rfl) ?_
    refine va_get (D := (dC, dI)) (ci := 3) (v := .ref aF) (C := RX3) (T := TX3) (N := 2) hx hb hts (by decide +kernel) hown hK hP 0 rfl rfl 1 (by decide) (hts (.fieldLink RX3 12 "WordGuest$Processor" "conditions" "LWordGuest$Flags;") (by decide +kernel)) (fun _ h9 => h9) rfl dX3_shift_57 ?_
    refine lv_iload_n hx hb dX3_shift_60 rfl (lv_at hl 3 rfl) ?_
    refine lv_if_le (tgt := 80) hx hb dX3_shift_61 (by decide) (fun c_22 => ?_) (fun c_22 => ?_)
    · refine lv_iconst (v := 0) hx hb dX3_shift_80 (by decide) ?_
      refine va_putN (D := (dC, dI)) (ci := 0) (v := .int 0) (ty := .boolean) (C := RX0) (T := TX0) (N := 4) hx hb hts (by decide +kernel) tyX0 tyX0_ok nmX0 hown hK hP hD hS 2 rfl rfl 3 (by decide) ((va_Nw.use rfl (hN _ (List.mem_of_getElem? (i := 7) rfl)))) (fun _ h9 => h9) rfl (by decide +kernel) (by decide) (by decide) (Nat.le_of_ble_eq_true rfl) dX3_shift_81 (fun H locs hP hD hS => ?_)
      have hP : va_P (dC, dI) vwCl [(aP, .inr (3, [.ref aR, .ref aF])), (aT, .inl (cT, 400, .inl told)), (aF, .inr (0, [.int fn, .int fz, .int fv, .int 0])), (aR, .inr (2, [.ref aM, .ref aA, .ref aB, .int fault2_7])), (aA, .inl (cA, 8, .inl regs2_4)), (aM, .inr (1, [.ref aW, .ref aT, .int cnt])), (aW, .inl (cW, 2048, .inl words))] H := hP
      have hD : va_D A [(aP, .inr (3, [.ref aR, .ref aF])), (aT, .inl (cT, 400, .inl told)), (aF, .inr (0, [.int fn, .int fz, .int fv, .int 0])), (aR, .inr (2, [.ref aM, .ref aA, .ref aB, .int fault2_7])), (aA, .inl (cA, 8, .inl regs2_4)), (aM, .inr (1, [.ref aW, .ref aT, .int cnt])), (aW, .inl (cW, 2048, .inl words))] := hD
      refine lv_goto (tgt := 126) hx hb dX3_shift_84 (by decide) ?_
      refine lv_lload hx hb dX3_shift_126 (lv_at hl 0 rfl) ?_
      refine lv_ldc2 (v := 65535) hx hb hown (hts (.constantLong RX3 189 (65535)) (by decide +kernel)) dX3_shift_128 ?_
      refine lv_land hx hb dX3_shift_131 ?_
      refine lv_l2i (v := Int64.toInt32 (((Int32.toInt64 r_8) <<< (Int32.toInt64 (r_5 &&& 63) &&& 63)) &&& (65535 : Int64))) hx hb dX3_shift_132 rfl ?_
      refine lv_istore (lv' := [(9, .int (Int64.toInt32 (((Int32.toInt64 r_8) <<< (Int32.toInt64 (r_5 &&& 63) &&& 63)) &&& (65535 : Int64)))), (7, .long ((Int32.toInt64 r_8) <<< (Int32.toInt64 (r_5 &&& 63) &&& 63))), (5, .long (Int32.toInt64 r_8)), (4, .int (regs2_4 rr.toNatClampNeg)), (3, .int (r_5 &&& 63)), (0, .ref aP), (1, .int rr), (2, .int k)]) hx hb dX3_shift_133 hl (by decide) rfl (fun ls hl => ?_)
      refine lv_aload_n hx hb dX3_shift_135 rfl (lv_at hl 5 rfl) ?_
      refine va_get (D := (dC, dI)) (ci := 3) (v := .ref aF) (C := RX3) (T := TX3) (N := 2) hx hb hts (by decide +kernel) hown hK hP 0 rfl rfl 1 (by decide) (hts (.fieldLink RX3 12 "WordGuest$Processor" "conditions" "LWordGuest$Flags;") (by decide +kernel)) (fun _ h9 => h9) rfl dX3_shift_136 ?_
      refine lv_iload hx hb dX3_shift_139 (lv_at hl 0 rfl) ?_
      refine lv_ldc (v := 65535) hx hb hown (hts (.constant RX3 69 (65535)) (by decide +kernel)) dX3_shift_141 ?_
      have hPc := hP.sub (ws' := [(aF, .inr (0, [.int fn, .int fz, .int fv, .int 0]))]) [2] rfl
      have hDc := hD.sub (ws' := [(aF, .inr (0, [.int fn, .int fz, .int fv, .int 0]))]) [2] (by decide) rfl
      have hKc := hK.sub (tys' := []) [] rfl
      have hFc := va_free (wc := [(aF, .inr (0, [.int fn, .int fz, .int fv, .int 0]))]) hD hS hA [2] rfl
      refine va_callv (va_runV (C := RX0) (b := aF) (As := [.int (Int64.toInt32 (((Int32.toInt64 r_8) <<< (Int32.toInt64 (r_5 &&& 63) &&& 63)) &&& (65535 : Int64))), .int 65535]) (rest := []) ⟨hx, hb, hml, hown, hts⟩ (s_X0_setByResult l dC dI H.size aF (Int64.toInt32 (((Int32.toInt64 r_8) <<< (Int32.toInt64 (r_5 &&& 63) &&& 63)) &&& (65535 : Int64))) (65535 : Int32) fn fz fv (0 : Int32)) (cwV 2 hts gX3_shift_X0_setByResult rfl rfl rfl (by decide +kernel) ⟨Nat.le_of_ble_eq_true rfl, Nat.le_of_ble_eq_true rfl⟩) ⟨q_blind, va_recv hK hP (ci := 0) (q0 := 2) rfl rfl, fun U hU hW => ⟨rfl, q_pay hU hW hPc hKc hDc hN⟩⟩ rfl rfl hl.1 rfl (lv_room (Nat.le_of_ble_eq_true rfl)) dX3_shift_143 ⟨show 0 + 0 ≤ 0 from by omega, show 0 + 0 ≤ 0 from by omega⟩) hS (fun q _ h => hFc q h) hFc (fun u9 t H locs ht hvm hw_24 hB hz1 hk1 hS => ?_)
      obtain ⟨fn2_25, fz2_26⟩ := u9
      obtain ⟨hP1, hK1, hD1⟩ := hB
      rw [ht] at hP1
      obtain ⟨hP, hD⟩ := va_join (wr := [(aP, .inr (3, [.ref aR, .ref aF])), (aT, .inl (cT, 400, .inl told)), (aR, .inr (2, [.ref aM, .ref aA, .ref aB, .int fault2_7])), (aA, .inl (cA, 8, .inl regs2_4)), (aM, .inr (1, [.ref aW, .ref aT, .int cnt])), (aW, .inl (cW, 2048, .inl words))]) (w1 := [(aF, .inr (0, [.int fn2_25, .int fz2_26, .int fv, .int 0]))]) hP hD [2] [0, 1, 3, 4, 5, 6] rfl rfl (by decide) (by decide) hk1 hFc hP1 hD1
      have hP : va_P (dC, dI) vwCl [(aP, .inr (3, [.ref aR, .ref aF])), (aT, .inl (cT, 400, .inl told)), (aR, .inr (2, [.ref aM, .ref aA, .ref aB, .int fault2_7])), (aA, .inl (cA, 8, .inl regs2_4)), (aM, .inr (1, [.ref aW, .ref aT, .int cnt])), (aW, .inl (cW, 2048, .inl words)), (aF, .inr (0, [.int fn2_25, .int fz2_26, .int fv, .int 0]))] H := hP
      have hD : va_D A [(aP, .inr (3, [.ref aR, .ref aF])), (aT, .inl (cT, 400, .inl told)), (aR, .inr (2, [.ref aM, .ref aA, .ref aB, .int fault2_7])), (aA, .inl (cA, 8, .inl regs2_4)), (aM, .inr (1, [.ref aW, .ref aT, .int cnt])), (aW, .inl (cW, 2048, .inl words)), (aF, .inr (0, [.int fn2_25, .int fz2_26, .int fv, .int 0]))] := hD
      refine W.widen (k := 0) (n := 0) (by omega) (by omega) ?_
      try dsimp only at hw_24
      refine lv_aload_n hx hb dX3_shift_146 rfl (lv_at hl 5 rfl) ?_
      refine va_get (D := (dC, dI)) (ci := 3) (v := .ref aF) (C := RX3) (T := TX3) (N := 2) hx hb hts (by decide +kernel) hown hK hP 0 rfl rfl 1 (by decide) (hts (.fieldLink RX3 12 "WordGuest$Processor" "conditions" "LWordGuest$Flags;") (by decide +kernel)) (fun _ h9 => h9) rfl dX3_shift_147 ?_
      refine lv_iload hx hb dX3_shift_150 (lv_at hl 3 rfl) ?_
      refine lv_iload hx hb dX3_shift_152 (lv_at hl 0 rfl) ?_
      refine lv_ixor hx hb dX3_shift_154 ?_
      refine lv_ldc (v := 32768) hx hb hown (hts (.constant RX3 64 (32768)) (by decide +kernel)) dX3_shift_155 ?_
      refine lv_iand hx hb dX3_shift_157 ?_
      refine q_bool (ls := ls) 166 [.ref aF] (fun b_28 hb_29 => ?_) (fun jn => ?_)
      · refine va_putN (D := (dC, dI)) (ci := 0) (v := .int b_28) (ty := .boolean) (C := RX0) (T := TX0) (N := 4) hx hb hts (by decide +kernel) tyX0 tyX0_ok nmX0 hown hK hP hD hS 6 rfl rfl 2 (by decide) ((va_Nw.use rfl (hN _ (List.mem_of_getElem? (i := 6) rfl)))) (fun _ h9 => h9) rfl (by decide +kernel) (q_nz hb_29) (q_fz hb_29) (Nat.le_of_ble_eq_true rfl) dX3_shift_166 (fun H locs hP hD hS => ?_)
        have hP : va_P (dC, dI) vwCl [(aP, .inr (3, [.ref aR, .ref aF])), (aT, .inl (cT, 400, .inl told)), (aR, .inr (2, [.ref aM, .ref aA, .ref aB, .int fault2_7])), (aA, .inl (cA, 8, .inl regs2_4)), (aM, .inr (1, [.ref aW, .ref aT, .int cnt])), (aW, .inl (cW, 2048, .inl words)), (aF, .inr (0, [.int fn2_25, .int fz2_26, .int b_28, .int 0]))] H := hP
        have hD : va_D A [(aP, .inr (3, [.ref aR, .ref aF])), (aT, .inl (cT, 400, .inl told)), (aR, .inr (2, [.ref aM, .ref aA, .ref aB, .int fault2_7])), (aA, .inl (cA, 8, .inl regs2_4)), (aM, .inr (1, [.ref aW, .ref aT, .int cnt])), (aW, .inl (cW, 2048, .inl words)), (aF, .inr (0, [.int fn2_25, .int fz2_26, .int b_28, .int 0]))] := hD
        refine lv_aload_n hx hb dX3_shift_169 rfl (lv_at hl 5 rfl) ?_
        refine va_get (D := (dC, dI)) (ci := 3) (v := .ref aR) (C := RX3) (T := TX3) (N := 2) hx hb hts (by decide +kernel) hown hK hP 0 rfl rfl 0 (by decide) (hts (.fieldLink RX3 23 "WordGuest$Processor" "parts" "LWordGuest$Parts;") (by decide +kernel)) (fun _ h9 => h9) rfl dX3_shift_170 ?_
        refine va_getN (D := (dC, dI)) (ci := 2) (v := .ref aA) (C := RX2) (T := TX2) (N := 4) hx hb hts (by decide +kernel) hown hK hP 2 rfl rfl 1 (by decide) ((va_Nw.use rfl (hN _ (List.mem_of_getElem? (i := 9) rfl)))) (fun _ h9 => h9) rfl dX3_shift_173 ?_
        refine lv_iload_n hx hb dX3_shift_176 rfl (lv_at hl 6 rfl) ?_
        refine lv_iload hx hb dX3_shift_177 (lv_at hl 0 rfl) ?_
        refine va_iast hx hb hK hP hD hS 3 0 rfl rfl hr9 dX3_shift_179 (fun H locs hP hD hS => ?_)
        have hP : va_P (dC, dI) vwCl [(aP, .inr (3, [.ref aR, .ref aF])), (aT, .inl (cT, 400, .inl told)), (aR, .inr (2, [.ref aM, .ref aA, .ref aB, .int fault2_7])), (aA, .inl (cA, 8, .inl (upd regs2_4 rr.toNatClampNeg (Int64.toInt32 (((Int32.toInt64 r_8) <<< (Int32.toInt64 (r_5 &&& 63) &&& 63)) &&& (65535 : Int64)))))), (aM, .inr (1, [.ref aW, .ref aT, .int cnt])), (aW, .inl (cW, 2048, .inl words)), (aF, .inr (0, [.int fn2_25, .int fz2_26, .int b_28, .int 0]))] H := hP
        have hD : va_D A [(aP, .inr (3, [.ref aR, .ref aF])), (aT, .inl (cT, 400, .inl told)), (aR, .inr (2, [.ref aM, .ref aA, .ref aB, .int fault2_7])), (aA, .inl (cA, 8, .inl (upd regs2_4 rr.toNatClampNeg (Int64.toInt32 (((Int32.toInt64 r_8) <<< (Int32.toInt64 (r_5 &&& 63) &&& 63)) &&& (65535 : Int64)))))), (aM, .inr (1, [.ref aW, .ref aT, .int cnt])), (aW, .inl (cW, 2048, .inl words)), (aF, .inr (0, [.int fn2_25, .int fz2_26, .int b_28, .int 0]))] := hD
        generalize (upd regs2_4 rr.toNatClampNeg (Int64.toInt32 (((Int32.toInt64 r_8) <<< (Int32.toInt64 (r_5 &&& 63) &&& 63)) &&& (65535 : Int64)))) = g_30 at hP hD
        have hP9 := hP.sub (ws' := [(aP, .inr (3, [.ref aR, .ref aF])), (aR, .inr (2, [.ref aM, .ref aA, .ref aB, .int fault2_7])), (aA, .inl (cA, 8, .inl g_30)), (aM, .inr (1, [.ref aW, .ref aT, .int cnt])), (aW, .inl (cW, 2048, .inl words)), (aT, .inl (cT, 400, .inl told)), (aF, .inr (0, [.int fn2_25, .int fz2_26, .int b_28, .int 0]))]) [0, 2, 3, 4, 5, 1, 6] rfl
        have hD9 := hD.sub (ws' := [(aP, .inr (3, [.ref aR, .ref aF])), (aR, .inr (2, [.ref aM, .ref aA, .ref aB, .int fault2_7])), (aA, .inl (cA, 8, .inl g_30)), (aM, .inr (1, [.ref aW, .ref aT, .int cnt])), (aW, .inl (cW, 2048, .inl words)), (aT, .inl (cT, 400, .inl told)), (aF, .inr (0, [.int fn2_25, .int fz2_26, .int b_28, .int 0]))]) [0, 2, 3, 4, 5, 1, 6] (by decide) rfl
        have hK9 := hK.sub (tys' := [(cA, .int), (cW, .int), (cT, .int)]) [0, 1, 2] rfl
        exact W.vret hx hb hr (fun t ht hW => ⟨⟨(fault2_7, g_30, cnt, words, told, fn2_25, fz2_26, b_28, 0), rfl, h4, by rw [ht]; exact hP9, va_K.moved hW.alike hK9, hD9⟩, hS.F ht⟩) hS.2.2 dX3_shift_180
      refine lv_if_eq (tgt := 165) hx hb dX3_shift_158 (by decide) (fun c_27 => ?_) (fun c_27 => ?_)
      · refine lv_iconst (v := 0) hx hb dX3_shift_165 (by decide) ?_
        exact jn _ (Or.inl rfl)
      · refine lv_iconst (v := 1) hx hb dX3_shift_161 (by decide) ?_
        refine lv_goto (tgt := 166) hx hb dX3_shift_162 (by decide) ?_
        exact jn _ (Or.inr rfl)
    · refine lv_lload hx hb dX3_shift_64 (lv_at hl 0 rfl) ?_
      refine lv_bipush (v := 16) hx hb dX3_shift_66 (by decide) ?_
      refine lv_lshr (v := ((Int32.toInt64 r_8) <<< (Int32.toInt64 (r_5 &&& 63) &&& 63)) >>> (Int32.toInt64 16 &&& 63)) hx hb dX3_shift_68 rfl ?_
      refine lv_lconst (v := 1) hx hb dX3_shift_69 (by decide) ?_
      refine lv_land hx hb dX3_shift_70 ?_
      refine lv_lconst (v := 0) hx hb dX3_shift_71 (by decide) ?_
      refine W.lcmp hx hb dX3_shift_72 ?_
      refine q_bool (ls := ls) 81 [.ref aF] (fun b_32 hb_33 => ?_) (fun jn => ?_)
      · refine va_putN (D := (dC, dI)) (ci := 0) (v := .int b_32) (ty := .boolean) (C := RX0) (T := TX0) (N := 4) hx hb hts (by decide +kernel) tyX0 tyX0_ok nmX0 hown hK hP hD hS 2 rfl rfl 3 (by decide) ((va_Nw.use rfl (hN _ (List.mem_of_getElem? (i := 7) rfl)))) (fun _ h9 => h9) rfl (by decide +kernel) (q_nz hb_33) (q_fz hb_33) (Nat.le_of_ble_eq_true rfl) dX3_shift_81 (fun H locs hP hD hS => ?_)
        have hP : va_P (dC, dI) vwCl [(aP, .inr (3, [.ref aR, .ref aF])), (aT, .inl (cT, 400, .inl told)), (aF, .inr (0, [.int fn, .int fz, .int fv, .int b_32])), (aR, .inr (2, [.ref aM, .ref aA, .ref aB, .int fault2_7])), (aA, .inl (cA, 8, .inl regs2_4)), (aM, .inr (1, [.ref aW, .ref aT, .int cnt])), (aW, .inl (cW, 2048, .inl words))] H := hP
        have hD : va_D A [(aP, .inr (3, [.ref aR, .ref aF])), (aT, .inl (cT, 400, .inl told)), (aF, .inr (0, [.int fn, .int fz, .int fv, .int b_32])), (aR, .inr (2, [.ref aM, .ref aA, .ref aB, .int fault2_7])), (aA, .inl (cA, 8, .inl regs2_4)), (aM, .inr (1, [.ref aW, .ref aT, .int cnt])), (aW, .inl (cW, 2048, .inl words))] := hD
        refine lv_goto (tgt := 126) hx hb dX3_shift_84 (by decide) ?_
        refine lv_lload hx hb dX3_shift_126 (lv_at hl 0 rfl) ?_
        refine lv_ldc2 (v := 65535) hx hb hown (hts (.constantLong RX3 189 (65535)) (by decide +kernel)) dX3_shift_128 ?_
        refine lv_land hx hb dX3_shift_131 ?_
        refine lv_l2i (v := Int64.toInt32 (((Int32.toInt64 r_8) <<< (Int32.toInt64 (r_5 &&& 63) &&& 63)) &&& (65535 : Int64))) hx hb dX3_shift_132 rfl ?_
        refine lv_istore (lv' := [(9, .int (Int64.toInt32 (((Int32.toInt64 r_8) <<< (Int32.toInt64 (r_5 &&& 63) &&& 63)) &&& (65535 : Int64)))), (7, .long ((Int32.toInt64 r_8) <<< (Int32.toInt64 (r_5 &&& 63) &&& 63))), (5, .long (Int32.toInt64 r_8)), (4, .int (regs2_4 rr.toNatClampNeg)), (3, .int (r_5 &&& 63)), (0, .ref aP), (1, .int rr), (2, .int k)]) hx hb dX3_shift_133 hl (by decide) rfl (fun ls hl => ?_)
        refine lv_aload_n hx hb dX3_shift_135 rfl (lv_at hl 5 rfl) ?_
        refine va_get (D := (dC, dI)) (ci := 3) (v := .ref aF) (C := RX3) (T := TX3) (N := 2) hx hb hts (by decide +kernel) hown hK hP 0 rfl rfl 1 (by decide) (hts (.fieldLink RX3 12 "WordGuest$Processor" "conditions" "LWordGuest$Flags;") (by decide +kernel)) (fun _ h9 => h9) rfl dX3_shift_136 ?_
        refine lv_iload hx hb dX3_shift_139 (lv_at hl 0 rfl) ?_
        refine lv_ldc (v := 65535) hx hb hown (hts (.constant RX3 69 (65535)) (by decide +kernel)) dX3_shift_141 ?_
        have hPc := hP.sub (ws' := [(aF, .inr (0, [.int fn, .int fz, .int fv, .int b_32]))]) [2] rfl
        have hDc := hD.sub (ws' := [(aF, .inr (0, [.int fn, .int fz, .int fv, .int b_32]))]) [2] (by decide) rfl
        have hKc := hK.sub (tys' := []) [] rfl
        have hFc := va_free (wc := [(aF, .inr (0, [.int fn, .int fz, .int fv, .int b_32]))]) hD hS hA [2] rfl
        refine va_callv (va_runV (C := RX0) (b := aF) (As := [.int (Int64.toInt32 (((Int32.toInt64 r_8) <<< (Int32.toInt64 (r_5 &&& 63) &&& 63)) &&& (65535 : Int64))), .int 65535]) (rest := []) ⟨hx, hb, hml, hown, hts⟩ (s_X0_setByResult l dC dI H.size aF (Int64.toInt32 (((Int32.toInt64 r_8) <<< (Int32.toInt64 (r_5 &&& 63) &&& 63)) &&& (65535 : Int64))) (65535 : Int32) fn fz fv b_32) (cwV 2 hts gX3_shift_X0_setByResult rfl rfl rfl (by decide +kernel) ⟨Nat.le_of_ble_eq_true rfl, Nat.le_of_ble_eq_true rfl⟩) ⟨q_blind, va_recv hK hP (ci := 0) (q0 := 2) rfl rfl, fun U hU hW => ⟨rfl, q_pay hU hW hPc hKc hDc hN⟩⟩ rfl rfl hl.1 rfl (lv_room (Nat.le_of_ble_eq_true rfl)) dX3_shift_143 ⟨show 0 + 0 ≤ 0 from by omega, show 0 + 0 ≤ 0 from by omega⟩) hS (fun q _ h => hFc q h) hFc (fun u9 t H locs ht hvm hw_35 hB hz1 hk1 hS => ?_)
        obtain ⟨fn2_36, fz2_37⟩ := u9
        obtain ⟨hP1, hK1, hD1⟩ := hB
        rw [ht] at hP1
        obtain ⟨hP, hD⟩ := va_join (wr := [(aP, .inr (3, [.ref aR, .ref aF])), (aT, .inl (cT, 400, .inl told)), (aR, .inr (2, [.ref aM, .ref aA, .ref aB, .int fault2_7])), (aA, .inl (cA, 8, .inl regs2_4)), (aM, .inr (1, [.ref aW, .ref aT, .int cnt])), (aW, .inl (cW, 2048, .inl words))]) (w1 := [(aF, .inr (0, [.int fn2_36, .int fz2_37, .int fv, .int b_32]))]) hP hD [2] [0, 1, 3, 4, 5, 6] rfl rfl (by decide) (by decide) hk1 hFc hP1 hD1
        have hP : va_P (dC, dI) vwCl [(aP, .inr (3, [.ref aR, .ref aF])), (aT, .inl (cT, 400, .inl told)), (aR, .inr (2, [.ref aM, .ref aA, .ref aB, .int fault2_7])), (aA, .inl (cA, 8, .inl regs2_4)), (aM, .inr (1, [.ref aW, .ref aT, .int cnt])), (aW, .inl (cW, 2048, .inl words)), (aF, .inr (0, [.int fn2_36, .int fz2_37, .int fv, .int b_32]))] H := hP
        have hD : va_D A [(aP, .inr (3, [.ref aR, .ref aF])), (aT, .inl (cT, 400, .inl told)), (aR, .inr (2, [.ref aM, .ref aA, .ref aB, .int fault2_7])), (aA, .inl (cA, 8, .inl regs2_4)), (aM, .inr (1, [.ref aW, .ref aT, .int cnt])), (aW, .inl (cW, 2048, .inl words)), (aF, .inr (0, [.int fn2_36, .int fz2_37, .int fv, .int b_32]))] := hD
        refine W.widen (k := 0) (n := 0) (by omega) (by omega) ?_
        try dsimp only at hw_35
        refine lv_aload_n hx hb dX3_shift_146 rfl (lv_at hl 5 rfl) ?_
        refine va_get (D := (dC, dI)) (ci := 3) (v := .ref aF) (C := RX3) (T := TX3) (N := 2) hx hb hts (by decide +kernel) hown hK hP 0 rfl rfl 1 (by decide) (hts (.fieldLink RX3 12 "WordGuest$Processor" "conditions" "LWordGuest$Flags;") (by decide +kernel)) (fun _ h9 => h9) rfl dX3_shift_147 ?_
        refine lv_iload hx hb dX3_shift_150 (lv_at hl 3 rfl) ?_
        refine lv_iload hx hb dX3_shift_152 (lv_at hl 0 rfl) ?_
        refine lv_ixor hx hb dX3_shift_154 ?_
        refine lv_ldc (v := 32768) hx hb hown (hts (.constant RX3 64 (32768)) (by decide +kernel)) dX3_shift_155 ?_
        refine lv_iand hx hb dX3_shift_157 ?_
        refine q_bool (ls := ls) 166 [.ref aF] (fun b_39 hb_40 => ?_) (fun jn => ?_)
        · refine va_putN (D := (dC, dI)) (ci := 0) (v := .int b_39) (ty := .boolean) (C := RX0) (T := TX0) (N := 4) hx hb hts (by decide +kernel) tyX0 tyX0_ok nmX0 hown hK hP hD hS 6 rfl rfl 2 (by decide) ((va_Nw.use rfl (hN _ (List.mem_of_getElem? (i := 6) rfl)))) (fun _ h9 => h9) rfl (by decide +kernel) (q_nz hb_40) (q_fz hb_40) (Nat.le_of_ble_eq_true rfl) dX3_shift_166 (fun H locs hP hD hS => ?_)
          have hP : va_P (dC, dI) vwCl [(aP, .inr (3, [.ref aR, .ref aF])), (aT, .inl (cT, 400, .inl told)), (aR, .inr (2, [.ref aM, .ref aA, .ref aB, .int fault2_7])), (aA, .inl (cA, 8, .inl regs2_4)), (aM, .inr (1, [.ref aW, .ref aT, .int cnt])), (aW, .inl (cW, 2048, .inl words)), (aF, .inr (0, [.int fn2_36, .int fz2_37, .int b_39, .int b_32]))] H := hP
          have hD : va_D A [(aP, .inr (3, [.ref aR, .ref aF])), (aT, .inl (cT, 400, .inl told)), (aR, .inr (2, [.ref aM, .ref aA, .ref aB, .int fault2_7])), (aA, .inl (cA, 8, .inl regs2_4)), (aM, .inr (1, [.ref aW, .ref aT, .int cnt])), (aW, .inl (cW, 2048, .inl words)), (aF, .inr (0, [.int fn2_36, .int fz2_37, .int b_39, .int b_32]))] := hD
          refine lv_aload_n hx hb dX3_shift_169 rfl (lv_at hl 5 rfl) ?_
          refine va_get (D := (dC, dI)) (ci := 3) (v := .ref aR) (C := RX3) (T := TX3) (N := 2) hx hb hts (by decide +kernel) hown hK hP 0 rfl rfl 0 (by decide) (hts (.fieldLink RX3 23 "WordGuest$Processor" "parts" "LWordGuest$Parts;") (by decide +kernel)) (fun _ h9 => h9) rfl dX3_shift_170 ?_
          refine va_getN (D := (dC, dI)) (ci := 2) (v := .ref aA) (C := RX2) (T := TX2) (N := 4) hx hb hts (by decide +kernel) hown hK hP 2 rfl rfl 1 (by decide) ((va_Nw.use rfl (hN _ (List.mem_of_getElem? (i := 9) rfl)))) (fun _ h9 => h9) rfl dX3_shift_173 ?_
          refine lv_iload_n hx hb dX3_shift_176 rfl (lv_at hl 6 rfl) ?_
          refine lv_iload hx hb dX3_shift_177 (lv_at hl 0 rfl) ?_
          refine va_iast hx hb hK hP hD hS 3 0 rfl rfl hr9 dX3_shift_179 (fun H locs hP hD hS => ?_)
          have hP : va_P (dC, dI) vwCl [(aP, .inr (3, [.ref aR, .ref aF])), (aT, .inl (cT, 400, .inl told)), (aR, .inr (2, [.ref aM, .ref aA, .ref aB, .int fault2_7])), (aA, .inl (cA, 8, .inl (upd regs2_4 rr.toNatClampNeg (Int64.toInt32 (((Int32.toInt64 r_8) <<< (Int32.toInt64 (r_5 &&& 63) &&& 63)) &&& (65535 : Int64)))))), (aM, .inr (1, [.ref aW, .ref aT, .int cnt])), (aW, .inl (cW, 2048, .inl words)), (aF, .inr (0, [.int fn2_36, .int fz2_37, .int b_39, .int b_32]))] H := hP
          have hD : va_D A [(aP, .inr (3, [.ref aR, .ref aF])), (aT, .inl (cT, 400, .inl told)), (aR, .inr (2, [.ref aM, .ref aA, .ref aB, .int fault2_7])), (aA, .inl (cA, 8, .inl (upd regs2_4 rr.toNatClampNeg (Int64.toInt32 (((Int32.toInt64 r_8) <<< (Int32.toInt64 (r_5 &&& 63) &&& 63)) &&& (65535 : Int64)))))), (aM, .inr (1, [.ref aW, .ref aT, .int cnt])), (aW, .inl (cW, 2048, .inl words)), (aF, .inr (0, [.int fn2_36, .int fz2_37, .int b_39, .int b_32]))] := hD
          generalize (upd regs2_4 rr.toNatClampNeg (Int64.toInt32 (((Int32.toInt64 r_8) <<< (Int32.toInt64 (r_5 &&& 63) &&& 63)) &&& (65535 : Int64)))) = g_41 at hP hD
          have hP9 := hP.sub (ws' := [(aP, .inr (3, [.ref aR, .ref aF])), (aR, .inr (2, [.ref aM, .ref aA, .ref aB, .int fault2_7])), (aA, .inl (cA, 8, .inl g_41)), (aM, .inr (1, [.ref aW, .ref aT, .int cnt])), (aW, .inl (cW, 2048, .inl words)), (aT, .inl (cT, 400, .inl told)), (aF, .inr (0, [.int fn2_36, .int fz2_37, .int b_39, .int b_32]))]) [0, 2, 3, 4, 5, 1, 6] rfl
          have hD9 := hD.sub (ws' := [(aP, .inr (3, [.ref aR, .ref aF])), (aR, .inr (2, [.ref aM, .ref aA, .ref aB, .int fault2_7])), (aA, .inl (cA, 8, .inl g_41)), (aM, .inr (1, [.ref aW, .ref aT, .int cnt])), (aW, .inl (cW, 2048, .inl words)), (aT, .inl (cT, 400, .inl told)), (aF, .inr (0, [.int fn2_36, .int fz2_37, .int b_39, .int b_32]))]) [0, 2, 3, 4, 5, 1, 6] (by decide) rfl
          have hK9 := hK.sub (tys' := [(cA, .int), (cW, .int), (cT, .int)]) [0, 1, 2] rfl
          exact W.vret hx hb hr (fun t ht hW => ⟨⟨(fault2_7, g_41, cnt, words, told, fn2_36, fz2_37, b_39, b_32), rfl, h4, by rw [ht]; exact hP9, va_K.moved hW.alike hK9, hD9⟩, hS.F ht⟩) hS.2.2 dX3_shift_180
        refine lv_if_eq (tgt := 165) hx hb dX3_shift_158 (by decide) (fun c_38 => ?_) (fun c_38 => ?_)
        · refine lv_iconst (v := 0) hx hb dX3_shift_165 (by decide) ?_
          exact jn _ (Or.inl rfl)
        · refine lv_iconst (v := 1) hx hb dX3_shift_161 (by decide) ?_
          refine lv_goto (tgt := 166) hx hb dX3_shift_162 (by decide) ?_
          exact jn _ (Or.inr rfl)
      refine lv_if_eq (tgt := 80) hx hb dX3_shift_73 (by decide) (fun c_31 => ?_) (fun c_31 => ?_)
      · refine lv_iconst (v := 0) hx hb dX3_shift_80 (by decide) ?_
        exact jn _ (Or.inl rfl)
      · refine lv_iconst (v := 1) hx hb dX3_shift_76 (by decide) ?_
        refine lv_goto (tgt := 81) hx hb dX3_shift_77 (by decide) ?_
        exact jn _ (Or.inr rfl)
set_option maxHeartbeats 4000000 in
set_option maxRecDepth 100000 in
theorem s_X3_exclude (l : Launch) (dC : Nat → ClassId) (dI : Nat → Nat → Nat) (sz : Nat) (aP : Nat) (rr : Int32) (k : Int32) (aR : Nat) (aF : Nat) (aM : Nat) (aA : Nat) (aB : Nat) (fault : Int32) (cA : ClassId) (regs : Nat → Int32) (aW : Nat) (aT : Nat) (cnt : Int32) (cW : ClassId) (words : Nat → Int32) (cT : ClassId) (told : Nat → Int32) (fn : Int32) (fz : Int32) (fv : Int32) (fc : Int32) (h4 : ok4 cnt) (hr9 : vp_in rr 8) : Met l yX3_exclude wsX3_exclude ({ frames := 3, cells := 0, slots := 0, locals := 68 }) (va_Pc [.ref aP, .int rr, .int k] (q_pre dC dI sz [(aP, .inr (3, [.ref aR, .ref aF])), (aR, .inr (2, [.ref aM, .ref aA, .ref aB, .int fault])), (aA, .inl (cA, 8, .inl regs)), (aM, .inr (1, [.ref aW, .ref aT, .int cnt])), (aW, .inl (cW, 2048, .inl words)), (aT, .inl (cT, 400, .inl told)), (aF, .inr (0, [.int fn, .int fz, .int fv, .int fc]))] [(cA, .int), (cW, .int), (cT, .int)])) (va_Qv (fun (u9 : Int32 × (Nat → Int32) × Int32 × (Nat → Int32) × (Nat → Int32) × Int32 × Int32 × Int32 × Int32) => ok4 u9.2.2.1) (q_at dC dI (va_A [(aP, .inr (3, [.ref aR, .ref aF])), (aR, .inr (2, [.ref aM, .ref aA, .ref aB, .int fault])), (aA, .inl (cA, 8, .inl regs)), (aM, .inr (1, [.ref aW, .ref aT, .int cnt])), (aW, .inl (cW, 2048, .inl words)), (aT, .inl (cT, 400, .inl told)), (aF, .inr (0, [.int fn, .int fz, .int fv, .int fc]))] sz) (fun (u9 : Int32 × (Nat → Int32) × Int32 × (Nat → Int32) × (Nat → Int32) × Int32 × Int32 × Int32 × Int32) => [(cA, .int), (cW, .int), (cT, .int)]) (fun (u9 : Int32 × (Nat → Int32) × Int32 × (Nat → Int32) × (Nat → Int32) × Int32 × Int32 × Int32 × Int32) => [(aP, .inr (3, [.ref aR, .ref aF])), (aR, .inr (2, [.ref aM, .ref aA, .ref aB, .int u9.1])), (aA, .inl (cA, 8, .inl u9.2.1)), (aM, .inr (1, [.ref aW, .ref aT, .int u9.2.2.1])), (aW, .inl (cW, 2048, .inl u9.2.2.2.1)), (aT, .inl (cT, 400, .inl u9.2.2.2.2.1)), (aF, .inr (0, [.int u9.2.2.2.2.2.1, .int u9.2.2.2.2.2.2.1, .int u9.2.2.2.2.2.2.2.1, .int u9.2.2.2.2.2.2.2.2]))])) (va_A [(aP, .inr (3, [.ref aR, .ref aF])), (aR, .inr (2, [.ref aM, .ref aA, .ref aB, .int fault])), (aA, .inl (cA, 8, .inl regs)), (aM, .inr (1, [.ref aW, .ref aT, .int cnt])), (aW, .inl (cW, 2048, .inl words)), (aT, .inl (cT, 400, .inl told)), (aF, .inr (0, [.int fn, .int fz, .int fv, .int fc]))] sz)) 0 0 (va_A [(aP, .inr (3, [.ref aR, .ref aF])), (aR, .inr (2, [.ref aM, .ref aA, .ref aB, .int fault])), (aA, .inl (cA, 8, .inl regs)), (aM, .inr (1, [.ref aW, .ref aT, .int cnt])), (aW, .inl (cW, 2048, .inl words)), (aT, .inl (cT, 400, .inl told)), (aF, .inr (0, [.int fn, .int fz, .int fv, .int fc]))] sz) := by
  refine Met.ofW (cc := cX3_exclude) (maxL := 5) (ret := none) (by decide) rfl ?_
  intro p e s m args below meth c s₁ B hml hv
  obtain ⟨rfl, hsz, hP, hK, hD0, hN⟩ := hv
  have hx := B.exec
  have hb := B.bytes
  have hr := B.returns
  have hts := atoms_spec (ws := wsX3_exclude) B.pre
  have hown : s.vm.findClass RX3 = some m.cls := findClass_of_methodNamed B.named
  have hlocks := B.notSynchronized
  subst hsz
  have hD := hD0.self (sz := s.heap.size)
  generalize hAe : va_A [(aP, .inr (3, [.ref aR, .ref aF])), (aR, .inr (2, [.ref aM, .ref aA, .ref aB, .int fault])), (aA, .inl (cA, 8, .inl regs)), (aM, .inr (1, [.ref aW, .ref aT, .int cnt])), (aW, .inl (cW, 2048, .inl words)), (aT, .inl (cT, 400, .inl told)), (aF, .inr (0, [.int fn, .int fz, .int fv, .int fc]))] s.heap.size = A at hD ⊢
  have hA : ∀ q : Nat, s.heap.size ≤ q → A q := fun q h => by rw [← hAe]; exact Or.inr h
  have hS : va_S A s.heap s.heap [] := va_S.rf
  have hP : va_P (dC, dI) vwCl [(aP, .inr (3, [.ref aR, .ref aF])), (aR, .inr (2, [.ref aM, .ref aA, .ref aB, .int fault])), (aA, .inl (cA, 8, .inl regs)), (aM, .inr (1, [.ref aW, .ref aT, .int cnt])), (aW, .inl (cW, 2048, .inl words)), (aT, .inl (cT, 400, .inl told)), (aF, .inr (0, [.int fn, .int fz, .int fv, .int fc]))] s.heap := hP
  have hl := lv_entry ([.ref aP, .int rr, .int k]) (n := 5) (Nat.le_of_ble_eq_true rfl)
  rw [lg_entry_eq]
  generalize (lg_sl ([.ref aP, .int rr, .int k]) ++ List.replicate (5 - (lg_sl ([.ref aP, .int rr, .int k])).length) Slot.unset).toArray = ls at hl ⊢
  have hl : lv_has ls 5 [(0, .ref aP), (1, .int rr), (2, .int k)] := hl
  refine lv_aload_n hx hb dX3_exclude_0 rfl (lv_at hl 0 rfl) ?_
  refine va_get (D := (dC, dI)) (ci := 3) (v := .ref aR) (C := RX3) (T := TX3) (N := 2) hx hb hts (by decide +kernel) hown hK hP 0 rfl rfl 0 (by decide) (hts (.fieldLink RX3 23 "WordGuest$Processor" "parts" "LWordGuest$Parts;") (by decide +kernel)) (fun _ h9 => h9) rfl dX3_exclude_1 ?_
  refine lv_iload_n hx hb dX3_exclude_4 rfl (lv_at hl 2 rfl) ?_
  refine lv_ldc (v := 65535) hx hb hown (hts (.constant RX3 69 (65535)) (by decide +kernel)) dX3_exclude_5 ?_
  have hPc := hP.sub (ws' := [(aR, .inr (2, [.ref aM, .ref aA, .ref aB, .int fault])), (aA, .inl (cA, 8, .inl regs)), (aM, .inr (1, [.ref aW, .ref aT, .int cnt])), (aW, .inl (cW, 2048, .inl words))]) [1, 2, 3, 4] rfl
  have hDc := hD.sub (ws' := [(aR, .inr (2, [.ref aM, .ref aA, .ref aB, .int fault])), (aA, .inl (cA, 8, .inl regs)), (aM, .inr (1, [.ref aW, .ref aT, .int cnt])), (aW, .inl (cW, 2048, .inl words))]) [1, 2, 3, 4] (by decide) rfl
  have hKc := hK.sub (tys' := [(cA, .int), (cW, .int)]) [0, 1] rfl
  have hFc := va_free (wc := [(aR, .inr (2, [.ref aM, .ref aA, .ref aB, .int fault])), (aA, .inl (cA, 8, .inl regs)), (aM, .inr (1, [.ref aW, .ref aT, .int cnt])), (aW, .inl (cW, 2048, .inl words))]) hD hS hA [1, 2, 3, 4] rfl
  refine va_calli (va_runV (C := RX2) (b := aR) (As := [.int k, .int 65535]) (rest := []) ⟨hx, hb, hml, hown, hts⟩ (s_X2_locate l dC dI s.heap.size aR k (65535 : Int32) aM aA aB fault cA regs aW aT cnt cW words) (cwV 2 hts gX3_exclude_X2_locate rfl rfl rfl (by decide +kernel) ⟨Nat.le_of_ble_eq_true rfl, Nat.le_of_ble_eq_true rfl⟩) ⟨q_blind, va_recv hK hP (ci := 2) (q0 := 1) rfl rfl, fun U hU hW => ⟨rfl, q_pay hU hW hPc hKc hDc hN⟩⟩ rfl rfl hl.1 rfl (lv_room (Nat.le_of_ble_eq_true rfl)) dX3_exclude_7 ⟨show 0 + 0 ≤ 0 from by omega, show 0 + 0 ≤ 0 from by omega⟩) hS (fun q _ h => hFc q h) hFc (fun r_1 u9 t H locs ht hvm hw_2 hB hz1 hk1 hS => ?_)
  obtain ⟨fault2_3, regs2_4⟩ := u9
  obtain ⟨hP1, hK1, hD1⟩ := hB
  rw [ht] at hP1
  obtain ⟨hP, hD⟩ := va_join (wr := [(aP, .inr (3, [.ref aR, .ref aF])), (aT, .inl (cT, 400, .inl told)), (aF, .inr (0, [.int fn, .int fz, .int fv, .int fc]))]) (w1 := [(aR, .inr (2, [.ref aM, .ref aA, .ref aB, .int fault2_3])), (aA, .inl (cA, 8, .inl regs2_4)), (aM, .inr (1, [.ref aW, .ref aT, .int cnt])), (aW, .inl (cW, 2048, .inl words))]) hP hD [1, 2, 3, 4] [0, 5, 6] rfl rfl (by decide) (by decide) hk1 hFc hP1 hD1
  have hP : va_P (dC, dI) vwCl [(aP, .inr (3, [.ref aR, .ref aF])), (aT, .inl (cT, 400, .inl told)), (aF, .inr (0, [.int fn, .int fz, .int fv, .int fc])), (aR, .inr (2, [.ref aM, .ref aA, .ref aB, .int fault2_3])), (aA, .inl (cA, 8, .inl regs2_4)), (aM, .inr (1, [.ref aW, .ref aT, .int cnt])), (aW, .inl (cW, 2048, .inl words))] H := hP
  have hD : va_D A [(aP, .inr (3, [.ref aR, .ref aF])), (aT, .inl (cT, 400, .inl told)), (aF, .inr (0, [.int fn, .int fz, .int fv, .int fc])), (aR, .inr (2, [.ref aM, .ref aA, .ref aB, .int fault2_3])), (aA, .inl (cA, 8, .inl regs2_4)), (aM, .inr (1, [.ref aW, .ref aT, .int cnt])), (aW, .inl (cW, 2048, .inl words))] := hD
  refine W.widen (k := 0) (n := 0) (by omega) (by omega) ?_
  try dsimp only at hw_2
  refine lv_istore_n (lv' := [(3, .int r_1), (0, .ref aP), (1, .int rr), (2, .int k)]) hx hb dX3_exclude_10 rfl hl (by decide) rfl (fun ls hl => ?_)
  refine lv_aload_n hx hb dX3_exclude_11 rfl (lv_at hl 1 rfl) ?_
  refine va_get (D := (dC, dI)) (ci := 3) (v := .ref aR) (C := RX3) (T := TX3) (N := 2) hx hb hts (by decide +kernel) hown hK hP 0 rfl rfl 0 (by decide) (hts (.fieldLink RX3 23 "WordGuest$Processor" "parts" "LWordGuest$Parts;") (by decide +kernel)) (fun _ h9 => h9) rfl dX3_exclude_12 ?_
  refine lv_iload_n hx hb dX3_exclude_15 rfl (lv_at hl 0 rfl) ?_
  refine lv_ldc (v := 65535) hx hb hown (hts (.constant RX3 69 (65535)) (by decide +kernel)) dX3_exclude_16 ?_
  have hPc := hP.sub (ws' := [(aR, .inr (2, [.ref aM, .ref aA, .ref aB, .int fault2_3])), (aA, .inl (cA, 8, .inl regs2_4)), (aM, .inr (1, [.ref aW, .ref aT, .int cnt])), (aW, .inl (cW, 2048, .inl words))]) [3, 4, 5, 6] rfl
  have hDc := hD.sub (ws' := [(aR, .inr (2, [.ref aM, .ref aA, .ref aB, .int fault2_3])), (aA, .inl (cA, 8, .inl regs2_4)), (aM, .inr (1, [.ref aW, .ref aT, .int cnt])), (aW, .inl (cW, 2048, .inl words))]) [3, 4, 5, 6] (by decide) rfl
  have hKc := hK.sub (tys' := [(cA, .int), (cW, .int)]) [0, 1] rfl
  have hFc := va_free (wc := [(aR, .inr (2, [.ref aM, .ref aA, .ref aB, .int fault2_3])), (aA, .inl (cA, 8, .inl regs2_4)), (aM, .inr (1, [.ref aW, .ref aT, .int cnt])), (aW, .inl (cW, 2048, .inl words))]) hD hS hA [3, 4, 5, 6] rfl
  refine va_calli (va_runV (C := RX2) (b := aR) (As := [.int r_1, .int 65535]) (rest := []) ⟨hx, hb, hml, hown, hts⟩ (s_X2_fetch l dC dI H.size aR r_1 (65535 : Int32) aM aA aB fault2_3 cA regs2_4 aW aT cnt cW words) (cwV 2 hts gX3_exclude_X2_fetch rfl rfl rfl (by decide +kernel) ⟨Nat.le_of_ble_eq_true rfl, Nat.le_of_ble_eq_true rfl⟩) ⟨q_blind, va_recv hK hP (ci := 2) (q0 := 3) rfl rfl, fun U hU hW => ⟨rfl, q_pay hU hW hPc hKc hDc hN⟩⟩ rfl rfl hl.1 rfl (lv_room (Nat.le_of_ble_eq_true rfl)) dX3_exclude_18 ⟨show 0 + 0 ≤ 0 from by omega, show 0 + 0 ≤ 0 from by omega⟩) hS (fun q _ h => hFc q h) hFc (fun r_5 u9 t H locs ht hvm hw_6 hB hz1 hk1 hS => ?_)
  obtain ⟨fault2_7, rfl⟩ : ∃ z, z = u9 := ⟨_, rfl⟩
  obtain ⟨hP1, hK1, hD1⟩ := hB
  rw [ht] at hP1
  obtain ⟨hP, hD⟩ := va_join (wr := [(aP, .inr (3, [.ref aR, .ref aF])), (aT, .inl (cT, 400, .inl told)), (aF, .inr (0, [.int fn, .int fz, .int fv, .int fc]))]) (w1 := [(aR, .inr (2, [.ref aM, .ref aA, .ref aB, .int fault2_7])), (aA, .inl (cA, 8, .inl regs2_4)), (aM, .inr (1, [.ref aW, .ref aT, .int cnt])), (aW, .inl (cW, 2048, .inl words))]) hP hD [3, 4, 5, 6] [0, 1, 2] rfl rfl (by decide) (by decide) hk1 hFc hP1 hD1
  have hP : va_P (dC, dI) vwCl [(aP, .inr (3, [.ref aR, .ref aF])), (aT, .inl (cT, 400, .inl told)), (aF, .inr (0, [.int fn, .int fz, .int fv, .int fc])), (aR, .inr (2, [.ref aM, .ref aA, .ref aB, .int fault2_7])), (aA, .inl (cA, 8, .inl regs2_4)), (aM, .inr (1, [.ref aW, .ref aT, .int cnt])), (aW, .inl (cW, 2048, .inl words))] H := hP
  have hD : va_D A [(aP, .inr (3, [.ref aR, .ref aF])), (aT, .inl (cT, 400, .inl told)), (aF, .inr (0, [.int fn, .int fz, .int fv, .int fc])), (aR, .inr (2, [.ref aM, .ref aA, .ref aB, .int fault2_7])), (aA, .inl (cA, 8, .inl regs2_4)), (aM, .inr (1, [.ref aW, .ref aT, .int cnt])), (aW, .inl (cW, 2048, .inl words))] := hD
  refine W.widen (k := 0) (n := 0) (by omega) (by omega) ?_
  try dsimp only at hw_6
  refine lv_aload_n hx hb dX3_exclude_21 rfl (lv_at hl 1 rfl) ?_
  refine va_get (D := (dC, dI)) (ci := 3) (v := .ref aR) (C := RX3) (T := TX3) (N := 2) hx hb hts (by decide +kernel) hown hK hP 0 rfl rfl 0 (by decide) (hts (.fieldLink RX3 23 "WordGuest$Processor" "parts" "LWordGuest$Parts;") (by decide +kernel)) (fun _ h9 => h9) rfl dX3_exclude_22 ?_
  refine va_getN (D := (dC, dI)) (ci := 2) (v := .ref aA) (C := RX2) (T := TX2) (N := 4) hx hb hts (by decide +kernel) hown hK hP 3 rfl rfl 1 (by decide) ((va_Nw.use rfl (hN _ (List.mem_of_getElem? (i := 9) rfl)))) (fun _ h9 => h9) rfl dX3_exclude_25 ?_
  refine lv_iload_n hx hb dX3_exclude_28 rfl (lv_at hl 2 rfl) ?_
  refine va_iald hx hb hK hP 4 0 rfl rfl hr9 dX3_exclude_29 ?_
  refine lv_ixor hx hb dX3_exclude_30 ?_
  refine lv_istore (lv' := [(4, .int (r_5 ^^^ (regs2_4 rr.toNatClampNeg))), (3, .int r_1), (0, .ref aP), (1, .int rr), (2, .int k)]) hx hb dX3_exclude_31 hl (by decide) rfl (fun ls hl => ?_)
  refine lv_aload_n hx hb dX3_exclude_33 rfl (lv_at hl 2 rfl) ?_
  refine va_get (D := (dC, dI)) (ci := 3) (v := .ref aF) (C := RX3) (T := TX3) (N := 2) hx hb hts (by decide +kernel) hown hK hP 0 rfl rfl 1 (by decide) (hts (.fieldLink RX3 12 "WordGuest$Processor" "conditions" "LWordGuest$Flags;") (by decide +kernel)) (fun _ h9 => h9) rfl dX3_exclude_34 ?_
  refine lv_iload hx hb dX3_exclude_37 (lv_at hl 0 rfl) ?_
  refine lv_ldc (v := 65535) hx hb hown (hts (.constant RX3 69 (65535)) (by decide +kernel)) dX3_exclude_39 ?_
  have hPc := hP.sub (ws' := [(aF, .inr (0, [.int fn, .int fz, .int fv, .int fc]))]) [2] rfl
  have hDc := hD.sub (ws' := [(aF, .inr (0, [.int fn, .int fz, .int fv, .int fc]))]) [2] (by decide) rfl
  have hKc := hK.sub (tys' := []) [] rfl
  have hFc := va_free (wc := [(aF, .inr (0, [.int fn, .int fz, .int fv, .int fc]))]) hD hS hA [2] rfl
  refine va_callv (va_runV (C := RX0) (b := aF) (As := [.int (r_5 ^^^ (regs2_4 rr.toNatClampNeg)), .int 65535]) (rest := []) ⟨hx, hb, hml, hown, hts⟩ (s_X0_setByResult l dC dI H.size aF (r_5 ^^^ (regs2_4 rr.toNatClampNeg)) (65535 : Int32) fn fz fv fc) (cwV 2 hts gX3_exclude_X0_setByResult rfl rfl rfl (by decide +kernel) ⟨Nat.le_of_ble_eq_true rfl, Nat.le_of_ble_eq_true rfl⟩) ⟨q_blind, va_recv hK hP (ci := 0) (q0 := 2) rfl rfl, fun U hU hW => ⟨rfl, q_pay hU hW hPc hKc hDc hN⟩⟩ rfl rfl hl.1 rfl (lv_room (Nat.le_of_ble_eq_true rfl)) dX3_exclude_41 ⟨show 0 + 0 ≤ 0 from by omega, show 0 + 0 ≤ 0 from by omega⟩) hS (fun q _ h => hFc q h) hFc (fun u9 t H locs ht hvm hw_9 hB hz1 hk1 hS => ?_)
  obtain ⟨fn2_10, fz2_11⟩ := u9
  obtain ⟨hP1, hK1, hD1⟩ := hB
  rw [ht] at hP1
  obtain ⟨hP, hD⟩ := va_join (wr := [(aP, .inr (3, [.ref aR, .ref aF])), (aT, .inl (cT, 400, .inl told)), (aR, .inr (2, [.ref aM, .ref aA, .ref aB, .int fault2_7])), (aA, .inl (cA, 8, .inl regs2_4)), (aM, .inr (1, [.ref aW, .ref aT, .int cnt])), (aW, .inl (cW, 2048, .inl words))]) (w1 := [(aF, .inr (0, [.int fn2_10, .int fz2_11, .int fv, .int fc]))]) hP hD [2] [0, 1, 3, 4, 5, 6] rfl rfl (by decide) (by decide) hk1 hFc hP1 hD1
  have hP : va_P (dC, dI) vwCl [(aP, .inr (3, [.ref aR, .ref aF])), (aT, .inl (cT, 400, .inl told)), (aR, .inr (2, [.ref aM, .ref aA, .ref aB, .int fault2_7])), (aA, .inl (cA, 8, .inl regs2_4)), (aM, .inr (1, [.ref aW, .ref aT, .int cnt])), (aW, .inl (cW, 2048, .inl words)), (aF, .inr (0, [.int fn2_10, .int fz2_11, .int fv, .int fc]))] H := hP
  have hD : va_D A [(aP, .inr (3, [.ref aR, .ref aF])), (aT, .inl (cT, 400, .inl told)), (aR, .inr (2, [.ref aM, .ref aA, .ref aB, .int fault2_7])), (aA, .inl (cA, 8, .inl regs2_4)), (aM, .inr (1, [.ref aW, .ref aT, .int cnt])), (aW, .inl (cW, 2048, .inl words)), (aF, .inr (0, [.int fn2_10, .int fz2_11, .int fv, .int fc]))] := hD
  refine W.widen (k := 0) (n := 0) (by omega) (by omega) ?_
  try dsimp only at hw_9
  refine lv_aload_n hx hb dX3_exclude_44 rfl (lv_at hl 2 rfl) ?_
  refine va_get (D := (dC, dI)) (ci := 3) (v := .ref aF) (C := RX3) (T := TX3) (N := 2) hx hb hts (by decide +kernel) hown hK hP 0 rfl rfl 1 (by decide) (hts (.fieldLink RX3 12 "WordGuest$Processor" "conditions" "LWordGuest$Flags;") (by decide +kernel)) (fun _ h9 => h9) rfl dX3_exclude_45 ?_
  refine lv_iconst (v := 0) hx hb dX3_exclude_48 (by decide) ?_
  refine va_putN (D := (dC, dI)) (ci := 0) (v := .int 0) (ty := .boolean) (C := RX0) (T := TX0) (N := 4) hx hb hts (by decide +kernel) tyX0 tyX0_ok nmX0 hown hK hP hD hS 6 rfl rfl 2 (by decide) ((va_Nw.use rfl (hN _ (List.mem_of_getElem? (i := 6) rfl)))) (fun _ h9 => h9) rfl (by decide +kernel) (by decide) (by decide) (Nat.le_of_ble_eq_true rfl) dX3_exclude_49 (fun H locs hP hD hS => ?_)
  have hP : va_P (dC, dI) vwCl [(aP, .inr (3, [.ref aR, .ref aF])), (aT, .inl (cT, 400, .inl told)), (aR, .inr (2, [.ref aM, .ref aA, .ref aB, .int fault2_7])), (aA, .inl (cA, 8, .inl regs2_4)), (aM, .inr (1, [.ref aW, .ref aT, .int cnt])), (aW, .inl (cW, 2048, .inl words)), (aF, .inr (0, [.int fn2_10, .int fz2_11, .int 0, .int fc]))] H := hP
  have hD : va_D A [(aP, .inr (3, [.ref aR, .ref aF])), (aT, .inl (cT, 400, .inl told)), (aR, .inr (2, [.ref aM, .ref aA, .ref aB, .int fault2_7])), (aA, .inl (cA, 8, .inl regs2_4)), (aM, .inr (1, [.ref aW, .ref aT, .int cnt])), (aW, .inl (cW, 2048, .inl words)), (aF, .inr (0, [.int fn2_10, .int fz2_11, .int 0, .int fc]))] := hD
  refine lv_aload_n hx hb dX3_exclude_52 rfl (lv_at hl 2 rfl) ?_
  refine va_get (D := (dC, dI)) (ci := 3) (v := .ref aR) (C := RX3) (T := TX3) (N := 2) hx hb hts (by decide +kernel) hown hK hP 0 rfl rfl 0 (by decide) (hts (.fieldLink RX3 23 "WordGuest$Processor" "parts" "LWordGuest$Parts;") (by decide +kernel)) (fun _ h9 => h9) rfl dX3_exclude_53 ?_
  refine lv_iload_n hx hb dX3_exclude_56 rfl (lv_at hl 1 rfl) ?_
  refine lv_ldc (v := 65535) hx hb hown (hts (.constant RX3 69 (65535)) (by decide +kernel)) dX3_exclude_57 ?_
  refine lv_iload hx hb dX3_exclude_59 (lv_at hl 0 rfl) ?_
  have hPc := hP.sub (ws' := [(aR, .inr (2, [.ref aM, .ref aA, .ref aB, .int fault2_7])), (aA, .inl (cA, 8, .inl regs2_4)), (aM, .inr (1, [.ref aW, .ref aT, .int cnt])), (aW, .inl (cW, 2048, .inl words)), (aT, .inl (cT, 400, .inl told))]) [2, 3, 4, 5, 1] rfl
  have hDc := hD.sub (ws' := [(aR, .inr (2, [.ref aM, .ref aA, .ref aB, .int fault2_7])), (aA, .inl (cA, 8, .inl regs2_4)), (aM, .inr (1, [.ref aW, .ref aT, .int cnt])), (aW, .inl (cW, 2048, .inl words)), (aT, .inl (cT, 400, .inl told))]) [2, 3, 4, 5, 1] (by decide) rfl
  have hKc := hK.sub (tys' := [(cA, .int), (cW, .int), (cT, .int)]) [0, 1, 2] rfl
  have hFc := va_free (wc := [(aR, .inr (2, [.ref aM, .ref aA, .ref aB, .int fault2_7])), (aA, .inl (cA, 8, .inl regs2_4)), (aM, .inr (1, [.ref aW, .ref aT, .int cnt])), (aW, .inl (cW, 2048, .inl words)), (aT, .inl (cT, 400, .inl told))]) hD hS hA [2, 3, 4, 5, 1] rfl
  refine va_callv (va_runV (C := RX2) (b := aR) (As := [.int r_1, .int 65535, .int (r_5 ^^^ (regs2_4 rr.toNatClampNeg))]) (rest := []) ⟨hx, hb, hml, hown, hts⟩ (s_X2_store l dC dI H.size aR r_1 (65535 : Int32) (r_5 ^^^ (regs2_4 rr.toNatClampNeg)) aM aA aB fault2_7 cA regs2_4 aW aT cnt cW words cT told h4) (cwV 3 hts gX3_exclude_X2_store rfl rfl rfl (by decide +kernel) ⟨Nat.le_of_ble_eq_true rfl, Nat.le_of_ble_eq_true rfl⟩) ⟨q_blind, va_recv hK hP (ci := 2) (q0 := 2) rfl rfl, fun U hU hW => ⟨rfl, q_pay hU hW hPc hKc hDc hN⟩⟩ rfl rfl hl.1 rfl (lv_room (Nat.le_of_ble_eq_true rfl)) dX3_exclude_61 ⟨show 0 + 0 ≤ 0 from by omega, show 0 + 0 ≤ 0 from by omega⟩) hS (fun q _ h => hFc q h) hFc (fun u9 t H locs ht hvm hw_13 hB hz1 hk1 hS => ?_)
  obtain ⟨fault2_14, regs2_15, cnt2_16, words2_17, told2_18⟩ := u9
  obtain ⟨hP1, hK1, hD1⟩ := hB
  rw [ht] at hP1
  obtain ⟨hP, hD⟩ := va_join (wr := [(aP, .inr (3, [.ref aR, .ref aF])), (aF, .inr (0, [.int fn2_10, .int fz2_11, .int 0, .int fc]))]) (w1 := [(aR, .inr (2, [.ref aM, .ref aA, .ref aB, .int fault2_14])), (aA, .inl (cA, 8, .inl regs2_15)), (aM, .inr (1, [.ref aW, .ref aT, .int cnt2_16])), (aW, .inl (cW, 2048, .inl words2_17)), (aT, .inl (cT, 400, .inl told2_18))]) hP hD [2, 3, 4, 5, 1] [0, 6] rfl rfl (by decide) (by decide) hk1 hFc hP1 hD1
  have hP : va_P (dC, dI) vwCl [(aP, .inr (3, [.ref aR, .ref aF])), (aF, .inr (0, [.int fn2_10, .int fz2_11, .int 0, .int fc])), (aR, .inr (2, [.ref aM, .ref aA, .ref aB, .int fault2_14])), (aA, .inl (cA, 8, .inl regs2_15)), (aM, .inr (1, [.ref aW, .ref aT, .int cnt2_16])), (aW, .inl (cW, 2048, .inl words2_17)), (aT, .inl (cT, 400, .inl told2_18))] H := hP
  have hD : va_D A [(aP, .inr (3, [.ref aR, .ref aF])), (aF, .inr (0, [.int fn2_10, .int fz2_11, .int 0, .int fc])), (aR, .inr (2, [.ref aM, .ref aA, .ref aB, .int fault2_14])), (aA, .inl (cA, 8, .inl regs2_15)), (aM, .inr (1, [.ref aW, .ref aT, .int cnt2_16])), (aW, .inl (cW, 2048, .inl words2_17)), (aT, .inl (cT, 400, .inl told2_18))] := hD
  refine W.widen (k := 0) (n := 0) (by omega) (by omega) ?_
  try dsimp only at hw_13
  have hP9 := hP.sub (ws' := [(aP, .inr (3, [.ref aR, .ref aF])), (aR, .inr (2, [.ref aM, .ref aA, .ref aB, .int fault2_14])), (aA, .inl (cA, 8, .inl regs2_15)), (aM, .inr (1, [.ref aW, .ref aT, .int cnt2_16])), (aW, .inl (cW, 2048, .inl words2_17)), (aT, .inl (cT, 400, .inl told2_18)), (aF, .inr (0, [.int fn2_10, .int fz2_11, .int 0, .int fc]))]) [0, 2, 3, 4, 5, 6, 1] rfl
  have hD9 := hD.sub (ws' := [(aP, .inr (3, [.ref aR, .ref aF])), (aR, .inr (2, [.ref aM, .ref aA, .ref aB, .int fault2_14])), (aA, .inl (cA, 8, .inl regs2_15)), (aM, .inr (1, [.ref aW, .ref aT, .int cnt2_16])), (aW, .inl (cW, 2048, .inl words2_17)), (aT, .inl (cT, 400, .inl told2_18)), (aF, .inr (0, [.int fn2_10, .int fz2_11, .int 0, .int fc]))]) [0, 2, 3, 4, 5, 6, 1] (by decide) rfl
  have hK9 := hK.sub (tys' := [(cA, .int), (cW, .int), (cT, .int)]) [0, 1, 2] rfl
  exact W.vret hx hb hr (fun t ht hW => ⟨⟨(fault2_14, regs2_15, cnt2_16, words2_17, told2_18, fn2_10, fz2_11, 0, fc), rfl, hw_13, by rw [ht]; exact hP9, va_K.moved hW.alike hK9, hD9⟩, hS.F ht⟩) hS.2.2 dX3_exclude_64
set_option maxHeartbeats 4000000 in
set_option maxRecDepth 100000 in
theorem s_X3_countDown (l : Launch) (dC : Nat → ClassId) (dI : Nat → Nat → Nat) (sz : Nat) (aP : Nat) (rr : Int32) (k : Int32) (aR : Nat) (aF : Nat) (aM : Nat) (aA : Nat) (aB : Nat) (fault : Int32) (cA : ClassId) (regs : Nat → Int32) (aW : Nat) (aT : Nat) (cnt : Int32) (cW : ClassId) (words : Nat → Int32) (cT : ClassId) (told : Nat → Int32) (fn : Int32) (fz : Int32) (fv : Int32) (fc : Int32) (h4 : ok4 cnt) (hr9 : vp_in rr 8) : Met l yX3_countDown wsX3_countDown ({ frames := 1, cells := 0, slots := 0, locals := 21 }) (va_Pc [.ref aP, .int rr, .int k] (q_pre dC dI sz [(aP, .inr (3, [.ref aR, .ref aF])), (aR, .inr (2, [.ref aM, .ref aA, .ref aB, .int fault])), (aA, .inl (cA, 8, .inl regs)), (aM, .inr (1, [.ref aW, .ref aT, .int cnt])), (aW, .inl (cW, 2048, .inl words)), (aT, .inl (cT, 400, .inl told)), (aF, .inr (0, [.int fn, .int fz, .int fv, .int fc]))] [(cA, .int), (cW, .int), (cT, .int)])) (va_Qv (fun (u9 : Int32 × (Nat → Int32) × Int32 × (Nat → Int32) × (Nat → Int32) × Int32 × Int32 × Int32 × Int32) => ok4 u9.2.2.1) (q_at dC dI (va_A [(aP, .inr (3, [.ref aR, .ref aF])), (aR, .inr (2, [.ref aM, .ref aA, .ref aB, .int fault])), (aA, .inl (cA, 8, .inl regs)), (aM, .inr (1, [.ref aW, .ref aT, .int cnt])), (aW, .inl (cW, 2048, .inl words)), (aT, .inl (cT, 400, .inl told)), (aF, .inr (0, [.int fn, .int fz, .int fv, .int fc]))] sz) (fun (u9 : Int32 × (Nat → Int32) × Int32 × (Nat → Int32) × (Nat → Int32) × Int32 × Int32 × Int32 × Int32) => [(cA, .int), (cW, .int), (cT, .int)]) (fun (u9 : Int32 × (Nat → Int32) × Int32 × (Nat → Int32) × (Nat → Int32) × Int32 × Int32 × Int32 × Int32) => [(aP, .inr (3, [.ref aR, .ref aF])), (aR, .inr (2, [.ref aM, .ref aA, .ref aB, .int u9.1])), (aA, .inl (cA, 8, .inl u9.2.1)), (aM, .inr (1, [.ref aW, .ref aT, .int u9.2.2.1])), (aW, .inl (cW, 2048, .inl u9.2.2.2.1)), (aT, .inl (cT, 400, .inl u9.2.2.2.2.1)), (aF, .inr (0, [.int u9.2.2.2.2.2.1, .int u9.2.2.2.2.2.2.1, .int u9.2.2.2.2.2.2.2.1, .int u9.2.2.2.2.2.2.2.2]))])) (va_A [(aP, .inr (3, [.ref aR, .ref aF])), (aR, .inr (2, [.ref aM, .ref aA, .ref aB, .int fault])), (aA, .inl (cA, 8, .inl regs)), (aM, .inr (1, [.ref aW, .ref aT, .int cnt])), (aW, .inl (cW, 2048, .inl words)), (aT, .inl (cT, 400, .inl told)), (aF, .inr (0, [.int fn, .int fz, .int fv, .int fc]))] sz)) 0 0 (va_A [(aP, .inr (3, [.ref aR, .ref aF])), (aR, .inr (2, [.ref aM, .ref aA, .ref aB, .int fault])), (aA, .inl (cA, 8, .inl regs)), (aM, .inr (1, [.ref aW, .ref aT, .int cnt])), (aW, .inl (cW, 2048, .inl words)), (aT, .inl (cT, 400, .inl told)), (aF, .inr (0, [.int fn, .int fz, .int fv, .int fc]))] sz) := by
  refine Met.ofW (cc := cX3_countDown) (maxL := 3) (ret := none) (by decide) rfl ?_
  intro p e s m args below meth c s₁ B hml hv
  obtain ⟨rfl, hsz, hP, hK, hD0, hN⟩ := hv
  have hx := B.exec
  have hb := B.bytes
  have hr := B.returns
  have hts := atoms_spec (ws := wsX3_countDown) B.pre
  have hown : s.vm.findClass RX3 = some m.cls := findClass_of_methodNamed B.named
  have hlocks := B.notSynchronized
  subst hsz
  have hD := hD0.self (sz := s.heap.size)
  generalize hAe : va_A [(aP, .inr (3, [.ref aR, .ref aF])), (aR, .inr (2, [.ref aM, .ref aA, .ref aB, .int fault])), (aA, .inl (cA, 8, .inl regs)), (aM, .inr (1, [.ref aW, .ref aT, .int cnt])), (aW, .inl (cW, 2048, .inl words)), (aT, .inl (cT, 400, .inl told)), (aF, .inr (0, [.int fn, .int fz, .int fv, .int fc]))] s.heap.size = A at hD ⊢
  have hA : ∀ q : Nat, s.heap.size ≤ q → A q := fun q h => by rw [← hAe]; exact Or.inr h
  have hS : va_S A s.heap s.heap [] := va_S.rf
  have hP : va_P (dC, dI) vwCl [(aP, .inr (3, [.ref aR, .ref aF])), (aR, .inr (2, [.ref aM, .ref aA, .ref aB, .int fault])), (aA, .inl (cA, 8, .inl regs)), (aM, .inr (1, [.ref aW, .ref aT, .int cnt])), (aW, .inl (cW, 2048, .inl words)), (aT, .inl (cT, 400, .inl told)), (aF, .inr (0, [.int fn, .int fz, .int fv, .int fc]))] s.heap := hP
  have hl := lv_entry ([.ref aP, .int rr, .int k]) (n := 3) (Nat.le_of_ble_eq_true rfl)
  rw [lg_entry_eq]
  generalize (lg_sl ([.ref aP, .int rr, .int k]) ++ List.replicate (3 - (lg_sl ([.ref aP, .int rr, .int k])).length) Slot.unset).toArray = ls at hl ⊢
  have hl : lv_has ls 3 [(0, .ref aP), (1, .int rr), (2, .int k)] := hl
  refine lv_aload_n hx hb dX3_countDown_0 rfl (lv_at hl 0 rfl) ?_
  refine va_get (D := (dC, dI)) (ci := 3) (v := .ref aR) (C := RX3) (T := TX3) (N := 2) hx hb hts (by decide +kernel) hown hK hP 0 rfl rfl 0 (by decide) (hts (.fieldLink RX3 23 "WordGuest$Processor" "parts" "LWordGuest$Parts;") (by decide +kernel)) (fun _ h9 => h9) rfl dX3_countDown_1 ?_
  refine va_getN (D := (dC, dI)) (ci := 2) (v := .ref aA) (C := RX2) (T := TX2) (N := 4) hx hb hts (by decide +kernel) hown hK hP 1 rfl rfl 1 (by decide) ((va_Nw.use rfl (hN _ (List.mem_of_getElem? (i := 9) rfl)))) (fun _ h9 => h9) rfl dX3_countDown_4 ?_
  refine lv_iload_n hx hb dX3_countDown_7 rfl (lv_at hl 1 rfl) ?_
  refine lv_aload_n hx hb dX3_countDown_8 rfl (lv_at hl 0 rfl) ?_
  refine va_get (D := (dC, dI)) (ci := 3) (v := .ref aR) (C := RX3) (T := TX3) (N := 2) hx hb hts (by decide +kernel) hown hK hP 0 rfl rfl 0 (by decide) (hts (.fieldLink RX3 23 "WordGuest$Processor" "parts" "LWordGuest$Parts;") (by decide +kernel)) (fun _ h9 => h9) rfl dX3_countDown_9 ?_
  refine va_getN (D := (dC, dI)) (ci := 2) (v := .ref aA) (C := RX2) (T := TX2) (N := 4) hx hb hts (by decide +kernel) hown hK hP 1 rfl rfl 1 (by decide) ((va_Nw.use rfl (hN _ (List.mem_of_getElem? (i := 9) rfl)))) (fun _ h9 => h9) rfl dX3_countDown_12 ?_
  refine lv_iload_n hx hb dX3_countDown_15 rfl (lv_at hl 1 rfl) ?_
  refine va_iald hx hb hK hP 2 0 rfl rfl hr9 dX3_countDown_16 ?_
  refine lv_iconst (v := 1) hx hb dX3_countDown_17 (by decide) ?_
  refine lv_isub hx hb dX3_countDown_18 ?_
  refine lv_ldc (v := 65535) hx hb hown (hts (.constant RX3 69 (65535)) (by decide +kernel)) dX3_countDown_19 ?_
  refine lv_iand hx hb dX3_countDown_21 ?_
  refine va_iast hx hb hK hP hD hS 2 0 rfl rfl hr9 dX3_countDown_22 (fun H locs hP hD hS => ?_)
  have hP : va_P (dC, dI) vwCl [(aP, .inr (3, [.ref aR, .ref aF])), (aR, .inr (2, [.ref aM, .ref aA, .ref aB, .int fault])), (aA, .inl (cA, 8, .inl (upd regs rr.toNatClampNeg (((regs rr.toNatClampNeg) - 1) &&& 65535)))), (aM, .inr (1, [.ref aW, .ref aT, .int cnt])), (aW, .inl (cW, 2048, .inl words)), (aT, .inl (cT, 400, .inl told)), (aF, .inr (0, [.int fn, .int fz, .int fv, .int fc]))] H := hP
  have hD : va_D A [(aP, .inr (3, [.ref aR, .ref aF])), (aR, .inr (2, [.ref aM, .ref aA, .ref aB, .int fault])), (aA, .inl (cA, 8, .inl (upd regs rr.toNatClampNeg (((regs rr.toNatClampNeg) - 1) &&& 65535)))), (aM, .inr (1, [.ref aW, .ref aT, .int cnt])), (aW, .inl (cW, 2048, .inl words)), (aT, .inl (cT, 400, .inl told)), (aF, .inr (0, [.int fn, .int fz, .int fv, .int fc]))] := hD
  generalize (upd regs rr.toNatClampNeg (((regs rr.toNatClampNeg) - 1) &&& 65535)) = g_1 at hP hD
  refine lv_aload_n hx hb dX3_countDown_23 rfl (lv_at hl 0 rfl) ?_
  refine va_get (D := (dC, dI)) (ci := 3) (v := .ref aR) (C := RX3) (T := TX3) (N := 2) hx hb hts (by decide +kernel) hown hK hP 0 rfl rfl 0 (by decide) (hts (.fieldLink RX3 23 "WordGuest$Processor" "parts" "LWordGuest$Parts;") (by decide +kernel)) (fun _ h9 => h9) rfl dX3_countDown_24 ?_
  refine va_getN (D := (dC, dI)) (ci := 2) (v := .ref aA) (C := RX2) (T := TX2) (N := 4) hx hb hts (by decide +kernel) hown hK hP 1 rfl rfl 1 (by decide) ((va_Nw.use rfl (hN _ (List.mem_of_getElem? (i := 9) rfl)))) (fun _ h9 => h9) rfl dX3_countDown_27 ?_
  refine lv_iload_n hx hb dX3_countDown_30 rfl (lv_at hl 1 rfl) ?_
  refine va_iald hx hb hK hP 2 0 rfl rfl hr9 dX3_countDown_31 ?_
  refine lv_if_eq (tgt := 44) hx hb dX3_countDown_32 (by decide) (fun c_2 => ?_) (fun c_2 => ?_)
  · have hP9 := hP.sub (ws' := [(aP, .inr (3, [.ref aR, .ref aF])), (aR, .inr (2, [.ref aM, .ref aA, .ref aB, .int fault])), (aA, .inl (cA, 8, .inl g_1)), (aM, .inr (1, [.ref aW, .ref aT, .int cnt])), (aW, .inl (cW, 2048, .inl words)), (aT, .inl (cT, 400, .inl told)), (aF, .inr (0, [.int fn, .int fz, .int fv, .int fc]))]) [0, 1, 2, 3, 4, 5, 6] rfl
    have hD9 := hD.sub (ws' := [(aP, .inr (3, [.ref aR, .ref aF])), (aR, .inr (2, [.ref aM, .ref aA, .ref aB, .int fault])), (aA, .inl (cA, 8, .inl g_1)), (aM, .inr (1, [.ref aW, .ref aT, .int cnt])), (aW, .inl (cW, 2048, .inl words)), (aT, .inl (cT, 400, .inl told)), (aF, .inr (0, [.int fn, .int fz, .int fv, .int fc]))]) [0, 1, 2, 3, 4, 5, 6] (by decide) rfl
    have hK9 := hK.sub (tys' := [(cA, .int), (cW, .int), (cT, .int)]) [0, 1, 2] rfl
    exact W.vret hx hb hr (fun t ht hW => ⟨⟨(fault, g_1, cnt, words, told, fn, fz, fv, fc), rfl, h4, by rw [ht]; exact hP9, va_K.moved hW.alike hK9, hD9⟩, hS.F ht⟩) hS.2.2 dX3_countDown_44
  · refine lv_aload_n hx hb dX3_countDown_35 rfl (lv_at hl 0 rfl) ?_
    refine va_get (D := (dC, dI)) (ci := 3) (v := .ref aR) (C := RX3) (T := TX3) (N := 2) hx hb hts (by decide +kernel) hown hK hP 0 rfl rfl 0 (by decide) (hts (.fieldLink RX3 23 "WordGuest$Processor" "parts" "LWordGuest$Parts;") (by decide +kernel)) (fun _ h9 => h9) rfl dX3_countDown_36 ?_
    refine lv_iload_n hx hb dX3_countDown_39 rfl (lv_at hl 2 rfl) ?_
    refine lv_ineg hx hb dX3_countDown_40 ?_
    have hPc := hP.sub (ws' := [(aR, .inr (2, [.ref aM, .ref aA, .ref aB, .int fault])), (aA, .inl (cA, 8, .inl g_1))]) [1, 2] rfl
    have hDc := hD.sub (ws' := [(aR, .inr (2, [.ref aM, .ref aA, .ref aB, .int fault])), (aA, .inl (cA, 8, .inl g_1))]) [1, 2] (by decide) rfl
    have hKc := hK.sub (tys' := [(cA, .int)]) [0] rfl
    have hFc := va_free (wc := [(aR, .inr (2, [.ref aM, .ref aA, .ref aB, .int fault])), (aA, .inl (cA, 8, .inl g_1))]) hD hS hA [1, 2] rfl
    refine va_callv (va_runV (C := RX2) (b := aR) (As := [.int (-k)]) (rest := []) ⟨hx, hb, hml, hown, hts⟩ (s_X2_goOn l dC dI H.size aR (-k) aM aA aB fault cA g_1) (cwV 1 hts gX3_countDown_X2_goOn rfl rfl rfl (by decide +kernel) ⟨Nat.le_of_ble_eq_true rfl, Nat.le_of_ble_eq_true rfl⟩) ⟨q_blind, va_recv hK hP (ci := 2) (q0 := 1) rfl rfl, fun U hU hW => ⟨rfl, q_pay hU hW hPc hKc hDc hN⟩⟩ rfl rfl hl.1 rfl (lv_room (Nat.le_of_ble_eq_true rfl)) dX3_countDown_41 ⟨show 0 + 0 ≤ 0 from by omega, show 0 + 0 ≤ 0 from by omega⟩) hS (fun q _ h => hFc q h) hFc (fun u9 t H locs ht hvm hw_4 hB hz1 hk1 hS => ?_)
    obtain ⟨regs2_5, rfl⟩ : ∃ z, z = u9 := ⟨_, rfl⟩
    obtain ⟨hP1, hK1, hD1⟩ := hB
    rw [ht] at hP1
    obtain ⟨hP, hD⟩ := va_join (wr := [(aP, .inr (3, [.ref aR, .ref aF])), (aM, .inr (1, [.ref aW, .ref aT, .int cnt])), (aW, .inl (cW, 2048, .inl words)), (aT, .inl (cT, 400, .inl told)), (aF, .inr (0, [.int fn, .int fz, .int fv, .int fc]))]) (w1 := [(aR, .inr (2, [.ref aM, .ref aA, .ref aB, .int fault])), (aA, .inl (cA, 8, .inl regs2_5))]) hP hD [1, 2] [0, 3, 4, 5, 6] rfl rfl (by decide) (by decide) hk1 hFc hP1 hD1
    have hP : va_P (dC, dI) vwCl [(aP, .inr (3, [.ref aR, .ref aF])), (aM, .inr (1, [.ref aW, .ref aT, .int cnt])), (aW, .inl (cW, 2048, .inl words)), (aT, .inl (cT, 400, .inl told)), (aF, .inr (0, [.int fn, .int fz, .int fv, .int fc])), (aR, .inr (2, [.ref aM, .ref aA, .ref aB, .int fault])), (aA, .inl (cA, 8, .inl regs2_5))] H := hP
    have hD : va_D A [(aP, .inr (3, [.ref aR, .ref aF])), (aM, .inr (1, [.ref aW, .ref aT, .int cnt])), (aW, .inl (cW, 2048, .inl words)), (aT, .inl (cT, 400, .inl told)), (aF, .inr (0, [.int fn, .int fz, .int fv, .int fc])), (aR, .inr (2, [.ref aM, .ref aA, .ref aB, .int fault])), (aA, .inl (cA, 8, .inl regs2_5))] := hD
    refine W.widen (k := 0) (n := 0) (by omega) (by omega) ?_
    try dsimp only at hw_4
    have hP9 := hP.sub (ws' := [(aP, .inr (3, [.ref aR, .ref aF])), (aR, .inr (2, [.ref aM, .ref aA, .ref aB, .int fault])), (aA, .inl (cA, 8, .inl regs2_5)), (aM, .inr (1, [.ref aW, .ref aT, .int cnt])), (aW, .inl (cW, 2048, .inl words)), (aT, .inl (cT, 400, .inl told)), (aF, .inr (0, [.int fn, .int fz, .int fv, .int fc]))]) [0, 5, 6, 1, 2, 3, 4] rfl
    have hD9 := hD.sub (ws' := [(aP, .inr (3, [.ref aR, .ref aF])), (aR, .inr (2, [.ref aM, .ref aA, .ref aB, .int fault])), (aA, .inl (cA, 8, .inl regs2_5)), (aM, .inr (1, [.ref aW, .ref aT, .int cnt])), (aW, .inl (cW, 2048, .inl words)), (aT, .inl (cT, 400, .inl told)), (aF, .inr (0, [.int fn, .int fz, .int fv, .int fc]))]) [0, 5, 6, 1, 2, 3, 4] (by decide) rfl
    have hK9 := hK.sub (tys' := [(cA, .int), (cW, .int), (cT, .int)]) [0, 1, 2] rfl
    exact W.vret hx hb hr (fun t ht hW => ⟨⟨(fault, regs2_5, cnt, words, told, fn, fz, fv, fc), rfl, h4, by rw [ht]; exact hP9, va_K.moved hW.alike hK9, hD9⟩, hS.F ht⟩) hS.2.2 dX3_countDown_44
