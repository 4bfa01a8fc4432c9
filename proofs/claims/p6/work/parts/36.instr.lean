set_option maxHeartbeats 4000000 in
set_option maxRecDepth 100000 in
theorem s_X3_performTwo (l : Launch) (dC : Nat → ClassId) (dI : Nat → Nat → Nat) (sz : Nat) (aP : Nat) (k : Int32) (kind : Int32) (aR : Nat) (aF : Nat) (aM : Nat) (aA : Nat) (aB : Nat) (fault : Int32) (cA : ClassId) (regs : Nat → Int32) (aW : Nat) (aT : Nat) (cnt : Int32) (cW : ClassId) (words : Nat → Int32) (cT : ClassId) (told : Nat → Int32) (fn : Int32) (fz : Int32) (fv : Int32) (fc : Int32) (h4 : ok4 cnt) : Met l yX3_performTwo wsX3_performTwo ({ frames := 3, cells := 0, slots := 0, locals := 72 }) (va_Pc [.ref aP, .int k, .int kind] (q_pre dC dI sz [(aP, .inr (3, [.ref aR, .ref aF])), (aR, .inr (2, [.ref aM, .ref aA, .ref aB, .int fault])), (aA, .inl (cA, 8, .inl regs)), (aM, .inr (1, [.ref aW, .ref aT, .int cnt])), (aW, .inl (cW, 2048, .inl words)), (aT, .inl (cT, 400, .inl told)), (aF, .inr (0, [.int fn, .int fz, .int fv, .int fc]))] [(cA, .int), (cW, .int), (cT, .int)])) (va_Qv (fun (u9 : Int32 × (Nat → Int32) × Int32 × (Nat → Int32) × (Nat → Int32) × Int32 × Int32 × Int32 × Int32) => ok4 u9.2.2.1) (q_at dC dI (va_A [(aP, .inr (3, [.ref aR, .ref aF])), (aR, .inr (2, [.ref aM, .ref aA, .ref aB, .int fault])), (aA, .inl (cA, 8, .inl regs)), (aM, .inr (1, [.ref aW, .ref aT, .int cnt])), (aW, .inl (cW, 2048, .inl words)), (aT, .inl (cT, 400, .inl told)), (aF, .inr (0, [.int fn, .int fz, .int fv, .int fc]))] sz) (fun (u9 : Int32 × (Nat → Int32) × Int32 × (Nat → Int32) × (Nat → Int32) × Int32 × Int32 × Int32 × Int32) => [(cA, .int), (cW, .int), (cT, .int)]) (fun (u9 : Int32 × (Nat → Int32) × Int32 × (Nat → Int32) × (Nat → Int32) × Int32 × Int32 × Int32 × Int32) => [(aP, .inr (3, [.ref aR, .ref aF])), (aR, .inr (2, [.ref aM, .ref aA, .ref aB, .int u9.1])), (aA, .inl (cA, 8, .inl u9.2.1)), (aM, .inr (1, [.ref aW, .ref aT, .int u9.2.2.1])), (aW, .inl (cW, 2048, .inl u9.2.2.2.1)), (aT, .inl (cT, 400, .inl u9.2.2.2.2.1)), (aF, .inr (0, [.int u9.2.2.2.2.2.1, .int u9.2.2.2.2.2.2.1, .int u9.2.2.2.2.2.2.2.1, .int u9.2.2.2.2.2.2.2.2]))])) (va_A [(aP, .inr (3, [.ref aR, .ref aF])), (aR, .inr (2, [.ref aM, .ref aA, .ref aB, .int fault])), (aA, .inl (cA, 8, .inl regs)), (aM, .inr (1, [.ref aW, .ref aT, .int cnt])), (aW, .inl (cW, 2048, .inl words)), (aT, .inl (cT, 400, .inl told)), (aF, .inr (0, [.int fn, .int fz, .int fv, .int fc]))] sz)) 0 0 (va_A [(aP, .inr (3, [.ref aR, .ref aF])), (aR, .inr (2, [.ref aM, .ref aA, .ref aB, .int fault])), (aA, .inl (cA, 8, .inl regs)), (aM, .inr (1, [.ref aW, .ref aT, .int cnt])), (aW, .inl (cW, 2048, .inl words)), (aT, .inl (cT, 400, .inl told)), (aF, .inr (0, [.int fn, .int fz, .int fv, .int fc]))] sz) := by
  refine Met.ofW (cc := cX3_performTwo) (maxL := 8) (ret := none) (by decide) rfl ?_
  intro p e s m args below meth c s₁ B hml hv
  obtain ⟨rfl, hsz, hP, hK, hD0, hN⟩ := hv
  have hx := B.exec
  have hb := B.bytes
  have hr := B.returns
  have hts := atoms_spec (ws := wsX3_performTwo) B.pre
  have hown : s.vm.findClass RX3 = some m.cls := findClass_of_methodNamed B.named
  have hlocks := B.notSynchronized
  subst hsz
  have hD := hD0.self (sz := s.heap.size)
  generalize hAe : va_A [(aP, .inr (3, [.ref aR, .ref aF])), (aR, .inr (2, [.ref aM, .ref aA, .ref aB, .int fault])), (aA, .inl (cA, 8, .inl regs)), (aM, .inr (1, [.ref aW, .ref aT, .int cnt])), (aW, .inl (cW, 2048, .inl words)), (aT, .inl (cT, 400, .inl told)), (aF, .inr (0, [.int fn, .int fz, .int fv, .int fc]))] s.heap.size = A at hD ⊢
  have hA : ∀ q : Nat, s.heap.size ≤ q → A q := fun q h => by rw [← hAe]; exact Or.inr h
  have hS : va_S A s.heap s.heap [] := va_S.rf
  have hP : va_P (dC, dI) vwCl [(aP, .inr (3, [.ref aR, .ref aF])), (aR, .inr (2, [.ref aM, .ref aA, .ref aB, .int fault])), (aA, .inl (cA, 8, .inl regs)), (aM, .inr (1, [.ref aW, .ref aT, .int cnt])), (aW, .inl (cW, 2048, .inl words)), (aT, .inl (cT, 400, .inl told)), (aF, .inr (0, [.int fn, .int fz, .int fv, .int fc]))] s.heap := hP
  have hl := lv_entry ([.ref aP, .int k, .int kind]) (n := 8) (Nat.le_of_ble_eq_true rfl)
  rw [lg_entry_eq]
  generalize (lg_sl ([.ref aP, .int k, .int kind]) ++ List.replicate (8 - (lg_sl ([.ref aP, .int k, .int kind])).length) Slot.unset).toArray = ls at hl ⊢
  have hl : lv_has ls 8 [(0, .ref aP), (1, .int k), (2, .int kind)] := hl
  refine lv_iload_n hx hb dX3_performTwo_0 rfl (lv_at hl 1 rfl) ?_
  have hPc := hP.sub (ws' := []) [] rfl
  have hDc := hD.sub (ws' := []) [] (by decide) rfl
  have hKc := hK.sub (tys' := []) [] rfl
  have hFc := va_free (wc := []) hD hS hA [] rfl
  refine va_calli (va_runS (As := [.int k]) (rest := []) ⟨hx, hb, hml, hown, hts⟩ (s_X3_sizeIn l dC dI s.heap.size k) (va_cwS 1 hts gX3_performTwo_X3_sizeIn rfl rfl rfl (by decide +kernel) ⟨Nat.le_of_ble_eq_true rfl, Nat.le_of_ble_eq_true rfl⟩) ⟨q_blind, fun U hU hW => ⟨rfl, q_pay hU hW hPc hKc hDc hN⟩⟩ rfl rfl hl.1 rfl (lv_room (Nat.le_of_ble_eq_true rfl)) dX3_performTwo_1 ⟨show 0 + 0 ≤ 0 from by omega, show 0 + 0 ≤ 0 from by omega⟩) hS (fun q _ h => hFc q h) hFc (fun r_1 u9 t H locs ht hvm hw_2 hB hz1 hk1 hS => ?_)
  obtain ⟨hP1, hK1, hD1⟩ := hB
  rw [ht] at hP1
  obtain ⟨hP, hD⟩ := va_join (wr := [(aP, .inr (3, [.ref aR, .ref aF])), (aR, .inr (2, [.ref aM, .ref aA, .ref aB, .int fault])), (aA, .inl (cA, 8, .inl regs)), (aM, .inr (1, [.ref aW, .ref aT, .int cnt])), (aW, .inl (cW, 2048, .inl words)), (aT, .inl (cT, 400, .inl told)), (aF, .inr (0, [.int fn, .int fz, .int fv, .int fc]))]) (w1 := []) hP hD [] [0, 1, 2, 3, 4, 5, 6] rfl rfl (by decide) (by decide) hk1 hFc hP1 hD1
  have hP : va_P (dC, dI) vwCl [(aP, .inr (3, [.ref aR, .ref aF])), (aR, .inr (2, [.ref aM, .ref aA, .ref aB, .int fault])), (aA, .inl (cA, 8, .inl regs)), (aM, .inr (1, [.ref aW, .ref aT, .int cnt])), (aW, .inl (cW, 2048, .inl words)), (aT, .inl (cT, 400, .inl told)), (aF, .inr (0, [.int fn, .int fz, .int fv, .int fc]))] H := hP
  have hD : va_D A [(aP, .inr (3, [.ref aR, .ref aF])), (aR, .inr (2, [.ref aM, .ref aA, .ref aB, .int fault])), (aA, .inl (cA, 8, .inl regs)), (aM, .inr (1, [.ref aW, .ref aT, .int cnt])), (aW, .inl (cW, 2048, .inl words)), (aT, .inl (cT, 400, .inl told)), (aF, .inr (0, [.int fn, .int fz, .int fv, .int fc]))] := hD
  refine W.widen (k := 0) (n := 0) (by omega) (by omega) ?_
  try dsimp only at hw_2
  refine lv_istore_n (lv' := [(3, .int r_1), (0, .ref aP), (1, .int k), (2, .int kind)]) hx hb dX3_performTwo_4 rfl hl (by decide) rfl (fun ls hl => ?_)
  refine lv_aload_n hx hb dX3_performTwo_5 rfl (lv_at hl 1 rfl) ?_
  refine va_get (D := (dC, dI)) (ci := 3) (v := .ref aR) (C := RX3) (T := TX3) (N := 2) hx hb hts (by decide +kernel) hown hK hP 0 rfl rfl 0 (by decide) (hts (.fieldLink RX3 23 "WordGuest$Processor" "parts" "LWordGuest$Parts;") (by decide +kernel)) (fun _ h9 => h9) rfl dX3_performTwo_6 ?_
  refine lv_aload_n hx hb dX3_performTwo_9 rfl (lv_at hl 1 rfl) ?_
  refine va_get (D := (dC, dI)) (ci := 3) (v := .ref aR) (C := RX3) (T := TX3) (N := 2) hx hb hts (by decide +kernel) hown hK hP 0 rfl rfl 0 (by decide) (hts (.fieldLink RX3 23 "WordGuest$Processor" "parts" "LWordGuest$Parts;") (by decide +kernel)) (fun _ h9 => h9) rfl dX3_performTwo_10 ?_
  refine lv_iload_n hx hb dX3_performTwo_13 rfl (lv_at hl 2 rfl) ?_
  refine lv_bipush (v := 6) hx hb dX3_performTwo_14 (by decide) ?_
  refine lv_ishr hx hb dX3_performTwo_16 ?_
  refine lv_iload_n hx hb dX3_performTwo_17 rfl (lv_at hl 0 rfl) ?_
  have hPc := hP.sub (ws' := [(aR, .inr (2, [.ref aM, .ref aA, .ref aB, .int fault])), (aA, .inl (cA, 8, .inl regs)), (aM, .inr (1, [.ref aW, .ref aT, .int cnt])), (aW, .inl (cW, 2048, .inl words))]) [1, 2, 3, 4] rfl
  have hDc := hD.sub (ws' := [(aR, .inr (2, [.ref aM, .ref aA, .ref aB, .int fault])), (aA, .inl (cA, 8, .inl regs)), (aM, .inr (1, [.ref aW, .ref aT, .int cnt])), (aW, .inl (cW, 2048, .inl words))]) [1, 2, 3, 4] (by decide) rfl
  have hKc := hK.sub (tys' := [(cA, .int), (cW, .int)]) [0, 1] rfl
  have hFc := va_free (wc := [(aR, .inr (2, [.ref aM, .ref aA, .ref aB, .int fault])), (aA, .inl (cA, 8, .inl regs)), (aM, .inr (1, [.ref aW, .ref aT, .int cnt])), (aW, .inl (cW, 2048, .inl words))]) hD hS hA [1, 2, 3, 4] rfl
  refine va_calli (va_runV (C := RX2) (b := aR) (As := [.int (k >>> (6 &&& 31)), .int r_1]) (rest := [.ref aR]) ⟨hx, hb, hml, hown, hts⟩ (s_X2_locate l dC dI H.size aR (k >>> (6 &&& 31)) r_1 aM aA aB fault cA regs aW aT cnt cW words) (cwV 2 hts gX3_performTwo_X2_locate rfl rfl rfl (by decide +kernel) ⟨Nat.le_of_ble_eq_true rfl, Nat.le_of_ble_eq_true rfl⟩) ⟨q_blind, va_recv hK hP (ci := 2) (q0 := 1) rfl rfl, fun U hU hW => ⟨rfl, q_pay hU hW hPc hKc hDc hN⟩⟩ rfl rfl hl.1 rfl (lv_room (Nat.le_of_ble_eq_true rfl)) dX3_performTwo_18 ⟨show 0 + 0 ≤ 0 from by omega, show 0 + 0 ≤ 0 from by omega⟩) hS (fun q _ h => hFc q h) hFc (fun r_3 u9 t H locs ht hvm hw_4 hB hz1 hk1 hS => ?_)
  obtain ⟨fault2_5, regs2_6⟩ := u9
  obtain ⟨hP1, hK1, hD1⟩ := hB
  rw [ht] at hP1
  obtain ⟨hP, hD⟩ := va_join (wr := [(aP, .inr (3, [.ref aR, .ref aF])), (aT, .inl (cT, 400, .inl told)), (aF, .inr (0, [.int fn, .int fz, .int fv, .int fc]))]) (w1 := [(aR, .inr (2, [.ref aM, .ref aA, .ref aB, .int fault2_5])), (aA, .inl (cA, 8, .inl regs2_6)), (aM, .inr (1, [.ref aW, .ref aT, .int cnt])), (aW, .inl (cW, 2048, .inl words))]) hP hD [1, 2, 3, 4] [0, 5, 6] rfl rfl (by decide) (by decide) hk1 hFc hP1 hD1
  have hP : va_P (dC, dI) vwCl [(aP, .inr (3, [.ref aR, .ref aF])), (aT, .inl (cT, 400, .inl told)), (aF, .inr (0, [.int fn, .int fz, .int fv, .int fc])), (aR, .inr (2, [.ref aM, .ref aA, .ref aB, .int fault2_5])), (aA, .inl (cA, 8, .inl regs2_6)), (aM, .inr (1, [.ref aW, .ref aT, .int cnt])), (aW, .inl (cW, 2048, .inl words))] H := hP
  have hD : va_D A [(aP, .inr (3, [.ref aR, .ref aF])), (aT, .inl (cT, 400, .inl told)), (aF, .inr (0, [.int fn, .int fz, .int fv, .int fc])), (aR, .inr (2, [.ref aM, .ref aA, .ref aB, .int fault2_5])), (aA, .inl (cA, 8, .inl regs2_6)), (aM, .inr (1, [.ref aW, .ref aT, .int cnt])), (aW, .inl (cW, 2048, .inl words))] := hD
  refine W.widen (k := 0) (n := 0) (by omega) (by omega) ?_
  try dsimp only at hw_4
  refine lv_iload_n hx hb dX3_performTwo_21 rfl (lv_at hl 0 rfl) ?_
  have hPc := hP.sub (ws' := [(aR, .inr (2, [.ref aM, .ref aA, .ref aB, .int fault2_5])), (aA, .inl (cA, 8, .inl regs2_6)), (aM, .inr (1, [.ref aW, .ref aT, .int cnt])), (aW, .inl (cW, 2048, .inl words))]) [3, 4, 5, 6] rfl
  have hDc := hD.sub (ws' := [(aR, .inr (2, [.ref aM, .ref aA, .ref aB, .int fault2_5])), (aA, .inl (cA, 8, .inl regs2_6)), (aM, .inr (1, [.ref aW, .ref aT, .int cnt])), (aW, .inl (cW, 2048, .inl words))]) [3, 4, 5, 6] (by decide) rfl
  have hKc := hK.sub (tys' := [(cA, .int), (cW, .int)]) [0, 1] rfl
  have hFc := va_free (wc := [(aR, .inr (2, [.ref aM, .ref aA, .ref aB, .int fault2_5])), (aA, .inl (cA, 8, .inl regs2_6)), (aM, .inr (1, [.ref aW, .ref aT, .int cnt])), (aW, .inl (cW, 2048, .inl words))]) hD hS hA [3, 4, 5, 6] rfl
  refine va_calli (va_runV (C := RX2) (b := aR) (As := [.int r_3, .int r_1]) (rest := []) ⟨hx, hb, hml, hown, hts⟩ (s_X2_fetch l dC dI H.size aR r_3 r_1 aM aA aB fault2_5 cA regs2_6 aW aT cnt cW words) (cwV 2 hts gX3_performTwo_X2_fetch rfl rfl rfl (by decide +kernel) ⟨Nat.le_of_ble_eq_true rfl, Nat.le_of_ble_eq_true rfl⟩) ⟨q_blind, va_recv hK hP (ci := 2) (q0 := 3) rfl rfl, fun U hU hW => ⟨rfl, q_pay hU hW hPc hKc hDc hN⟩⟩ rfl rfl hl.1 rfl (lv_room (Nat.le_of_ble_eq_true rfl)) dX3_performTwo_22 ⟨show 0 + 0 ≤ 0 from by omega, show 0 + 0 ≤ 0 from by omega⟩) hS (fun q _ h => hFc q h) hFc (fun r_7 u9 t H locs ht hvm hw_8 hB hz1 hk1 hS => ?_)
  obtain ⟨fault2_9, rfl⟩ : ∃ z, z = u9 := ⟨_, rfl⟩
  obtain ⟨hP1, hK1, hD1⟩ := hB
  rw [ht] at hP1
  obtain ⟨hP, hD⟩ := va_join (wr := [(aP, .inr (3, [.ref aR, .ref aF])), (aT, .inl (cT, 400, .inl told)), (aF, .inr (0, [.int fn, .int fz, .int fv, .int fc]))]) (w1 := [(aR, .inr (2, [.ref aM, .ref aA, .ref aB, .int fault2_9])), (aA, .inl (cA, 8, .inl regs2_6)), (aM, .inr (1, [.ref aW, .ref aT, .int cnt])), (aW, .inl (cW, 2048, .inl words))]) hP hD [3, 4, 5, 6] [0, 1, 2] rfl rfl (by decide) (by decide) hk1 hFc hP1 hD1
  have hP : va_P (dC, dI) vwCl [(aP, .inr (3, [.ref aR, .ref aF])), (aT, .inl (cT, 400, .inl told)), (aF, .inr (0, [.int fn, .int fz, .int fv, .int fc])), (aR, .inr (2, [.ref aM, .ref aA, .ref aB, .int fault2_9])), (aA, .inl (cA, 8, .inl regs2_6)), (aM, .inr (1, [.ref aW, .ref aT, .int cnt])), (aW, .inl (cW, 2048, .inl words))] H := hP
  have hD : va_D A [(aP, .inr (3, [.ref aR, .ref aF])), (aT, .inl (cT, 400, .inl told)), (aF, .inr (0, [.int fn, .int fz, .int fv, .int fc])), (aR, .inr (2, [.ref aM, .ref aA, .ref aB, .int fault2_9])), (aA, .inl (cA, 8, .inl regs2_6)), (aM, .inr (1, [.ref aW, .ref aT, .int cnt])), (aW, .inl (cW, 2048, .inl words))] := hD
  refine W.widen (k := 0) (n := 0) (by omega) (by omega) ?_
  try dsimp only at hw_8
  refine lv_istore (lv' := [(4, .int r_7), (3, .int r_1), (0, .ref aP), (1, .int k), (2, .int kind)]) hx hb dX3_performTwo_25 hl (by decide) rfl (fun ls hl => ?_)
  refine lv_aload_n hx hb dX3_performTwo_27 rfl (lv_at hl 2 rfl) ?_
  refine va_get (D := (dC, dI)) (ci := 3) (v := .ref aR) (C := RX3) (T := TX3) (N := 2) hx hb hts (by decide +kernel) hown hK hP 0 rfl rfl 0 (by decide) (hts (.fieldLink RX3 23 "WordGuest$Processor" "parts" "LWordGuest$Parts;") (by decide +kernel)) (fun _ h9 => h9) rfl dX3_performTwo_28 ?_
  refine lv_iload_n hx hb dX3_performTwo_31 rfl (lv_at hl 3 rfl) ?_
  refine lv_iload_n hx hb dX3_performTwo_32 rfl (lv_at hl 1 rfl) ?_
  have hPc := hP.sub (ws' := [(aR, .inr (2, [.ref aM, .ref aA, .ref aB, .int fault2_9])), (aA, .inl (cA, 8, .inl regs2_6)), (aM, .inr (1, [.ref aW, .ref aT, .int cnt])), (aW, .inl (cW, 2048, .inl words))]) [3, 4, 5, 6] rfl
  have hDc := hD.sub (ws' := [(aR, .inr (2, [.ref aM, .ref aA, .ref aB, .int fault2_9])), (aA, .inl (cA, 8, .inl regs2_6)), (aM, .inr (1, [.ref aW, .ref aT, .int cnt])), (aW, .inl (cW, 2048, .inl words))]) [3, 4, 5, 6] (by decide) rfl
  have hKc := hK.sub (tys' := [(cA, .int), (cW, .int)]) [0, 1] rfl
  have hFc := va_free (wc := [(aR, .inr (2, [.ref aM, .ref aA, .ref aB, .int fault2_9])), (aA, .inl (cA, 8, .inl regs2_6)), (aM, .inr (1, [.ref aW, .ref aT, .int cnt])), (aW, .inl (cW, 2048, .inl words))]) hD hS hA [3, 4, 5, 6] rfl
  refine va_calli (va_runV (C := RX2) (b := aR) (As := [.int k, .int r_1]) (rest := []) ⟨hx, hb, hml, hown, hts⟩ (s_X2_locate l dC dI H.size aR k r_1 aM aA aB fault2_9 cA regs2_6 aW aT cnt cW words) (cwV 2 hts gX3_performTwo_X2_locate rfl rfl rfl (by decide +kernel) ⟨Nat.le_of_ble_eq_true rfl, Nat.le_of_ble_eq_true rfl⟩) ⟨q_blind, va_recv hK hP (ci := 2) (q0 := 3) rfl rfl, fun U hU hW => ⟨rfl, q_pay hU hW hPc hKc hDc hN⟩⟩ rfl rfl hl.1 rfl (lv_room (Nat.le_of_ble_eq_true rfl)) dX3_performTwo_33 ⟨show 0 + 0 ≤ 0 from by omega, show 0 + 0 ≤ 0 from by omega⟩) hS (fun q _ h => hFc q h) hFc (fun r_10 u9 t H locs ht hvm hw_11 hB hz1 hk1 hS => ?_)
  obtain ⟨fault2_12, regs2_13⟩ := u9
  obtain ⟨hP1, hK1, hD1⟩ := hB
  rw [ht] at hP1
  obtain ⟨hP, hD⟩ := va_join (wr := [(aP, .inr (3, [.ref aR, .ref aF])), (aT, .inl (cT, 400, .inl told)), (aF, .inr (0, [.int fn, .int fz, .int fv, .int fc]))]) (w1 := [(aR, .inr (2, [.ref aM, .ref aA, .ref aB, .int fault2_12])), (aA, .inl (cA, 8, .inl regs2_13)), (aM, .inr (1, [.ref aW, .ref aT, .int cnt])), (aW, .inl (cW, 2048, .inl words))]) hP hD [3, 4, 5, 6] [0, 1, 2] rfl rfl (by decide) (by decide) hk1 hFc hP1 hD1
  have hP : va_P (dC, dI) vwCl [(aP, .inr (3, [.ref aR, .ref aF])), (aT, .inl (cT, 400, .inl told)), (aF, .inr (0, [.int fn, .int fz, .int fv, .int fc])), (aR, .inr (2, [.ref aM, .ref aA, .ref aB, .int fault2_12])), (aA, .inl (cA, 8, .inl regs2_13)), (aM, .inr (1, [.ref aW, .ref aT, .int cnt])), (aW, .inl (cW, 2048, .inl words))] H := hP
  have hD : va_D A [(aP, .inr (3, [.ref aR, .ref aF])), (aT, .inl (cT, 400, .inl told)), (aF, .inr (0, [.int fn, .int fz, .int fv, .int fc])), (aR, .inr (2, [.ref aM, .ref aA, .ref aB, .int fault2_12])), (aA, .inl (cA, 8, .inl regs2_13)), (aM, .inr (1, [.ref aW, .ref aT, .int cnt])), (aW, .inl (cW, 2048, .inl words))] := hD
  refine W.widen (k := 0) (n := 0) (by omega) (by omega) ?_
  try dsimp only at hw_11
  refine lv_istore (lv' := [(5, .int r_10), (4, .int r_7), (3, .int r_1), (0, .ref aP), (1, .int k), (2, .int kind)]) hx hb dX3_performTwo_36 hl (by decide) rfl (fun ls hl => ?_)
  refine lv_aload_n hx hb dX3_performTwo_38 rfl (lv_at hl 3 rfl) ?_
  refine va_get (D := (dC, dI)) (ci := 3) (v := .ref aR) (C := RX3) (T := TX3) (N := 2) hx hb hts (by decide +kernel) hown hK hP 0 rfl rfl 0 (by decide) (hts (.fieldLink RX3 23 "WordGuest$Processor" "parts" "LWordGuest$Parts;") (by decide +kernel)) (fun _ h9 => h9) rfl dX3_performTwo_39 ?_
  refine lv_iload hx hb dX3_performTwo_42 (lv_at hl 0 rfl) ?_
  refine lv_iload_n hx hb dX3_performTwo_44 rfl (lv_at hl 2 rfl) ?_
  have hPc := hP.sub (ws' := [(aR, .inr (2, [.ref aM, .ref aA, .ref aB, .int fault2_12])), (aA, .inl (cA, 8, .inl regs2_13)), (aM, .inr (1, [.ref aW, .ref aT, .int cnt])), (aW, .inl (cW, 2048, .inl words))]) [3, 4, 5, 6] rfl
  have hDc := hD.sub (ws' := [(aR, .inr (2, [.ref aM, .ref aA, .ref aB, .int fault2_12])), (aA, .inl (cA, 8, .inl regs2_13)), (aM, .inr (1, [.ref aW, .ref aT, .int cnt])), (aW, .inl (cW, 2048, .inl words))]) [3, 4, 5, 6] (by decide) rfl
  have hKc := hK.sub (tys' := [(cA, .int), (cW, .int)]) [0, 1] rfl
  have hFc := va_free (wc := [(aR, .inr (2, [.ref aM, .ref aA, .ref aB, .int fault2_12])), (aA, .inl (cA, 8, .inl regs2_13)), (aM, .inr (1, [.ref aW, .ref aT, .int cnt])), (aW, .inl (cW, 2048, .inl words))]) hD hS hA [3, 4, 5, 6] rfl
  refine va_calli (va_runV (C := RX2) (b := aR) (As := [.int r_10, .int r_1]) (rest := []) ⟨hx, hb, hml, hown, hts⟩ (s_X2_fetch l dC dI H.size aR r_10 r_1 aM aA aB fault2_12 cA regs2_13 aW aT cnt cW words) (cwV 2 hts gX3_performTwo_X2_fetch rfl rfl rfl (by decide +kernel) ⟨Nat.le_of_ble_eq_true rfl, Nat.le_of_ble_eq_true rfl⟩) ⟨q_blind, va_recv hK hP (ci := 2) (q0 := 3) rfl rfl, fun U hU hW => ⟨rfl, q_pay hU hW hPc hKc hDc hN⟩⟩ rfl rfl hl.1 rfl (lv_room (Nat.le_of_ble_eq_true rfl)) dX3_performTwo_45 ⟨show 0 + 0 ≤ 0 from by omega, show 0 + 0 ≤ 0 from by omega⟩) hS (fun q _ h => hFc q h) hFc (fun r_14 u9 t H locs ht hvm hw_15 hB hz1 hk1 hS => ?_)
  obtain ⟨fault2_16, rfl⟩ : ∃ z, z = u9 := ⟨_, rfl⟩
  obtain ⟨hP1, hK1, hD1⟩ := hB
  rw [ht] at hP1
  obtain ⟨hP, hD⟩ := va_join (wr := [(aP, .inr (3, [.ref aR, .ref aF])), (aT, .inl (cT, 400, .inl told)), (aF, .inr (0, [.int fn, .int fz, .int fv, .int fc]))]) (w1 := [(aR, .inr (2, [.ref aM, .ref aA, .ref aB, .int fault2_16])), (aA, .inl (cA, 8, .inl regs2_13)), (aM, .inr (1, [.ref aW, .ref aT, .int cnt])), (aW, .inl (cW, 2048, .inl words))]) hP hD [3, 4, 5, 6] [0, 1, 2] rfl rfl (by decide) (by decide) hk1 hFc hP1 hD1
  have hP : va_P (dC, dI) vwCl [(aP, .inr (3, [.ref aR, .ref aF])), (aT, .inl (cT, 400, .inl told)), (aF, .inr (0, [.int fn, .int fz, .int fv, .int fc])), (aR, .inr (2, [.ref aM, .ref aA, .ref aB, .int fault2_16])), (aA, .inl (cA, 8, .inl regs2_13)), (aM, .inr (1, [.ref aW, .ref aT, .int cnt])), (aW, .inl (cW, 2048, .inl words))] H := hP
  have hD : va_D A [(aP, .inr (3, [.ref aR, .ref aF])), (aT, .inl (cT, 400, .inl told)), (aF, .inr (0, [.int fn, .int fz, .int fv, .int fc])), (aR, .inr (2, [.ref aM, .ref aA, .ref aB, .int fault2_16])), (aA, .inl (cA, 8, .inl regs2_13)), (aM, .inr (1, [.ref aW, .ref aT, .int cnt])), (aW, .inl (cW, 2048, .inl words))] := hD
  refine W.widen (k := 0) (n := 0) (by omega) (by omega) ?_
  try dsimp only at hw_15
  refine lv_istore (lv' := [(6, .int r_14), (5, .int r_10), (4, .int r_7), (3, .int r_1), (0, .ref aP), (1, .int k), (2, .int kind)]) hx hb dX3_performTwo_48 hl (by decide) rfl (fun ls hl => ?_)
  refine lv_iload_n hx hb dX3_performTwo_50 rfl (lv_at hl 6 rfl) ?_
  refine lv_iconst (v := 2) hx hb dX3_performTwo_51 (by decide) ?_
  refine lv_icmp_ne (tgt := 65) hx hb dX3_performTwo_52 (by decide) (fun c_17 => ?_) (fun c_17 => ?_)
  · refine lv_iload_n hx hb dX3_performTwo_65 rfl (lv_at hl 6 rfl) ?_
    refine lv_iload hx hb dX3_performTwo_66 (lv_at hl 2 rfl) ?_
    refine lv_iload hx hb dX3_performTwo_68 (lv_at hl 0 rfl) ?_
    have hPc := hP.sub (ws' := []) [] rfl
    have hDc := hD.sub (ws' := []) [] (by decide) rfl
    have hKc := hK.sub (tys' := []) [] rfl
    have hFc := va_free (wc := []) hD hS hA [] rfl
    refine va_calli (va_runS (As := [.int kind, .int r_7, .int r_14]) (rest := []) ⟨hx, hb, hml, hown, hts⟩ (s_X3_combine l dC dI H.size kind r_7 r_14) (va_cwS 3 hts gX3_performTwo_X3_combine rfl rfl rfl (by decide +kernel) ⟨Nat.le_of_ble_eq_true rfl, Nat.le_of_ble_eq_true rfl⟩) ⟨q_blind, fun U hU hW => ⟨rfl, q_pay hU hW hPc hKc hDc hN⟩⟩ rfl rfl hl.1 rfl (lv_room (Nat.le_of_ble_eq_true rfl)) dX3_performTwo_70 ⟨show 0 + 0 ≤ 0 from by omega, show 0 + 0 ≤ 0 from by omega⟩) hS (fun q _ h => hFc q h) hFc (fun r_18 u9 t H locs ht hvm hw_19 hB hz1 hk1 hS => ?_)
    obtain ⟨hP1, hK1, hD1⟩ := hB
    rw [ht] at hP1
    obtain ⟨hP, hD⟩ := va_join (wr := [(aP, .inr (3, [.ref aR, .ref aF])), (aT, .inl (cT, 400, .inl told)), (aF, .inr (0, [.int fn, .int fz, .int fv, .int fc])), (aR, .inr (2, [.ref aM, .ref aA, .ref aB, .int fault2_16])), (aA, .inl (cA, 8, .inl regs2_13)), (aM, .inr (1, [.ref aW, .ref aT, .int cnt])), (aW, .inl (cW, 2048, .inl words))]) (w1 := []) hP hD [] [0, 1, 2, 3, 4, 5, 6] rfl rfl (by decide) (by decide) hk1 hFc hP1 hD1
    have hP : va_P (dC, dI) vwCl [(aP, .inr (3, [.ref aR, .ref aF])), (aT, .inl (cT, 400, .inl told)), (aF, .inr (0, [.int fn, .int fz, .int fv, .int fc])), (aR, .inr (2, [.ref aM, .ref aA, .ref aB, .int fault2_16])), (aA, .inl (cA, 8, .inl regs2_13)), (aM, .inr (1, [.ref aW, .ref aT, .int cnt])), (aW, .inl (cW, 2048, .inl words))] H := hP
    have hD : va_D A [(aP, .inr (3, [.ref aR, .ref aF])), (aT, .inl (cT, 400, .inl told)), (aF, .inr (0, [.int fn, .int fz, .int fv, .int fc])), (aR, .inr (2, [.ref aM, .ref aA, .ref aB, .int fault2_16])), (aA, .inl (cA, 8, .inl regs2_13)), (aM, .inr (1, [.ref aW, .ref aT, .int cnt])), (aW, .inl (cW, 2048, .inl words))] := hD
    refine W.widen (k := 0) (n := 0) (by omega) (by omega) ?_
    try dsimp only at hw_19
    refine lv_istore (lv' := [(7, .int r_18), (6, .int r_14), (5, .int r_10), (4, .int r_7), (3, .int r_1), (0, .ref aP), (1, .int k), (2, .int kind)]) hx hb dX3_performTwo_73 hl (by decide) rfl (fun ls hl => ?_)
    refine lv_aload_n hx hb dX3_performTwo_75 rfl (lv_at hl 5 rfl) ?_
    refine va_get (D := (dC, dI)) (ci := 3) (v := .ref aF) (C := RX3) (T := TX3) (N := 2) hx hb hts (by decide +kernel) hown hK hP 0 rfl rfl 1 (by decide) (hts (.fieldLink RX3 12 "WordGuest$Processor" "conditions" "LWordGuest$Flags;") (by decide +kernel)) (fun _ h9 => h9) rfl dX3_performTwo_76 ?_
    refine lv_iload hx hb dX3_performTwo_79 (lv_at hl 0 rfl) ?_
    refine lv_iload_n hx hb dX3_performTwo_81 rfl (lv_at hl 4 rfl) ?_
    have hPc := hP.sub (ws' := [(aF, .inr (0, [.int fn, .int fz, .int fv, .int fc]))]) [2] rfl
    have hDc := hD.sub (ws' := [(aF, .inr (0, [.int fn, .int fz, .int fv, .int fc]))]) [2] (by decide) rfl
    have hKc := hK.sub (tys' := []) [] rfl
    have hFc := va_free (wc := [(aF, .inr (0, [.int fn, .int fz, .int fv, .int fc]))]) hD hS hA [2] rfl
    refine va_callv (va_runV (C := RX0) (b := aF) (As := [.int r_18, .int r_1]) (rest := []) ⟨hx, hb, hml, hown, hts⟩ (s_X0_setByResult l dC dI H.size aF r_18 r_1 fn fz fv fc) (cwV 2 hts gX3_performTwo_X0_setByResult rfl rfl rfl (by decide +kernel) ⟨Nat.le_of_ble_eq_true rfl, Nat.le_of_ble_eq_true rfl⟩) ⟨q_blind, va_recv hK hP (ci := 0) (q0 := 2) rfl rfl, fun U hU hW => ⟨rfl, q_pay hU hW hPc hKc hDc hN⟩⟩ rfl rfl hl.1 rfl (lv_room (Nat.le_of_ble_eq_true rfl)) dX3_performTwo_82 ⟨show 0 + 0 ≤ 0 from by omega, show 0 + 0 ≤ 0 from by omega⟩) hS (fun q _ h => hFc q h) hFc (fun u9 t H locs ht hvm hw_21 hB hz1 hk1 hS => ?_)
    obtain ⟨fn2_22, fz2_23⟩ := u9
    obtain ⟨hP1, hK1, hD1⟩ := hB
    rw [ht] at hP1
    obtain ⟨hP, hD⟩ := va_join (wr := [(aP, .inr (3, [.ref aR, .ref aF])), (aT, .inl (cT, 400, .inl told)), (aR, .inr (2, [.ref aM, .ref aA, .ref aB, .int fault2_16])), (aA, .inl (cA, 8, .inl regs2_13)), (aM, .inr (1, [.ref aW, .ref aT, .int cnt])), (aW, .inl (cW, 2048, .inl words))]) (w1 := [(aF, .inr (0, [.int fn2_22, .int fz2_23, .int fv, .int fc]))]) hP hD [2] [0, 1, 3, 4, 5, 6] rfl rfl (by decide) (by decide) hk1 hFc hP1 hD1
    have hP : va_P (dC, dI) vwCl [(aP, .inr (3, [.ref aR, .ref aF])), (aT, .inl (cT, 400, .inl told)), (aR, .inr (2, [.ref aM, .ref aA, .ref aB, .int fault2_16])), (aA, .inl (cA, 8, .inl regs2_13)), (aM, .inr (1, [.ref aW, .ref aT, .int cnt])), (aW, .inl (cW, 2048, .inl words)), (aF, .inr (0, [.int fn2_22, .int fz2_23, .int fv, .int fc]))] H := hP
    have hD : va_D A [(aP, .inr (3, [.ref aR, .ref aF])), (aT, .inl (cT, 400, .inl told)), (aR, .inr (2, [.ref aM, .ref aA, .ref aB, .int fault2_16])), (aA, .inl (cA, 8, .inl regs2_13)), (aM, .inr (1, [.ref aW, .ref aT, .int cnt])), (aW, .inl (cW, 2048, .inl words)), (aF, .inr (0, [.int fn2_22, .int fz2_23, .int fv, .int fc]))] := hD
    refine W.widen (k := 0) (n := 0) (by omega) (by omega) ?_
    try dsimp only at hw_21
    refine lv_aload_n hx hb dX3_performTwo_85 rfl (lv_at hl 5 rfl) ?_
    refine va_get (D := (dC, dI)) (ci := 3) (v := .ref aF) (C := RX3) (T := TX3) (N := 2) hx hb hts (by decide +kernel) hown hK hP 0 rfl rfl 1 (by decide) (hts (.fieldLink RX3 12 "WordGuest$Processor" "conditions" "LWordGuest$Flags;") (by decide +kernel)) (fun _ h9 => h9) rfl dX3_performTwo_86 ?_
    refine lv_iconst (v := 0) hx hb dX3_performTwo_89 (by decide) ?_
    refine va_putN (D := (dC, dI)) (ci := 0) (v := .int 0) (ty := .boolean) (C := RX0) (T := TX0) (N := 4) hx hb hts (by decide +kernel) tyX0 tyX0_ok nmX0 hown hK hP hD hS 6 rfl rfl 2 (by decide) ((va_Nw.use rfl (hN _ (List.mem_of_getElem? (i := 6) rfl)))) (fun _ h9 => h9) rfl (by decide +kernel) (by decide) (by decide) (Nat.le_of_ble_eq_true rfl) dX3_performTwo_90 (fun H locs hP hD hS => ?_)
    have hP : va_P (dC, dI) vwCl [(aP, .inr (3, [.ref aR, .ref aF])), (aT, .inl (cT, 400, .inl told)), (aR, .inr (2, [.ref aM, .ref aA, .ref aB, .int fault2_16])), (aA, .inl (cA, 8, .inl regs2_13)), (aM, .inr (1, [.ref aW, .ref aT, .int cnt])), (aW, .inl (cW, 2048, .inl words)), (aF, .inr (0, [.int fn2_22, .int fz2_23, .int 0, .int fc]))] H := hP
    have hD : va_D A [(aP, .inr (3, [.ref aR, .ref aF])), (aT, .inl (cT, 400, .inl told)), (aR, .inr (2, [.ref aM, .ref aA, .ref aB, .int fault2_16])), (aA, .inl (cA, 8, .inl regs2_13)), (aM, .inr (1, [.ref aW, .ref aT, .int cnt])), (aW, .inl (cW, 2048, .inl words)), (aF, .inr (0, [.int fn2_22, .int fz2_23, .int 0, .int fc]))] := hD
    refine lv_iload_n hx hb dX3_performTwo_93 rfl (lv_at hl 7 rfl) ?_
    refine lv_iconst (v := 1) hx hb dX3_performTwo_94 (by decide) ?_
    refine lv_icmp_ne (tgt := 113) hx hb dX3_performTwo_95 (by decide) (fun c_24 => ?_) (fun c_24 => ?_)
    · refine lv_iload_n hx hb dX3_performTwo_113 rfl (lv_at hl 7 rfl) ?_
      refine lv_iconst (v := 3) hx hb dX3_performTwo_114 (by decide) ?_
      refine lv_icmp_eq (tgt := 130) hx hb dX3_performTwo_115 (by decide) (fun c_25 => ?_) (fun c_25 => ?_)
      · have hP9 := hP.sub (ws' := [(aP, .inr (3, [.ref aR, .ref aF])), (aR, .inr (2, [.ref aM, .ref aA, .ref aB, .int fault2_16])), (aA, .inl (cA, 8, .inl regs2_13)), (aM, .inr (1, [.ref aW, .ref aT, .int cnt])), (aW, .inl (cW, 2048, .inl words)), (aT, .inl (cT, 400, .inl told)), (aF, .inr (0, [.int fn2_22, .int fz2_23, .int 0, .int fc]))]) [0, 2, 3, 4, 5, 1, 6] rfl
        have hD9 := hD.sub (ws' := [(aP, .inr (3, [.ref aR, .ref aF])), (aR, .inr (2, [.ref aM, .ref aA, .ref aB, .int fault2_16])), (aA, .inl (cA, 8, .inl regs2_13)), (aM, .inr (1, [.ref aW, .ref aT, .int cnt])), (aW, .inl (cW, 2048, .inl words)), (aT, .inl (cT, 400, .inl told)), (aF, .inr (0, [.int fn2_22, .int fz2_23, .int 0, .int fc]))]) [0, 2, 3, 4, 5, 1, 6] (by decide) rfl
        have hK9 := hK.sub (tys' := [(cA, .int), (cW, .int), (cT, .int)]) [0, 1, 2] rfl
        exact W.vret hx hb hr (fun t ht hW => ⟨⟨(fault2_16, regs2_13, cnt, words, told, fn2_22, fz2_23, 0, fc), rfl, h4, by rw [ht]; exact hP9, va_K.moved hW.alike hK9, hD9⟩, hS.F ht⟩) hS.2.2 dX3_performTwo_130
      · refine lv_aload_n hx hb dX3_performTwo_118 rfl (lv_at hl 5 rfl) ?_
        refine va_get (D := (dC, dI)) (ci := 3) (v := .ref aR) (C := RX3) (T := TX3) (N := 2) hx hb hts (by decide +kernel) hown hK hP 0 rfl rfl 0 (by decide) (hts (.fieldLink RX3 23 "WordGuest$Processor" "parts" "LWordGuest$Parts;") (by decide +kernel)) (fun _ h9 => h9) rfl dX3_performTwo_119 ?_
        refine lv_iload hx hb dX3_performTwo_122 (lv_at hl 2 rfl) ?_
        refine lv_iload_n hx hb dX3_performTwo_124 rfl (lv_at hl 4 rfl) ?_
        refine lv_iload hx hb dX3_performTwo_125 (lv_at hl 0 rfl) ?_
        have hPc := hP.sub (ws' := [(aR, .inr (2, [.ref aM, .ref aA, .ref aB, .int fault2_16])), (aA, .inl (cA, 8, .inl regs2_13)), (aM, .inr (1, [.ref aW, .ref aT, .int cnt])), (aW, .inl (cW, 2048, .inl words)), (aT, .inl (cT, 400, .inl told))]) [2, 3, 4, 5, 1] rfl
        have hDc := hD.sub (ws' := [(aR, .inr (2, [.ref aM, .ref aA, .ref aB, .int fault2_16])), (aA, .inl (cA, 8, .inl regs2_13)), (aM, .inr (1, [.ref aW, .ref aT, .int cnt])), (aW, .inl (cW, 2048, .inl words)), (aT, .inl (cT, 400, .inl told))]) [2, 3, 4, 5, 1] (by decide) rfl
        have hKc := hK.sub (tys' := [(cA, .int), (cW, .int), (cT, .int)]) [0, 1, 2] rfl
        have hFc := va_free (wc := [(aR, .inr (2, [.ref aM, .ref aA, .ref aB, .int fault2_16])), (aA, .inl (cA, 8, .inl regs2_13)), (aM, .inr (1, [.ref aW, .ref aT, .int cnt])), (aW, .inl (cW, 2048, .inl words)), (aT, .inl (cT, 400, .inl told))]) hD hS hA [2, 3, 4, 5, 1] rfl
        refine va_callv (va_runV (C := RX2) (b := aR) (As := [.int r_10, .int r_1, .int r_18]) (rest := []) ⟨hx, hb, hml, hown, hts⟩ (s_X2_store l dC dI H.size aR r_10 r_1 r_18 aM aA aB fault2_16 cA regs2_13 aW aT cnt cW words cT told h4) (cwV 3 hts gX3_performTwo_X2_store rfl rfl rfl (by decide +kernel) ⟨Nat.le_of_ble_eq_true rfl, Nat.le_of_ble_eq_true rfl⟩) ⟨q_blind, va_recv hK hP (ci := 2) (q0 := 2) rfl rfl, fun U hU hW => ⟨rfl, q_pay hU hW hPc hKc hDc hN⟩⟩ rfl rfl hl.1 rfl (lv_room (Nat.le_of_ble_eq_true rfl)) dX3_performTwo_127 ⟨show 0 + 0 ≤ 0 from by omega, show 0 + 0 ≤ 0 from by omega⟩) hS (fun q _ h => hFc q h) hFc (fun u9 t H locs ht hvm hw_27 hB hz1 hk1 hS => ?_)
        obtain ⟨fault2_28, regs2_29, cnt2_30, words2_31, told2_32⟩ := u9
        obtain ⟨hP1, hK1, hD1⟩ := hB
        rw [ht] at hP1
        obtain ⟨hP, hD⟩ := va_join (wr := [(aP, .inr (3, [.ref aR, .ref aF])), (aF, .inr (0, [.int fn2_22, .int fz2_23, .int 0, .int fc]))]) (w1 := [(aR, .inr (2, [.ref aM, .ref aA, .ref aB, .int fault2_28])), (aA, .inl (cA, 8, .inl regs2_29)), (aM, .inr (1, [.ref aW, .ref aT, .int cnt2_30])), (aW, .inl (cW, 2048, .inl words2_31)), (aT, .inl (cT, 400, .inl told2_32))]) hP hD [2, 3, 4, 5, 1] [0, 6] rfl rfl (by decide) (by decide) hk1 hFc hP1 hD1
        have hP : va_P (dC, dI) vwCl [(aP, .inr (3, [.ref aR, .ref aF])), (aF, .inr (0, [.int fn2_22, .int fz2_23, .int 0, .int fc])), (aR, .inr (2, [.ref aM, .ref aA, .ref aB, .int fault2_28])), (aA, .inl (cA, 8, .inl regs2_29)), (aM, .inr (1, [.ref aW, .ref aT, .int cnt2_30])), (aW, .inl (cW, 2048, .inl words2_31)), (aT, .inl (cT, 400, .inl told2_32))] H := hP
        have hD : va_D A [(aP, .inr (3, [.ref aR, .ref aF])), (aF, .inr (0, [.int fn2_22, .int fz2_23, .int 0, .int fc])), (aR, .inr (2, [.ref aM, .ref aA, .ref aB, .int fault2_28])), (aA, .inl (cA, 8, .inl regs2_29)), (aM, .inr (1, [.ref aW, .ref aT, .int cnt2_30])), (aW, .inl (cW, 2048, .inl words2_31)), (aT, .inl (cT, 400, .inl told2_32))] := hD
        refine W.widen (k := 0) (n := 0) (by omega) (by omega) ?_
        try dsimp only at hw_27
        have hP9 := hP.sub (ws' := [(aP, .inr (3, [.ref aR, .ref aF])), (aR, .inr (2, [.ref aM, .ref aA, .ref aB, .int fault2_28])), (aA, .inl (cA, 8, .inl regs2_29)), (aM, .inr (1, [.ref aW, .ref aT, .int cnt2_30])), (aW, .inl (cW, 2048, .inl words2_31)), (aT, .inl (cT, 400, .inl told2_32)), (aF, .inr (0, [.int fn2_22, .int fz2_23, .int 0, .int fc]))]) [0, 2, 3, 4, 5, 6, 1] rfl
        have hD9 := hD.sub (ws' := [(aP, .inr (3, [.ref aR, .ref aF])), (aR, .inr (2, [.ref aM, .ref aA, .ref aB, .int fault2_28])), (aA, .inl (cA, 8, .inl regs2_29)), (aM, .inr (1, [.ref aW, .ref aT, .int cnt2_30])), (aW, .inl (cW, 2048, .inl words2_31)), (aT, .inl (cT, 400, .inl told2_32)), (aF, .inr (0, [.int fn2_22, .int fz2_23, .int 0, .int fc]))]) [0, 2, 3, 4, 5, 6, 1] (by decide) rfl
        have hK9 := hK.sub (tys' := [(cA, .int), (cW, .int), (cT, .int)]) [0, 1, 2] rfl
        exact W.vret hx hb hr (fun t ht hW => ⟨⟨(fault2_28, regs2_29, cnt2_30, words2_31, told2_32, fn2_22, fz2_23, 0, fc), rfl, hw_27, by rw [ht]; exact hP9, va_K.moved hW.alike hK9, hD9⟩, hS.F ht⟩) hS.2.2 dX3_performTwo_130
    · refine lv_aload_n hx hb dX3_performTwo_98 rfl (lv_at hl 5 rfl) ?_
      refine va_get (D := (dC, dI)) (ci := 3) (v := .ref aR) (C := RX3) (T := TX3) (N := 2) hx hb hts (by decide +kernel) hown hK hP 0 rfl rfl 0 (by decide) (hts (.fieldLink RX3 23 "WordGuest$Processor" "parts" "LWordGuest$Parts;") (by decide +kernel)) (fun _ h9 => h9) rfl dX3_performTwo_99 ?_
      refine lv_iload hx hb dX3_performTwo_102 (lv_at hl 2 rfl) ?_
      refine lv_iload_n hx hb dX3_performTwo_104 rfl (lv_at hl 4 rfl) ?_
      refine lv_iload hx hb dX3_performTwo_105 (lv_at hl 0 rfl) ?_
      have hPc := hP.sub (ws' := [(aR, .inr (2, [.ref aM, .ref aA, .ref aB, .int fault2_16])), (aA, .inl (cA, 8, .inl regs2_13)), (aM, .inr (1, [.ref aW, .ref aT, .int cnt])), (aW, .inl (cW, 2048, .inl words)), (aT, .inl (cT, 400, .inl told))]) [2, 3, 4, 5, 1] rfl
      have hDc := hD.sub (ws' := [(aR, .inr (2, [.ref aM, .ref aA, .ref aB, .int fault2_16])), (aA, .inl (cA, 8, .inl regs2_13)), (aM, .inr (1, [.ref aW, .ref aT, .int cnt])), (aW, .inl (cW, 2048, .inl words)), (aT, .inl (cT, 400, .inl told))]) [2, 3, 4, 5, 1] (by decide) rfl
      have hKc := hK.sub (tys' := [(cA, .int), (cW, .int), (cT, .int)]) [0, 1, 2] rfl
      have hFc := va_free (wc := [(aR, .inr (2, [.ref aM, .ref aA, .ref aB, .int fault2_16])), (aA, .inl (cA, 8, .inl regs2_13)), (aM, .inr (1, [.ref aW, .ref aT, .int cnt])), (aW, .inl (cW, 2048, .inl words)), (aT, .inl (cT, 400, .inl told))]) hD hS hA [2, 3, 4, 5, 1] rfl
      refine va_callv (va_runV (C := RX2) (b := aR) (As := [.int r_10, .int r_1, .int r_18]) (rest := []) ⟨hx, hb, hml, hown, hts⟩ (s_X2_storeMoved l dC dI H.size aR r_10 r_1 r_18 aM aA aB fault2_16 cA regs2_13 aW aT cnt cW words cT told h4) (cwV 3 hts gX3_performTwo_X2_storeMoved rfl rfl rfl (by decide +kernel) ⟨Nat.le_of_ble_eq_true rfl, Nat.le_of_ble_eq_true rfl⟩) ⟨q_blind, va_recv hK hP (ci := 2) (q0 := 2) rfl rfl, fun U hU hW => ⟨rfl, q_pay hU hW hPc hKc hDc hN⟩⟩ rfl rfl hl.1 rfl (lv_room (Nat.le_of_ble_eq_true rfl)) dX3_performTwo_107 ⟨show 0 + 0 ≤ 0 from by omega, show 0 + 0 ≤ 0 from by omega⟩) hS (fun q _ h => hFc q h) hFc (fun u9 t H locs ht hvm hw_34 hB hz1 hk1 hS => ?_)
      obtain ⟨fault2_35, regs2_36, cnt2_37, words2_38, told2_39⟩ := u9
      obtain ⟨hP1, hK1, hD1⟩ := hB
      rw [ht] at hP1
      obtain ⟨hP, hD⟩ := va_join (wr := [(aP, .inr (3, [.ref aR, .ref aF])), (aF, .inr (0, [.int fn2_22, .int fz2_23, .int 0, .int fc]))]) (w1 := [(aR, .inr (2, [.ref aM, .ref aA, .ref aB, .int fault2_35])), (aA, .inl (cA, 8, .inl regs2_36)), (aM, .inr (1, [.ref aW, .ref aT, .int cnt2_37])), (aW, .inl (cW, 2048, .inl words2_38)), (aT, .inl (cT, 400, .inl told2_39))]) hP hD [2, 3, 4, 5, 1] [0, 6] rfl rfl (by decide) (by decide) hk1 hFc hP1 hD1
      have hP : va_P (dC, dI) vwCl [(aP, .inr (3, [.ref aR, .ref aF])), (aF, .inr (0, [.int fn2_22, .int fz2_23, .int 0, .int fc])), (aR, .inr (2, [.ref aM, .ref aA, .ref aB, .int fault2_35])), (aA, .inl (cA, 8, .inl regs2_36)), (aM, .inr (1, [.ref aW, .ref aT, .int cnt2_37])), (aW, .inl (cW, 2048, .inl words2_38)), (aT, .inl (cT, 400, .inl told2_39))] H := hP
      have hD : va_D A [(aP, .inr (3, [.ref aR, .ref aF])), (aF, .inr (0, [.int fn2_22, .int fz2_23, .int 0, .int fc])), (aR, .inr (2, [.ref aM, .ref aA, .ref aB, .int fault2_35])), (aA, .inl (cA, 8, .inl regs2_36)), (aM, .inr (1, [.ref aW, .ref aT, .int cnt2_37])), (aW, .inl (cW, 2048, .inl words2_38)), (aT, .inl (cT, 400, .inl told2_39))] := hD
      refine W.widen (k := 0) (n := 0) (by omega) (by omega) ?_
      try dsimp only at hw_34
      refine lv_goto (tgt := 130) hx hb dX3_performTwo_110 (by decide) ?_
      have hP9 := hP.sub (ws' := [(aP, .inr (3, [.ref aR, .ref aF])), (aR, .inr (2, [.ref aM, .ref aA, .ref aB, .int fault2_35])), (aA, .inl (cA, 8, .inl regs2_36)), (aM, .inr (1, [.ref aW, .ref aT, .int cnt2_37])), (aW, .inl (cW, 2048, .inl words2_38)), (aT, .inl (cT, 400, .inl told2_39)), (aF, .inr (0, [.int fn2_22, .int fz2_23, .int 0, .int fc]))]) [0, 2, 3, 4, 5, 6, 1] rfl
      have hD9 := hD.sub (ws' := [(aP, .inr (3, [.ref aR, .ref aF])), (aR, .inr (2, [.ref aM, .ref aA, .ref aB, .int fault2_35])), (aA, .inl (cA, 8, .inl regs2_36)), (aM, .inr (1, [.ref aW, .ref aT, .int cnt2_37])), (aW, .inl (cW, 2048, .inl words2_38)), (aT, .inl (cT, 400, .inl told2_39)), (aF, .inr (0, [.int fn2_22, .int fz2_23, .int 0, .int fc]))]) [0, 2, 3, 4, 5, 6, 1] (by decide) rfl
      have hK9 := hK.sub (tys' := [(cA, .int), (cW, .int), (cT, .int)]) [0, 1, 2] rfl
      exact W.vret hx hb hr (fun t ht hW => ⟨⟨(fault2_35, regs2_36, cnt2_37, words2_38, told2_39, fn2_22, fz2_23, 0, fc), rfl, hw_34, by rw [ht]; exact hP9, va_K.moved hW.alike hK9, hD9⟩, hS.F ht⟩) hS.2.2 dX3_performTwo_130
  · refine lv_aload_n hx hb dX3_performTwo_55 rfl (lv_at hl 4 rfl) ?_
    refine lv_iload hx hb dX3_performTwo_56 (lv_at hl 2 rfl) ?_
    refine lv_iload hx hb dX3_performTwo_58 (lv_at hl 0 rfl) ?_
    refine lv_iload_n hx hb dX3_performTwo_60 rfl (lv_at hl 3 rfl) ?_
    have hPc := hP.sub (ws' := [(aP, .inr (3, [.ref aR, .ref aF])), (aF, .inr (0, [.int fn, .int fz, .int fv, .int fc]))]) [0, 2] rfl
    have hDc := hD.sub (ws' := [(aP, .inr (3, [.ref aR, .ref aF])), (aF, .inr (0, [.int fn, .int fz, .int fv, .int fc]))]) [0, 2] (by decide) rfl
    have hKc := hK.sub (tys' := []) [] rfl
    have hFc := va_free (wc := [(aP, .inr (3, [.ref aR, .ref aF])), (aF, .inr (0, [.int fn, .int fz, .int fv, .int fc]))]) hD hS hA [0, 2] rfl
    refine va_callv (va_runV (C := RX3) (b := aP) (As := [.int r_7, .int r_14, .int r_1]) (rest := []) ⟨hx, hb, hml, hown, hts⟩ (s_X3_setByDifference l dC dI H.size aP r_7 r_14 r_1 aR aF fn fz fv fc) (cwV 3 hts gX3_performTwo_X3_setByDifference rfl rfl rfl (by decide +kernel) ⟨Nat.le_of_ble_eq_true rfl, Nat.le_of_ble_eq_true rfl⟩) ⟨q_blind, va_recv hK hP (ci := 3) (q0 := 0) rfl rfl, fun U hU hW => ⟨rfl, q_pay hU hW hPc hKc hDc hN⟩⟩ rfl rfl hl.1 rfl (lv_room (Nat.le_of_ble_eq_true rfl)) dX3_performTwo_61 ⟨show 0 + 0 ≤ 0 from by omega, show 0 + 0 ≤ 0 from by omega⟩) hS (fun q _ h => hFc q h) hFc (fun u9 t H locs ht hvm hw_41 hB hz1 hk1 hS => ?_)
    obtain ⟨fn2_42, fz2_43, fv2_44, fc2_45⟩ := u9
    obtain ⟨hP1, hK1, hD1⟩ := hB
    rw [ht] at hP1
    obtain ⟨hP, hD⟩ := va_join (wr := [(aT, .inl (cT, 400, .inl told)), (aR, .inr (2, [.ref aM, .ref aA, .ref aB, .int fault2_16])), (aA, .inl (cA, 8, .inl regs2_13)), (aM, .inr (1, [.ref aW, .ref aT, .int cnt])), (aW, .inl (cW, 2048, .inl words))]) (w1 := [(aP, .inr (3, [.ref aR, .ref aF])), (aF, .inr (0, [.int fn2_42, .int fz2_43, .int fv2_44, .int fc2_45]))]) hP hD [0, 2] [1, 3, 4, 5, 6] rfl rfl (by decide) (by decide) hk1 hFc hP1 hD1
    have hP : va_P (dC, dI) vwCl [(aT, .inl (cT, 400, .inl told)), (aR, .inr (2, [.ref aM, .ref aA, .ref aB, .int fault2_16])), (aA, .inl (cA, 8, .inl regs2_13)), (aM, .inr (1, [.ref aW, .ref aT, .int cnt])), (aW, .inl (cW, 2048, .inl words)), (aP, .inr (3, [.ref aR, .ref aF])), (aF, .inr (0, [.int fn2_42, .int fz2_43, .int fv2_44, .int fc2_45]))] H := hP
    have hD : va_D A [(aT, .inl (cT, 400, .inl told)), (aR, .inr (2, [.ref aM, .ref aA, .ref aB, .int fault2_16])), (aA, .inl (cA, 8, .inl regs2_13)), (aM, .inr (1, [.ref aW, .ref aT, .int cnt])), (aW, .inl (cW, 2048, .inl words)), (aP, .inr (3, [.ref aR, .ref aF])), (aF, .inr (0, [.int fn2_42, .int fz2_43, .int fv2_44, .int fc2_45]))] := hD
    refine W.widen (k := 0) (n := 0) (by omega) (by omega) ?_
    try dsimp only at hw_41
    have hP9 := hP.sub (ws' := [(aP, .inr (3, [.ref aR, .ref aF])), (aR, .inr (2, [.ref aM, .ref aA, .ref aB, .int fault2_16])), (aA, .inl (cA, 8, .inl regs2_13)), (aM, .inr (1, [.ref aW, .ref aT, .int cnt])), (aW, .inl (cW, 2048, .inl words)), (aT, .inl (cT, 400, .inl told)), (aF, .inr (0, [.int fn2_42, .int fz2_43, .int fv2_44, .int fc2_45]))]) [5, 1, 2, 3, 4, 0, 6] rfl
    have hD9 := hD.sub (ws' := [(aP, .inr (3, [.ref aR, .ref aF])), (aR, .inr (2, [.ref aM, .ref aA, .ref aB, .int fault2_16])), (aA, .inl (cA, 8, .inl regs2_13)), (aM, .inr (1, [.ref aW, .ref aT, .int cnt])), (aW, .inl (cW, 2048, .inl words)), (aT, .inl (cT, 400, .inl told)), (aF, .inr (0, [.int fn2_42, .int fz2_43, .int fv2_44, .int fc2_45]))]) [5, 1, 2, 3, 4, 0, 6] (by decide) rfl
    have hK9 := hK.sub (tys' := [(cA, .int), (cW, .int), (cT, .int)]) [0, 1, 2] rfl
    exact W.vret hx hb hr (fun t ht hW => ⟨⟨(fault2_16, regs2_13, cnt, words, told, fn2_42, fz2_43, fv2_44, fc2_45), rfl, h4, by rw [ht]; exact hP9, va_K.moved hW.alike hK9, hD9⟩, hS.F ht⟩) hS.2.2 dX3_performTwo_64
set_option maxHeartbeats 4000000 in
set_option maxRecDepth 100000 in
theorem s_X3_addOrSubtract (l : Launch) (dC : Nat → ClassId) (dI : Nat → Nat → Nat) (sz : Nat) (aP : Nat) (k : Int32) (aR : Nat) (aF : Nat) (aM : Nat) (aA : Nat) (aB : Nat) (fault : Int32) (cA : ClassId) (regs : Nat → Int32) (aW : Nat) (aT : Nat) (cnt : Int32) (cW : ClassId) (words : Nat → Int32) (cT : ClassId) (told : Nat → Int32) (fn : Int32) (fz : Int32) (fv : Int32) (fc : Int32) (h4 : ok4 cnt) : Met l yX3_addOrSubtract wsX3_addOrSubtract ({ frames := 3, cells := 0, slots := 0, locals := 68 }) (va_Pc [.ref aP, .int k] (q_pre dC dI sz [(aP, .inr (3, [.ref aR, .ref aF])), (aR, .inr (2, [.ref aM, .ref aA, .ref aB, .int fault])), (aA, .inl (cA, 8, .inl regs)), (aM, .inr (1, [.ref aW, .ref aT, .int cnt])), (aW, .inl (cW, 2048, .inl words)), (aT, .inl (cT, 400, .inl told)), (aF, .inr (0, [.int fn, .int fz, .int fv, .int fc]))] [(cA, .int), (cW, .int), (cT, .int)])) (va_Qv (fun (u9 : Int32 × (Nat → Int32) × Int32 × (Nat → Int32) × (Nat → Int32) × Int32 × Int32 × Int32 × Int32) => ok4 u9.2.2.1) (q_at dC dI (va_A [(aP, .inr (3, [.ref aR, .ref aF])), (aR, .inr (2, [.ref aM, .ref aA, .ref aB, .int fault])), (aA, .inl (cA, 8, .inl regs)), (aM, .inr (1, [.ref aW, .ref aT, .int cnt])), (aW, .inl (cW, 2048, .inl words)), (aT, .inl (cT, 400, .inl told)), (aF, .inr (0, [.int fn, .int fz, .int fv, .int fc]))] sz) (fun (u9 : Int32 × (Nat → Int32) × Int32 × (Nat → Int32) × (Nat → Int32) × Int32 × Int32 × Int32 × Int32) => [(cA, .int), (cW, .int), (cT, .int)]) (fun (u9 : Int32 × (Nat → Int32) × Int32 × (Nat → Int32) × (Nat → Int32) × Int32 × Int32 × Int32 × Int32) => [(aP, .inr (3, [.ref aR, .ref aF])), (aR, .inr (2, [.ref aM, .ref aA, .ref aB, .int u9.1])), (aA, .inl (cA, 8, .inl u9.2.1)), (aM, .inr (1, [.ref aW, .ref aT, .int u9.2.2.1])), (aW, .inl (cW, 2048, .inl u9.2.2.2.1)), (aT, .inl (cT, 400, .inl u9.2.2.2.2.1)), (aF, .inr (0, [.int u9.2.2.2.2.2.1, .int u9.2.2.2.2.2.2.1, .int u9.2.2.2.2.2.2.2.1, .int u9.2.2.2.2.2.2.2.2]))])) (va_A [(aP, .inr (3, [.ref aR, .ref aF])), (aR, .inr (2, [.ref aM, .ref aA, .ref aB, .int fault])), (aA, .inl (cA, 8, .inl regs)), (aM, .inr (1, [.ref aW, .ref aT, .int cnt])), (aW, .inl (cW, 2048, .inl words)), (aT, .inl (cT, 400, .inl told)), (aF, .inr (0, [.int fn, .int fz, .int fv, .int fc]))] sz)) 0 0 (va_A [(aP, .inr (3, [.ref aR, .ref aF])), (aR, .inr (2, [.ref aM, .ref aA, .ref aB, .int fault])), (aA, .inl (cA, 8, .inl regs)), (aM, .inr (1, [.ref aW, .ref aT, .int cnt])), (aW, .inl (cW, 2048, .inl words)), (aT, .inl (cT, 400, .inl told)), (aF, .inr (0, [.int fn, .int fz, .int fv, .int fc]))] sz) := by
  refine Met.ofW (cc := cX3_addOrSubtract) (maxL := 6) (ret := none) (by decide) rfl ?_
  intro p e s m args below meth c s₁ B hml hv
  obtain ⟨rfl, hsz, hP, hK, hD0, hN⟩ := hv
  have hx := B.exec
  have hb := B.bytes
  have hr := B.returns
  have hts := atoms_spec (ws := wsX3_addOrSubtract) B.pre
  have hown : s.vm.findClass RX3 = some m.cls := findClass_of_methodNamed B.named
  have hlocks := B.notSynchronized
  subst hsz
  have hD := hD0.self (sz := s.heap.size)
  generalize hAe : va_A [(aP, .inr (3, [.ref aR, .ref aF])), (aR, .inr (2, [.ref aM, .ref aA, .ref aB, .int fault])), (aA, .inl (cA, 8, .inl regs)), (aM, .inr (1, [.ref aW, .ref aT, .int cnt])), (aW, .inl (cW, 2048, .inl words)), (aT, .inl (cT, 400, .inl told)), (aF, .inr (0, [.int fn, .int fz, .int fv, .int fc]))] s.heap.size = A at hD ⊢
  have hA : ∀ q : Nat, s.heap.size ≤ q → A q := fun q h => by rw [← hAe]; exact Or.inr h
  have hS : va_S A s.heap s.heap [] := va_S.rf
  have hP : va_P (dC, dI) vwCl [(aP, .inr (3, [.ref aR, .ref aF])), (aR, .inr (2, [.ref aM, .ref aA, .ref aB, .int fault])), (aA, .inl (cA, 8, .inl regs)), (aM, .inr (1, [.ref aW, .ref aT, .int cnt])), (aW, .inl (cW, 2048, .inl words)), (aT, .inl (cT, 400, .inl told)), (aF, .inr (0, [.int fn, .int fz, .int fv, .int fc]))] s.heap := hP
  have hl := lv_entry ([.ref aP, .int k]) (n := 6) (Nat.le_of_ble_eq_true rfl)
  rw [lg_entry_eq]
  generalize (lg_sl ([.ref aP, .int k]) ++ List.replicate (6 - (lg_sl ([.ref aP, .int k])).length) Slot.unset).toArray = ls at hl ⊢
  have hl : lv_has ls 6 [(0, .ref aP), (1, .int k)] := hl
  refine lv_aload_n hx hb dX3_addOrSubtract_0 rfl (lv_at hl 0 rfl) ?_
  refine va_get (D := (dC, dI)) (ci := 3) (v := .ref aR) (C := RX3) (T := TX3) (N := 2) hx hb hts (by decide +kernel) hown hK hP 0 rfl rfl 0 (by decide) (hts (.fieldLink RX3 23 "WordGuest$Processor" "parts" "LWordGuest$Parts;") (by decide +kernel)) (fun _ h9 => h9) rfl dX3_addOrSubtract_1 ?_
  refine lv_aload_n hx hb dX3_addOrSubtract_4 rfl (lv_at hl 0 rfl) ?_
  refine va_get (D := (dC, dI)) (ci := 3) (v := .ref aR) (C := RX3) (T := TX3) (N := 2) hx hb hts (by decide +kernel) hown hK hP 0 rfl rfl 0 (by decide) (hts (.fieldLink RX3 23 "WordGuest$Processor" "parts" "LWordGuest$Parts;") (by decide +kernel)) (fun _ h9 => h9) rfl dX3_addOrSubtract_5 ?_
  refine lv_iload_n hx hb dX3_addOrSubtract_8 rfl (lv_at hl 1 rfl) ?_
  refine lv_bipush (v := 6) hx hb dX3_addOrSubtract_9 (by decide) ?_
  refine lv_ishr hx hb dX3_addOrSubtract_11 ?_
  refine lv_ldc (v := 65535) hx hb hown (hts (.constant RX3 69 (65535)) (by decide +kernel)) dX3_addOrSubtract_12 ?_
  have hPc := hP.sub (ws' := [(aR, .inr (2, [.ref aM, .ref aA, .ref aB, .int fault])), (aA, .inl (cA, 8, .inl regs)), (aM, .inr (1, [.ref aW, .ref aT, .int cnt])), (aW, .inl (cW, 2048, .inl words))]) [1, 2, 3, 4] rfl
  have hDc := hD.sub (ws' := [(aR, .inr (2, [.ref aM, .ref aA, .ref aB, .int fault])), (aA, .inl (cA, 8, .inl regs)), (aM, .inr (1, [.ref aW, .ref aT, .int cnt])), (aW, .inl (cW, 2048, .inl words))]) [1, 2, 3, 4] (by decide) rfl
  have hKc := hK.sub (tys' := [(cA, .int), (cW, .int)]) [0, 1] rfl
  have hFc := va_free (wc := [(aR, .inr (2, [.ref aM, .ref aA, .ref aB, .int fault])), (aA, .inl (cA, 8, .inl regs)), (aM, .inr (1, [.ref aW, .ref aT, .int cnt])), (aW, .inl (cW, 2048, .inl words))]) hD hS hA [1, 2, 3, 4] rfl
  refine va_calli (va_runV (C := RX2) (b := aR) (As := [.int (k >>> (6 &&& 31)), .int 65535]) (rest := [.ref aR]) ⟨hx, hb, hml, hown, hts⟩ (s_X2_locate l dC dI s.heap.size aR (k >>> (6 &&& 31)) (65535 : Int32) aM aA aB fault cA regs aW aT cnt cW words) (cwV 2 hts gX3_addOrSubtract_X2_locate rfl rfl rfl (by decide +kernel) ⟨Nat.le_of_ble_eq_true rfl, Nat.le_of_ble_eq_true rfl⟩) ⟨q_blind, va_recv hK hP (ci := 2) (q0 := 1) rfl rfl, fun U hU hW => ⟨rfl, q_pay hU hW hPc hKc hDc hN⟩⟩ rfl rfl hl.1 rfl (lv_room (Nat.le_of_ble_eq_true rfl)) dX3_addOrSubtract_14 ⟨show 0 + 0 ≤ 0 from by omega, show 0 + 0 ≤ 0 from by omega⟩) hS (fun q _ h => hFc q h) hFc (fun r_1 u9 t H locs ht hvm hw_2 hB hz1 hk1 hS => ?_)
  obtain ⟨fault2_3, regs2_4⟩ := u9
  obtain ⟨hP1, hK1, hD1⟩ := hB
  rw [ht] at hP1
  obtain ⟨hP, hD⟩ := va_join (wr := [(aP, .inr (3, [.ref aR, .ref aF])), (aT, .inl (cT, 400, .inl told)), (aF, .inr (0, [.int fn, .int fz, .int fv, .int fc]))]) (w1 := [(aR, .inr (2, [.ref aM, .ref aA, .ref aB, .int fault2_3])), (aA, .inl (cA, 8, .inl regs2_4)), (aM, .inr (1, [.ref aW, .ref aT, .int cnt])), (aW, .inl (cW, 2048, .inl words))]) hP hD [1, 2, 3, 4] [0, 5, 6] rfl rfl (by decide) (by decide) hk1 hFc hP1 hD1
  have hP : va_P (dC, dI) vwCl [(aP, .inr (3, [.ref aR, .ref aF])), (aT, .inl (cT, 400, .inl told)), (aF, .inr (0, [.int fn, .int fz, .int fv, .int fc])), (aR, .inr (2, [.ref aM, .ref aA, .ref aB, .int fault2_3])), (aA, .inl (cA, 8, .inl regs2_4)), (aM, .inr (1, [.ref aW, .ref aT, .int cnt])), (aW, .inl (cW, 2048, .inl words))] H := hP
  have hD : va_D A [(aP, .inr (3, [.ref aR, .ref aF])), (aT, .inl (cT, 400, .inl told)), (aF, .inr (0, [.int fn, .int fz, .int fv, .int fc])), (aR, .inr (2, [.ref aM, .ref aA, .ref aB, .int fault2_3])), (aA, .inl (cA, 8, .inl regs2_4)), (aM, .inr (1, [.ref aW, .ref aT, .int cnt])), (aW, .inl (cW, 2048, .inl words))] := hD
  refine W.widen (k := 0) (n := 0) (by omega) (by omega) ?_
  try dsimp only at hw_2
  refine lv_ldc (v := 65535) hx hb hown (hts (.constant RX3 69 (65535)) (by decide +kernel)) dX3_addOrSubtract_17 ?_
  have hPc := hP.sub (ws' := [(aR, .inr (2, [.ref aM, .ref aA, .ref aB, .int fault2_3])), (aA, .inl (cA, 8, .inl regs2_4)), (aM, .inr (1, [.ref aW, .ref aT, .int cnt])), (aW, .inl (cW, 2048, .inl words))]) [3, 4, 5, 6] rfl
  have hDc := hD.sub (ws' := [(aR, .inr (2, [.ref aM, .ref aA, .ref aB, .int fault2_3])), (aA, .inl (cA, 8, .inl regs2_4)), (aM, .inr (1, [.ref aW, .ref aT, .int cnt])), (aW, .inl (cW, 2048, .inl words))]) [3, 4, 5, 6] (by decide) rfl
  have hKc := hK.sub (tys' := [(cA, .int), (cW, .int)]) [0, 1] rfl
  have hFc := va_free (wc := [(aR, .inr (2, [.ref aM, .ref aA, .ref aB, .int fault2_3])), (aA, .inl (cA, 8, .inl regs2_4)), (aM, .inr (1, [.ref aW, .ref aT, .int cnt])), (aW, .inl (cW, 2048, .inl words))]) hD hS hA [3, 4, 5, 6] rfl
  refine va_calli (va_runV (C := RX2) (b := aR) (As := [.int r_1, .int 65535]) (rest := []) ⟨hx, hb, hml, hown, hts⟩ (s_X2_fetch l dC dI H.size aR r_1 (65535 : Int32) aM aA aB fault2_3 cA regs2_4 aW aT cnt cW words) (cwV 2 hts gX3_addOrSubtract_X2_fetch rfl rfl rfl (by decide +kernel) ⟨Nat.le_of_ble_eq_true rfl, Nat.le_of_ble_eq_true rfl⟩) ⟨q_blind, va_recv hK hP (ci := 2) (q0 := 3) rfl rfl, fun U hU hW => ⟨rfl, q_pay hU hW hPc hKc hDc hN⟩⟩ rfl rfl hl.1 rfl (lv_room (Nat.le_of_ble_eq_true rfl)) dX3_addOrSubtract_19 ⟨show 0 + 0 ≤ 0 from by omega, show 0 + 0 ≤ 0 from by omega⟩) hS (fun q _ h => hFc q h) hFc (fun r_5 u9 t H locs ht hvm hw_6 hB hz1 hk1 hS => ?_)
  obtain ⟨fault2_7, rfl⟩ : ∃ z, z = u9 := ⟨_, rfl⟩
  obtain ⟨hP1, hK1, hD1⟩ := hB
  rw [ht] at hP1
  obtain ⟨hP, hD⟩ := va_join (wr := [(aP, .inr (3, [.ref aR, .ref aF])), (aT, .inl (cT, 400, .inl told)), (aF, .inr (0, [.int fn, .int fz, .int fv, .int fc]))]) (w1 := [(aR, .inr (2, [.ref aM, .ref aA, .ref aB, .int fault2_7])), (aA, .inl (cA, 8, .inl regs2_4)), (aM, .inr (1, [.ref aW, .ref aT, .int cnt])), (aW, .inl (cW, 2048, .inl words))]) hP hD [3, 4, 5, 6] [0, 1, 2] rfl rfl (by decide) (by decide) hk1 hFc hP1 hD1
  have hP : va_P (dC, dI) vwCl [(aP, .inr (3, [.ref aR, .ref aF])), (aT, .inl (cT, 400, .inl told)), (aF, .inr (0, [.int fn, .int fz, .int fv, .int fc])), (aR, .inr (2, [.ref aM, .ref aA, .ref aB, .int fault2_7])), (aA, .inl (cA, 8, .inl regs2_4)), (aM, .inr (1, [.ref aW, .ref aT, .int cnt])), (aW, .inl (cW, 2048, .inl words))] H := hP
  have hD : va_D A [(aP, .inr (3, [.ref aR, .ref aF])), (aT, .inl (cT, 400, .inl told)), (aF, .inr (0, [.int fn, .int fz, .int fv, .int fc])), (aR, .inr (2, [.ref aM, .ref aA, .ref aB, .int fault2_7])), (aA, .inl (cA, 8, .inl regs2_4)), (aM, .inr (1, [.ref aW, .ref aT, .int cnt])), (aW, .inl (cW, 2048, .inl words))] := hD
  refine W.widen (k := 0) (n := 0) (by omega) (by omega) ?_
  try dsimp only at hw_6
  refine lv_istore_n (lv' := [(2, .int r_5), (0, .ref aP), (1, .int k)]) hx hb dX3_addOrSubtract_22 rfl hl (by decide) rfl (fun ls hl => ?_)
  refine lv_aload_n hx hb dX3_addOrSubtract_23 rfl (lv_at hl 1 rfl) ?_
  refine va_get (D := (dC, dI)) (ci := 3) (v := .ref aR) (C := RX3) (T := TX3) (N := 2) hx hb hts (by decide +kernel) hown hK hP 0 rfl rfl 0 (by decide) (hts (.fieldLink RX3 23 "WordGuest$Processor" "parts" "LWordGuest$Parts;") (by decide +kernel)) (fun _ h9 => h9) rfl dX3_addOrSubtract_24 ?_
  refine lv_iload_n hx hb dX3_addOrSubtract_27 rfl (lv_at hl 2 rfl) ?_
  refine lv_ldc (v := 65535) hx hb hown (hts (.constant RX3 69 (65535)) (by decide +kernel)) dX3_addOrSubtract_28 ?_
  have hPc := hP.sub (ws' := [(aR, .inr (2, [.ref aM, .ref aA, .ref aB, .int fault2_7])), (aA, .inl (cA, 8, .inl regs2_4)), (aM, .inr (1, [.ref aW, .ref aT, .int cnt])), (aW, .inl (cW, 2048, .inl words))]) [3, 4, 5, 6] rfl
  have hDc := hD.sub (ws' := [(aR, .inr (2, [.ref aM, .ref aA, .ref aB, .int fault2_7])), (aA, .inl (cA, 8, .inl regs2_4)), (aM, .inr (1, [.ref aW, .ref aT, .int cnt])), (aW, .inl (cW, 2048, .inl words))]) [3, 4, 5, 6] (by decide) rfl
  have hKc := hK.sub (tys' := [(cA, .int), (cW, .int)]) [0, 1] rfl
  have hFc := va_free (wc := [(aR, .inr (2, [.ref aM, .ref aA, .ref aB, .int fault2_7])), (aA, .inl (cA, 8, .inl regs2_4)), (aM, .inr (1, [.ref aW, .ref aT, .int cnt])), (aW, .inl (cW, 2048, .inl words))]) hD hS hA [3, 4, 5, 6] rfl
  refine va_calli (va_runV (C := RX2) (b := aR) (As := [.int k, .int 65535]) (rest := []) ⟨hx, hb, hml, hown, hts⟩ (s_X2_locate l dC dI H.size aR k (65535 : Int32) aM aA aB fault2_7 cA regs2_4 aW aT cnt cW words) (cwV 2 hts gX3_addOrSubtract_X2_locate rfl rfl rfl (by decide +kernel) ⟨Nat.le_of_ble_eq_true rfl, Nat.le_of_ble_eq_true rfl⟩) ⟨q_blind, va_recv hK hP (ci := 2) (q0 := 3) rfl rfl, fun U hU hW => ⟨rfl, q_pay hU hW hPc hKc hDc hN⟩⟩ rfl rfl hl.1 rfl (lv_room (Nat.le_of_ble_eq_true rfl)) dX3_addOrSubtract_30 ⟨show 0 + 0 ≤ 0 from by omega, show 0 + 0 ≤ 0 from by omega⟩) hS (fun q _ h => hFc q h) hFc (fun r_8 u9 t H locs ht hvm hw_9 hB hz1 hk1 hS => ?_)
  obtain ⟨fault2_10, regs2_11⟩ := u9
  obtain ⟨hP1, hK1, hD1⟩ := hB
  rw [ht] at hP1
  obtain ⟨hP, hD⟩ := va_join (wr := [(aP, .inr (3, [.ref aR, .ref aF])), (aT, .inl (cT, 400, .inl told)), (aF, .inr (0, [.int fn, .int fz, .int fv, .int fc]))]) (w1 := [(aR, .inr (2, [.ref aM, .ref aA, .ref aB, .int fault2_10])), (aA, .inl (cA, 8, .inl regs2_11)), (aM, .inr (1, [.ref aW, .ref aT, .int cnt])), (aW, .inl (cW, 2048, .inl words))]) hP hD [3, 4, 5, 6] [0, 1, 2] rfl rfl (by decide) (by decide) hk1 hFc hP1 hD1
  have hP : va_P (dC, dI) vwCl [(aP, .inr (3, [.ref aR, .ref aF])), (aT, .inl (cT, 400, .inl told)), (aF, .inr (0, [.int fn, .int fz, .int fv, .int fc])), (aR, .inr (2, [.ref aM, .ref aA, .ref aB, .int fault2_10])), (aA, .inl (cA, 8, .inl regs2_11)), (aM, .inr (1, [.ref aW, .ref aT, .int cnt])), (aW, .inl (cW, 2048, .inl words))] H := hP
  have hD : va_D A [(aP, .inr (3, [.ref aR, .ref aF])), (aT, .inl (cT, 400, .inl told)), (aF, .inr (0, [.int fn, .int fz, .int fv, .int fc])), (aR, .inr (2, [.ref aM, .ref aA, .ref aB, .int fault2_10])), (aA, .inl (cA, 8, .inl regs2_11)), (aM, .inr (1, [.ref aW, .ref aT, .int cnt])), (aW, .inl (cW, 2048, .inl words))] := hD
  refine W.widen (k := 0) (n := 0) (by omega) (by omega) ?_
  try dsimp only at hw_9
  refine lv_istore_n (lv' := [(3, .int r_8), (2, .int r_5), (0, .ref aP), (1, .int k)]) hx hb dX3_addOrSubtract_33 rfl hl (by decide) rfl (fun ls hl => ?_)
  refine lv_aload_n hx hb dX3_addOrSubtract_34 rfl (lv_at hl 2 rfl) ?_
  refine va_get (D := (dC, dI)) (ci := 3) (v := .ref aR) (C := RX3) (T := TX3) (N := 2) hx hb hts (by decide +kernel) hown hK hP 0 rfl rfl 0 (by decide) (hts (.fieldLink RX3 23 "WordGuest$Processor" "parts" "LWordGuest$Parts;") (by decide +kernel)) (fun _ h9 => h9) rfl dX3_addOrSubtract_35 ?_
  refine lv_iload_n hx hb dX3_addOrSubtract_38 rfl (lv_at hl 0 rfl) ?_
  refine lv_ldc (v := 65535) hx hb hown (hts (.constant RX3 69 (65535)) (by decide +kernel)) dX3_addOrSubtract_39 ?_
  have hPc := hP.sub (ws' := [(aR, .inr (2, [.ref aM, .ref aA, .ref aB, .int fault2_10])), (aA, .inl (cA, 8, .inl regs2_11)), (aM, .inr (1, [.ref aW, .ref aT, .int cnt])), (aW, .inl (cW, 2048, .inl words))]) [3, 4, 5, 6] rfl
  have hDc := hD.sub (ws' := [(aR, .inr (2, [.ref aM, .ref aA, .ref aB, .int fault2_10])), (aA, .inl (cA, 8, .inl regs2_11)), (aM, .inr (1, [.ref aW, .ref aT, .int cnt])), (aW, .inl (cW, 2048, .inl words))]) [3, 4, 5, 6] (by decide) rfl
  have hKc := hK.sub (tys' := [(cA, .int), (cW, .int)]) [0, 1] rfl
  have hFc := va_free (wc := [(aR, .inr (2, [.ref aM, .ref aA, .ref aB, .int fault2_10])), (aA, .inl (cA, 8, .inl regs2_11)), (aM, .inr (1, [.ref aW, .ref aT, .int cnt])), (aW, .inl (cW, 2048, .inl words))]) hD hS hA [3, 4, 5, 6] rfl
  refine va_calli (va_runV (C := RX2) (b := aR) (As := [.int r_8, .int 65535]) (rest := []) ⟨hx, hb, hml, hown, hts⟩ (s_X2_fetch l dC dI H.size aR r_8 (65535 : Int32) aM aA aB fault2_10 cA regs2_11 aW aT cnt cW words) (cwV 2 hts gX3_addOrSubtract_X2_fetch rfl rfl rfl (by decide +kernel) ⟨Nat.le_of_ble_eq_true rfl, Nat.le_of_ble_eq_true rfl⟩) ⟨q_blind, va_recv hK hP (ci := 2) (q0 := 3) rfl rfl, fun U hU hW => ⟨rfl, q_pay hU hW hPc hKc hDc hN⟩⟩ rfl rfl hl.1 rfl (lv_room (Nat.le_of_ble_eq_true rfl)) dX3_addOrSubtract_41 ⟨show 0 + 0 ≤ 0 from by omega, show 0 + 0 ≤ 0 from by omega⟩) hS (fun q _ h => hFc q h) hFc (fun r_12 u9 t H locs ht hvm hw_13 hB hz1 hk1 hS => ?_)
  obtain ⟨fault2_14, rfl⟩ : ∃ z, z = u9 := ⟨_, rfl⟩
  obtain ⟨hP1, hK1, hD1⟩ := hB
  rw [ht] at hP1
  obtain ⟨hP, hD⟩ := va_join (wr := [(aP, .inr (3, [.ref aR, .ref aF])), (aT, .inl (cT, 400, .inl told)), (aF, .inr (0, [.int fn, .int fz, .int fv, .int fc]))]) (w1 := [(aR, .inr (2, [.ref aM, .ref aA, .ref aB, .int fault2_14])), (aA, .inl (cA, 8, .inl regs2_11)), (aM, .inr (1, [.ref aW, .ref aT, .int cnt])), (aW, .inl (cW, 2048, .inl words))]) hP hD [3, 4, 5, 6] [0, 1, 2] rfl rfl (by decide) (by decide) hk1 hFc hP1 hD1
  have hP : va_P (dC, dI) vwCl [(aP, .inr (3, [.ref aR, .ref aF])), (aT, .inl (cT, 400, .inl told)), (aF, .inr (0, [.int fn, .int fz, .int fv, .int fc])), (aR, .inr (2, [.ref aM, .ref aA, .ref aB, .int fault2_14])), (aA, .inl (cA, 8, .inl regs2_11)), (aM, .inr (1, [.ref aW, .ref aT, .int cnt])), (aW, .inl (cW, 2048, .inl words))] H := hP
  have hD : va_D A [(aP, .inr (3, [.ref aR, .ref aF])), (aT, .inl (cT, 400, .inl told)), (aF, .inr (0, [.int fn, .int fz, .int fv, .int fc])), (aR, .inr (2, [.ref aM, .ref aA, .ref aB, .int fault2_14])), (aA, .inl (cA, 8, .inl regs2_11)), (aM, .inr (1, [.ref aW, .ref aT, .int cnt])), (aW, .inl (cW, 2048, .inl words))] := hD
  refine W.widen (k := 0) (n := 0) (by omega) (by omega) ?_
  try dsimp only at hw_13
  refine lv_istore (lv' := [(4, .int r_12), (3, .int r_8), (2, .int r_5), (0, .ref aP), (1, .int k)]) hx hb dX3_addOrSubtract_44 hl (by decide) rfl (fun ls hl => ?_)
  refine lv_iload_n hx hb dX3_addOrSubtract_46 rfl (lv_at hl 4 rfl) ?_
  have hPc := hP.sub (ws' := []) [] rfl
  have hDc := hD.sub (ws' := []) [] (by decide) rfl
  have hKc := hK.sub (tys' := []) [] rfl
  have hFc := va_free (wc := []) hD hS hA [] rfl
  refine va_calli (va_runS (As := [.int k]) (rest := []) ⟨hx, hb, hml, hown, hts⟩ (s_X3_hasHighestBit l dC dI H.size k) (va_cwS 1 hts gX3_addOrSubtract_X3_hasHighestBit rfl rfl rfl (by decide +kernel) ⟨Nat.le_of_ble_eq_true rfl, Nat.le_of_ble_eq_true rfl⟩) ⟨q_blind, fun U hU hW => ⟨rfl, q_pay hU hW hPc hKc hDc hN⟩⟩ rfl rfl hl.1 rfl (lv_room (Nat.le_of_ble_eq_true rfl)) dX3_addOrSubtract_47 ⟨show 0 + 0 ≤ 0 from by omega, show 0 + 0 ≤ 0 from by omega⟩) hS (fun q _ h => hFc q h) hFc (fun r_15 u9 t H locs ht hvm hw_16 hB hz1 hk1 hS => ?_)
  obtain ⟨hP1, hK1, hD1⟩ := hB
  rw [ht] at hP1
  obtain ⟨hP, hD⟩ := va_join (wr := [(aP, .inr (3, [.ref aR, .ref aF])), (aT, .inl (cT, 400, .inl told)), (aF, .inr (0, [.int fn, .int fz, .int fv, .int fc])), (aR, .inr (2, [.ref aM, .ref aA, .ref aB, .int fault2_14])), (aA, .inl (cA, 8, .inl regs2_11)), (aM, .inr (1, [.ref aW, .ref aT, .int cnt])), (aW, .inl (cW, 2048, .inl words))]) (w1 := []) hP hD [] [0, 1, 2, 3, 4, 5, 6] rfl rfl (by decide) (by decide) hk1 hFc hP1 hD1
  have hP : va_P (dC, dI) vwCl [(aP, .inr (3, [.ref aR, .ref aF])), (aT, .inl (cT, 400, .inl told)), (aF, .inr (0, [.int fn, .int fz, .int fv, .int fc])), (aR, .inr (2, [.ref aM, .ref aA, .ref aB, .int fault2_14])), (aA, .inl (cA, 8, .inl regs2_11)), (aM, .inr (1, [.ref aW, .ref aT, .int cnt])), (aW, .inl (cW, 2048, .inl words))] H := hP
  have hD : va_D A [(aP, .inr (3, [.ref aR, .ref aF])), (aT, .inl (cT, 400, .inl told)), (aF, .inr (0, [.int fn, .int fz, .int fv, .int fc])), (aR, .inr (2, [.ref aM, .ref aA, .ref aB, .int fault2_14])), (aA, .inl (cA, 8, .inl regs2_11)), (aM, .inr (1, [.ref aW, .ref aT, .int cnt])), (aW, .inl (cW, 2048, .inl words))] := hD
  refine W.widen (k := 0) (n := 0) (by omega) (by omega) ?_
  try dsimp only at hw_16
  refine lv_if_eq (tgt := 74) hx hb dX3_addOrSubtract_50 (by decide) (fun c_17 => ?_) (fun c_17 => ?_)
  · refine lv_iload_n hx hb dX3_addOrSubtract_74 rfl (lv_at hl 2 rfl) ?_
    refine lv_iload hx hb dX3_addOrSubtract_75 (lv_at hl 0 rfl) ?_
    refine lv_iadd hx hb dX3_addOrSubtract_77 ?_
    refine lv_ldc (v := 65535) hx hb hown (hts (.constant RX3 69 (65535)) (by decide +kernel)) dX3_addOrSubtract_78 ?_
    refine lv_iand hx hb dX3_addOrSubtract_80 ?_
    refine lv_istore (lv' := [(5, .int ((r_5 + r_12) &&& 65535)), (4, .int r_12), (3, .int r_8), (2, .int r_5), (0, .ref aP), (1, .int k)]) hx hb dX3_addOrSubtract_81 hl (by decide) rfl (fun ls hl => ?_)
    refine lv_aload_n hx hb dX3_addOrSubtract_83 rfl (lv_at hl 4 rfl) ?_
    refine va_get (D := (dC, dI)) (ci := 3) (v := .ref aF) (C := RX3) (T := TX3) (N := 2) hx hb hts (by decide +kernel) hown hK hP 0 rfl rfl 1 (by decide) (hts (.fieldLink RX3 12 "WordGuest$Processor" "conditions" "LWordGuest$Flags;") (by decide +kernel)) (fun _ h9 => h9) rfl dX3_addOrSubtract_84 ?_
    refine lv_iload hx hb dX3_addOrSubtract_87 (lv_at hl 0 rfl) ?_
    refine lv_ldc (v := 65535) hx hb hown (hts (.constant RX3 69 (65535)) (by decide +kernel)) dX3_addOrSubtract_89 ?_
    have hPc := hP.sub (ws' := [(aF, .inr (0, [.int fn, .int fz, .int fv, .int fc]))]) [2] rfl
    have hDc := hD.sub (ws' := [(aF, .inr (0, [.int fn, .int fz, .int fv, .int fc]))]) [2] (by decide) rfl
    have hKc := hK.sub (tys' := []) [] rfl
    have hFc := va_free (wc := [(aF, .inr (0, [.int fn, .int fz, .int fv, .int fc]))]) hD hS hA [2] rfl
    refine va_callv (va_runV (C := RX0) (b := aF) (As := [.int ((r_5 + r_12) &&& 65535), .int 65535]) (rest := []) ⟨hx, hb, hml, hown, hts⟩ (s_X0_setByResult l dC dI H.size aF ((r_5 + r_12) &&& 65535) (65535 : Int32) fn fz fv fc) (cwV 2 hts gX3_addOrSubtract_X0_setByResult rfl rfl rfl (by decide +kernel) ⟨Nat.le_of_ble_eq_true rfl, Nat.le_of_ble_eq_true rfl⟩) ⟨q_blind, va_recv hK hP (ci := 0) (q0 := 2) rfl rfl, fun U hU hW => ⟨rfl, q_pay hU hW hPc hKc hDc hN⟩⟩ rfl rfl hl.1 rfl (lv_room (Nat.le_of_ble_eq_true rfl)) dX3_addOrSubtract_91 ⟨show 0 + 0 ≤ 0 from by omega, show 0 + 0 ≤ 0 from by omega⟩) hS (fun q _ h => hFc q h) hFc (fun u9 t H locs ht hvm hw_19 hB hz1 hk1 hS => ?_)
    obtain ⟨fn2_20, fz2_21⟩ := u9
    obtain ⟨hP1, hK1, hD1⟩ := hB
    rw [ht] at hP1
    obtain ⟨hP, hD⟩ := va_join (wr := [(aP, .inr (3, [.ref aR, .ref aF])), (aT, .inl (cT, 400, .inl told)), (aR, .inr (2, [.ref aM, .ref aA, .ref aB, .int fault2_14])), (aA, .inl (cA, 8, .inl regs2_11)), (aM, .inr (1, [.ref aW, .ref aT, .int cnt])), (aW, .inl (cW, 2048, .inl words))]) (w1 := [(aF, .inr (0, [.int fn2_20, .int fz2_21, .int fv, .int fc]))]) hP hD [2] [0, 1, 3, 4, 5, 6] rfl rfl (by decide) (by decide) hk1 hFc hP1 hD1
    have hP : va_P (dC, dI) vwCl [(aP, .inr (3, [.ref aR, .ref aF])), (aT, .inl (cT, 400, .inl told)), (aR, .inr (2, [.ref aM, .ref aA, .ref aB, .int fault2_14])), (aA, .inl (cA, 8, .inl regs2_11)), (aM, .inr (1, [.ref aW, .ref aT, .int cnt])), (aW, .inl (cW, 2048, .inl words)), (aF, .inr (0, [.int fn2_20, .int fz2_21, .int fv, .int fc]))] H := hP
    have hD : va_D A [(aP, .inr (3, [.ref aR, .ref aF])), (aT, .inl (cT, 400, .inl told)), (aR, .inr (2, [.ref aM, .ref aA, .ref aB, .int fault2_14])), (aA, .inl (cA, 8, .inl regs2_11)), (aM, .inr (1, [.ref aW, .ref aT, .int cnt])), (aW, .inl (cW, 2048, .inl words)), (aF, .inr (0, [.int fn2_20, .int fz2_21, .int fv, .int fc]))] := hD
    refine W.widen (k := 0) (n := 0) (by omega) (by omega) ?_
    try dsimp only at hw_19
    refine lv_aload_n hx hb dX3_addOrSubtract_94 rfl (lv_at hl 4 rfl) ?_
    refine va_get (D := (dC, dI)) (ci := 3) (v := .ref aF) (C := RX3) (T := TX3) (N := 2) hx hb hts (by decide +kernel) hown hK hP 0 rfl rfl 1 (by decide) (hts (.fieldLink RX3 12 "WordGuest$Processor" "conditions" "LWordGuest$Flags;") (by decide +kernel)) (fun _ h9 => h9) rfl dX3_addOrSubtract_95 ?_
    refine lv_iload_n hx hb dX3_addOrSubtract_98 rfl (lv_at hl 3 rfl) ?_
    refine lv_iload hx hb dX3_addOrSubtract_99 (lv_at hl 1 rfl) ?_
    refine lv_ixor hx hb dX3_addOrSubtract_101 ?_
    refine lv_iconst (v := (-1)) hx hb dX3_addOrSubtract_102 (by decide) ?_
    refine lv_ixor hx hb dX3_addOrSubtract_103 ?_
    refine lv_iload_n hx hb dX3_addOrSubtract_104 rfl (lv_at hl 3 rfl) ?_
    refine lv_iload hx hb dX3_addOrSubtract_105 (lv_at hl 0 rfl) ?_
    refine lv_ixor hx hb dX3_addOrSubtract_107 ?_
    refine lv_iand hx hb dX3_addOrSubtract_108 ?_
    refine lv_ldc (v := 32768) hx hb hown (hts (.constant RX3 64 (32768)) (by decide +kernel)) dX3_addOrSubtract_109 ?_
    refine lv_iand hx hb dX3_addOrSubtract_111 ?_
    refine q_bool (ls := ls) 120 [.ref aF] (fun b_23 hb_24 => ?_) (fun jn => ?_)
    · refine va_putN (D := (dC, dI)) (ci := 0) (v := .int b_23) (ty := .boolean) (C := RX0) (T := TX0) (N := 4) hx hb hts (by decide +kernel) tyX0 tyX0_ok nmX0 hown hK hP hD hS 6 rfl rfl 2 (by decide) ((va_Nw.use rfl (hN _ (List.mem_of_getElem? (i := 6) rfl)))) (fun _ h9 => h9) rfl (by decide +kernel) (q_nz hb_24) (q_fz hb_24) (Nat.le_of_ble_eq_true rfl) dX3_addOrSubtract_120 (fun H locs hP hD hS => ?_)
      have hP : va_P (dC, dI) vwCl [(aP, .inr (3, [.ref aR, .ref aF])), (aT, .inl (cT, 400, .inl told)), (aR, .inr (2, [.ref aM, .ref aA, .ref aB, .int fault2_14])), (aA, .inl (cA, 8, .inl regs2_11)), (aM, .inr (1, [.ref aW, .ref aT, .int cnt])), (aW, .inl (cW, 2048, .inl words)), (aF, .inr (0, [.int fn2_20, .int fz2_21, .int b_23, .int fc]))] H := hP
      have hD : va_D A [(aP, .inr (3, [.ref aR, .ref aF])), (aT, .inl (cT, 400, .inl told)), (aR, .inr (2, [.ref aM, .ref aA, .ref aB, .int fault2_14])), (aA, .inl (cA, 8, .inl regs2_11)), (aM, .inr (1, [.ref aW, .ref aT, .int cnt])), (aW, .inl (cW, 2048, .inl words)), (aF, .inr (0, [.int fn2_20, .int fz2_21, .int b_23, .int fc]))] := hD
      refine lv_aload_n hx hb dX3_addOrSubtract_123 rfl (lv_at hl 4 rfl) ?_
      refine va_get (D := (dC, dI)) (ci := 3) (v := .ref aF) (C := RX3) (T := TX3) (N := 2) hx hb hts (by decide +kernel) hown hK hP 0 rfl rfl 1 (by decide) (hts (.fieldLink RX3 12 "WordGuest$Processor" "conditions" "LWordGuest$Flags;") (by decide +kernel)) (fun _ h9 => h9) rfl dX3_addOrSubtract_124 ?_
      refine lv_iload_n hx hb dX3_addOrSubtract_127 rfl (lv_at hl 3 rfl) ?_
      refine lv_iload hx hb dX3_addOrSubtract_128 (lv_at hl 1 rfl) ?_
      refine lv_iadd hx hb dX3_addOrSubtract_130 ?_
      refine lv_ldc (v := 65535) hx hb hown (hts (.constant RX3 69 (65535)) (by decide +kernel)) dX3_addOrSubtract_131 ?_
      refine q_bool (ls := ls) 141 [.ref aF] (fun b_26 hb_27 => ?_) (fun jn => ?_)
      · refine va_putN (D := (dC, dI)) (ci := 0) (v := .int b_26) (ty := .boolean) (C := RX0) (T := TX0) (N := 4) hx hb hts (by decide +kernel) tyX0 tyX0_ok nmX0 hown hK hP hD hS 6 rfl rfl 3 (by decide) ((va_Nw.use rfl (hN _ (List.mem_of_getElem? (i := 7) rfl)))) (fun _ h9 => h9) rfl (by decide +kernel) (q_nz hb_27) (q_fz hb_27) (Nat.le_of_ble_eq_true rfl) dX3_addOrSubtract_141 (fun H locs hP hD hS => ?_)
        have hP : va_P (dC, dI) vwCl [(aP, .inr (3, [.ref aR, .ref aF])), (aT, .inl (cT, 400, .inl told)), (aR, .inr (2, [.ref aM, .ref aA, .ref aB, .int fault2_14])), (aA, .inl (cA, 8, .inl regs2_11)), (aM, .inr (1, [.ref aW, .ref aT, .int cnt])), (aW, .inl (cW, 2048, .inl words)), (aF, .inr (0, [.int fn2_20, .int fz2_21, .int b_23, .int b_26]))] H := hP
        have hD : va_D A [(aP, .inr (3, [.ref aR, .ref aF])), (aT, .inl (cT, 400, .inl told)), (aR, .inr (2, [.ref aM, .ref aA, .ref aB, .int fault2_14])), (aA, .inl (cA, 8, .inl regs2_11)), (aM, .inr (1, [.ref aW, .ref aT, .int cnt])), (aW, .inl (cW, 2048, .inl words)), (aF, .inr (0, [.int fn2_20, .int fz2_21, .int b_23, .int b_26]))] := hD
        refine lv_aload_n hx hb dX3_addOrSubtract_144 rfl (lv_at hl 4 rfl) ?_
        refine va_get (D := (dC, dI)) (ci := 3) (v := .ref aR) (C := RX3) (T := TX3) (N := 2) hx hb hts (by decide +kernel) hown hK hP 0 rfl rfl 0 (by decide) (hts (.fieldLink RX3 23 "WordGuest$Processor" "parts" "LWordGuest$Parts;") (by decide +kernel)) (fun _ h9 => h9) rfl dX3_addOrSubtract_145 ?_
        refine lv_iload_n hx hb dX3_addOrSubtract_148 rfl (lv_at hl 2 rfl) ?_
        refine lv_ldc (v := 65535) hx hb hown (hts (.constant RX3 69 (65535)) (by decide +kernel)) dX3_addOrSubtract_149 ?_
        refine lv_iload hx hb dX3_addOrSubtract_151 (lv_at hl 0 rfl) ?_
        have hPc := hP.sub (ws' := [(aR, .inr (2, [.ref aM, .ref aA, .ref aB, .int fault2_14])), (aA, .inl (cA, 8, .inl regs2_11)), (aM, .inr (1, [.ref aW, .ref aT, .int cnt])), (aW, .inl (cW, 2048, .inl words)), (aT, .inl (cT, 400, .inl told))]) [2, 3, 4, 5, 1] rfl
        have hDc := hD.sub (ws' := [(aR, .inr (2, [.ref aM, .ref aA, .ref aB, .int fault2_14])), (aA, .inl (cA, 8, .inl regs2_11)), (aM, .inr (1, [.ref aW, .ref aT, .int cnt])), (aW, .inl (cW, 2048, .inl words)), (aT, .inl (cT, 400, .inl told))]) [2, 3, 4, 5, 1] (by decide) rfl
        have hKc := hK.sub (tys' := [(cA, .int), (cW, .int), (cT, .int)]) [0, 1, 2] rfl
        have hFc := va_free (wc := [(aR, .inr (2, [.ref aM, .ref aA, .ref aB, .int fault2_14])), (aA, .inl (cA, 8, .inl regs2_11)), (aM, .inr (1, [.ref aW, .ref aT, .int cnt])), (aW, .inl (cW, 2048, .inl words)), (aT, .inl (cT, 400, .inl told))]) hD hS hA [2, 3, 4, 5, 1] rfl
        refine va_callv (va_runV (C := RX2) (b := aR) (As := [.int r_8, .int 65535, .int ((r_5 + r_12) &&& 65535)]) (rest := []) ⟨hx, hb, hml, hown, hts⟩ (s_X2_store l dC dI H.size aR r_8 (65535 : Int32) ((r_5 + r_12) &&& 65535) aM aA aB fault2_14 cA regs2_11 aW aT cnt cW words cT told h4) (cwV 3 hts gX3_addOrSubtract_X2_store rfl rfl rfl (by decide +kernel) ⟨Nat.le_of_ble_eq_true rfl, Nat.le_of_ble_eq_true rfl⟩) ⟨q_blind, va_recv hK hP (ci := 2) (q0 := 2) rfl rfl, fun U hU hW => ⟨rfl, q_pay hU hW hPc hKc hDc hN⟩⟩ rfl rfl hl.1 rfl (lv_room (Nat.le_of_ble_eq_true rfl)) dX3_addOrSubtract_153 ⟨show 0 + 0 ≤ 0 from by omega, show 0 + 0 ≤ 0 from by omega⟩) hS (fun q _ h => hFc q h) hFc (fun u9 t H locs ht hvm hw_29 hB hz1 hk1 hS => ?_)
        obtain ⟨fault2_30, regs2_31, cnt2_32, words2_33, told2_34⟩ := u9
        obtain ⟨hP1, hK1, hD1⟩ := hB
        rw [ht] at hP1
        obtain ⟨hP, hD⟩ := va_join (wr := [(aP, .inr (3, [.ref aR, .ref aF])), (aF, .inr (0, [.int fn2_20, .int fz2_21, .int b_23, .int b_26]))]) (w1 := [(aR, .inr (2, [.ref aM, .ref aA, .ref aB, .int fault2_30])), (aA, .inl (cA, 8, .inl regs2_31)), (aM, .inr (1, [.ref aW, .ref aT, .int cnt2_32])), (aW, .inl (cW, 2048, .inl words2_33)), (aT, .inl (cT, 400, .inl told2_34))]) hP hD [2, 3, 4, 5, 1] [0, 6] rfl rfl (by decide) (by decide) hk1 hFc hP1 hD1
        have hP : va_P (dC, dI) vwCl [(aP, .inr (3, [.ref aR, .ref aF])), (aF, .inr (0, [.int fn2_20, .int fz2_21, .int b_23, .int b_26])), (aR, .inr (2, [.ref aM, .ref aA, .ref aB, .int fault2_30])), (aA, .inl (cA, 8, .inl regs2_31)), (aM, .inr (1, [.ref aW, .ref aT, .int cnt2_32])), (aW, .inl (cW, 2048, .inl words2_33)), (aT, .inl (cT, 400, .inl told2_34))] H := hP
        have hD : va_D A [(aP, .inr (3, [.ref aR, .ref aF])), (aF, .inr (0, [.int fn2_20, .int fz2_21, .int b_23, .int b_26])), (aR, .inr (2, [.ref aM, .ref aA, .ref aB, .int fault2_30])), (aA, .inl (cA, 8, .inl regs2_31)), (aM, .inr (1, [.ref aW, .ref aT, .int cnt2_32])), (aW, .inl (cW, 2048, .inl words2_33)), (aT, .inl (cT, 400, .inl told2_34))] := hD
        refine W.widen (k := 0) (n := 0) (by omega) (by omega) ?_
        try dsimp only at hw_29
        have hP9 := hP.sub (ws' := [(aP, .inr (3, [.ref aR, .ref aF])), (aR, .inr (2, [.ref aM, .ref aA, .ref aB, .int fault2_30])), (aA, .inl (cA, 8, .inl regs2_31)), (aM, .inr (1, [.ref aW, .ref aT, .int cnt2_32])), (aW, .inl (cW, 2048, .inl words2_33)), (aT, .inl (cT, 400, .inl told2_34)), (aF, .inr (0, [.int fn2_20, .int fz2_21, .int b_23, .int b_26]))]) [0, 2, 3, 4, 5, 6, 1] rfl
        have hD9 := hD.sub (ws' := [(aP, .inr (3, [.ref aR, .ref aF])), (aR, .inr (2, [.ref aM, .ref aA, .ref aB, .int fault2_30])), (aA, .inl (cA, 8, .inl regs2_31)), (aM, .inr (1, [.ref aW, .ref aT, .int cnt2_32])), (aW, .inl (cW, 2048, .inl words2_33)), (aT, .inl (cT, 400, .inl told2_34)), (aF, .inr (0, [.int fn2_20, .int fz2_21, .int b_23, .int b_26]))]) [0, 2, 3, 4, 5, 6, 1] (by decide) rfl
        have hK9 := hK.sub (tys' := [(cA, .int), (cW, .int), (cT, .int)]) [0, 1, 2] rfl
        exact W.vret hx hb hr (fun t ht hW => ⟨⟨(fault2_30, regs2_31, cnt2_32, words2_33, told2_34, fn2_20, fz2_21, b_23, b_26), rfl, hw_29, by rw [ht]; exact hP9, va_K.moved hW.alike hK9, hD9⟩, hS.F ht⟩) hS.2.2 dX3_addOrSubtract_156
      refine lv_icmp_le (tgt := 140) hx hb dX3_addOrSubtract_133 (by decide) (fun c_25 => ?_) (fun c_25 => ?_)
      · refine lv_iconst (v := 0) hx hb dX3_addOrSubtract_140 (by decide) ?_
        exact jn _ (Or.inl rfl)
      · refine lv_iconst (v := 1) hx hb dX3_addOrSubtract_136 (by decide) ?_
        refine lv_goto (tgt := 141) hx hb dX3_addOrSubtract_137 (by decide) ?_
        exact jn _ (Or.inr rfl)
    refine lv_if_eq (tgt := 119) hx hb dX3_addOrSubtract_112 (by decide) (fun c_22 => ?_) (fun c_22 => ?_)
    · refine lv_iconst (v := 0) hx hb dX3_addOrSubtract_119 (by decide) ?_
      exact jn _ (Or.inl rfl)
    · refine lv_iconst (v := 1) hx hb dX3_addOrSubtract_115 (by decide) ?_
      refine lv_goto (tgt := 120) hx hb dX3_addOrSubtract_116 (by decide) ?_
      exact jn _ (Or.inr rfl)
  · refine lv_iload hx hb dX3_addOrSubtract_53 (lv_at hl 0 rfl) ?_
    refine lv_iload_n hx hb dX3_addOrSubtract_55 rfl (lv_at hl 2 rfl) ?_
    refine lv_isub hx hb dX3_addOrSubtract_56 ?_
    refine lv_ldc (v := 65535) hx hb hown (hts (.constant RX3 69 (65535)) (by decide +kernel)) dX3_addOrSubtract_57 ?_
    refine lv_iand hx hb dX3_addOrSubtract_59 ?_
    refine lv_istore (lv' := [(5, .int ((r_12 - r_5) &&& 65535)), (4, .int r_12), (3, .int r_8), (2, .int r_5), (0, .ref aP), (1, .int k)]) hx hb dX3_addOrSubtract_60 hl (by decide) rfl (fun ls hl => ?_)
    refine lv_aload_n hx hb dX3_addOrSubtract_62 rfl (lv_at hl 4 rfl) ?_
    refine lv_iload hx hb dX3_addOrSubtract_63 (lv_at hl 1 rfl) ?_
    refine lv_iload_n hx hb dX3_addOrSubtract_65 rfl (lv_at hl 3 rfl) ?_
    refine lv_ldc (v := 65535) hx hb hown (hts (.constant RX3 69 (65535)) (by decide +kernel)) dX3_addOrSubtract_66 ?_
    have hPc := hP.sub (ws' := [(aP, .inr (3, [.ref aR, .ref aF])), (aF, .inr (0, [.int fn, .int fz, .int fv, .int fc]))]) [0, 2] rfl
    have hDc := hD.sub (ws' := [(aP, .inr (3, [.ref aR, .ref aF])), (aF, .inr (0, [.int fn, .int fz, .int fv, .int fc]))]) [0, 2] (by decide) rfl
    have hKc := hK.sub (tys' := []) [] rfl
    have hFc := va_free (wc := [(aP, .inr (3, [.ref aR, .ref aF])), (aF, .inr (0, [.int fn, .int fz, .int fv, .int fc]))]) hD hS hA [0, 2] rfl
    refine va_callv (va_runV (C := RX3) (b := aP) (As := [.int r_12, .int r_5, .int 65535]) (rest := []) ⟨hx, hb, hml, hown, hts⟩ (s_X3_setByDifference l dC dI H.size aP r_12 r_5 (65535 : Int32) aR aF fn fz fv fc) (cwV 3 hts gX3_addOrSubtract_X3_setByDifference rfl rfl rfl (by decide +kernel) ⟨Nat.le_of_ble_eq_true rfl, Nat.le_of_ble_eq_true rfl⟩) ⟨q_blind, va_recv hK hP (ci := 3) (q0 := 0) rfl rfl, fun U hU hW => ⟨rfl, q_pay hU hW hPc hKc hDc hN⟩⟩ rfl rfl hl.1 rfl (lv_room (Nat.le_of_ble_eq_true rfl)) dX3_addOrSubtract_68 ⟨show 0 + 0 ≤ 0 from by omega, show 0 + 0 ≤ 0 from by omega⟩) hS (fun q _ h => hFc q h) hFc (fun u9 t H locs ht hvm hw_36 hB hz1 hk1 hS => ?_)
    obtain ⟨fn2_37, fz2_38, fv2_39, fc2_40⟩ := u9
    obtain ⟨hP1, hK1, hD1⟩ := hB
    rw [ht] at hP1
    obtain ⟨hP, hD⟩ := va_join (wr := [(aT, .inl (cT, 400, .inl told)), (aR, .inr (2, [.ref aM, .ref aA, .ref aB, .int fault2_14])), (aA, .inl (cA, 8, .inl regs2_11)), (aM, .inr (1, [.ref aW, .ref aT, .int cnt])), (aW, .inl (cW, 2048, .inl words))]) (w1 := [(aP, .inr (3, [.ref aR, .ref aF])), (aF, .inr (0, [.int fn2_37, .int fz2_38, .int fv2_39, .int fc2_40]))]) hP hD [0, 2] [1, 3, 4, 5, 6] rfl rfl (by decide) (by decide) hk1 hFc hP1 hD1
    have hP : va_P (dC, dI) vwCl [(aT, .inl (cT, 400, .inl told)), (aR, .inr (2, [.ref aM, .ref aA, .ref aB, .int fault2_14])), (aA, .inl (cA, 8, .inl regs2_11)), (aM, .inr (1, [.ref aW, .ref aT, .int cnt])), (aW, .inl (cW, 2048, .inl words)), (aP, .inr (3, [.ref aR, .ref aF])), (aF, .inr (0, [.int fn2_37, .int fz2_38, .int fv2_39, .int fc2_40]))] H := hP
    have hD : va_D A [(aT, .inl (cT, 400, .inl told)), (aR, .inr (2, [.ref aM, .ref aA, .ref aB, .int fault2_14])), (aA, .inl (cA, 8, .inl regs2_11)), (aM, .inr (1, [.ref aW, .ref aT, .int cnt])), (aW, .inl (cW, 2048, .inl words)), (aP, .inr (3, [.ref aR, .ref aF])), (aF, .inr (0, [.int fn2_37, .int fz2_38, .int fv2_39, .int fc2_40]))] := hD
    refine W.widen (k := 0) (n := 0) (by omega) (by omega) ?_
    try dsimp only at hw_36
    refine lv_goto (tgt := 144) hx hb dX3_addOrSubtract_71 (by decide) ?_
    refine lv_aload_n hx hb dX3_addOrSubtract_144 rfl (lv_at hl 4 rfl) ?_
    refine va_get (D := (dC, dI)) (ci := 3) (v := .ref aR) (C := RX3) (T := TX3) (N := 2) hx hb hts (by decide +kernel) hown hK hP 5 rfl rfl 0 (by decide) (hts (.fieldLink RX3 23 "WordGuest$Processor" "parts" "LWordGuest$Parts;") (by decide +kernel)) (fun _ h9 => h9) rfl dX3_addOrSubtract_145 ?_
    refine lv_iload_n hx hb dX3_addOrSubtract_148 rfl (lv_at hl 2 rfl) ?_
    refine lv_ldc (v := 65535) hx hb hown (hts (.constant RX3 69 (65535)) (by decide +kernel)) dX3_addOrSubtract_149 ?_
    refine lv_iload hx hb dX3_addOrSubtract_151 (lv_at hl 0 rfl) ?_
    have hPc := hP.sub (ws' := [(aR, .inr (2, [.ref aM, .ref aA, .ref aB, .int fault2_14])), (aA, .inl (cA, 8, .inl regs2_11)), (aM, .inr (1, [.ref aW, .ref aT, .int cnt])), (aW, .inl (cW, 2048, .inl words)), (aT, .inl (cT, 400, .inl told))]) [1, 2, 3, 4, 0] rfl
    have hDc := hD.sub (ws' := [(aR, .inr (2, [.ref aM, .ref aA, .ref aB, .int fault2_14])), (aA, .inl (cA, 8, .inl regs2_11)), (aM, .inr (1, [.ref aW, .ref aT, .int cnt])), (aW, .inl (cW, 2048, .inl words)), (aT, .inl (cT, 400, .inl told))]) [1, 2, 3, 4, 0] (by decide) rfl
    have hKc := hK.sub (tys' := [(cA, .int), (cW, .int), (cT, .int)]) [0, 1, 2] rfl
    have hFc := va_free (wc := [(aR, .inr (2, [.ref aM, .ref aA, .ref aB, .int fault2_14])), (aA, .inl (cA, 8, .inl regs2_11)), (aM, .inr (1, [.ref aW, .ref aT, .int cnt])), (aW, .inl (cW, 2048, .inl words)), (aT, .inl (cT, 400, .inl told))]) hD hS hA [1, 2, 3, 4, 0] rfl
    refine va_callv (va_runV (C := RX2) (b := aR) (As := [.int r_8, .int 65535, .int ((r_12 - r_5) &&& 65535)]) (rest := []) ⟨hx, hb, hml, hown, hts⟩ (s_X2_store l dC dI H.size aR r_8 (65535 : Int32) ((r_12 - r_5) &&& 65535) aM aA aB fault2_14 cA regs2_11 aW aT cnt cW words cT told h4) (cwV 3 hts gX3_addOrSubtract_X2_store rfl rfl rfl (by decide +kernel) ⟨Nat.le_of_ble_eq_true rfl, Nat.le_of_ble_eq_true rfl⟩) ⟨q_blind, va_recv hK hP (ci := 2) (q0 := 1) rfl rfl, fun U hU hW => ⟨rfl, q_pay hU hW hPc hKc hDc hN⟩⟩ rfl rfl hl.1 rfl (lv_room (Nat.le_of_ble_eq_true rfl)) dX3_addOrSubtract_153 ⟨show 0 + 0 ≤ 0 from by omega, show 0 + 0 ≤ 0 from by omega⟩) hS (fun q _ h => hFc q h) hFc (fun u9 t H locs ht hvm hw_42 hB hz1 hk1 hS => ?_)
    obtain ⟨fault2_43, regs2_44, cnt2_45, words2_46, told2_47⟩ := u9
    obtain ⟨hP1, hK1, hD1⟩ := hB
    rw [ht] at hP1
    obtain ⟨hP, hD⟩ := va_join (wr := [(aP, .inr (3, [.ref aR, .ref aF])), (aF, .inr (0, [.int fn2_37, .int fz2_38, .int fv2_39, .int fc2_40]))]) (w1 := [(aR, .inr (2, [.ref aM, .ref aA, .ref aB, .int fault2_43])), (aA, .inl (cA, 8, .inl regs2_44)), (aM, .inr (1, [.ref aW, .ref aT, .int cnt2_45])), (aW, .inl (cW, 2048, .inl words2_46)), (aT, .inl (cT, 400, .inl told2_47))]) hP hD [1, 2, 3, 4, 0] [5, 6] rfl rfl (by decide) (by decide) hk1 hFc hP1 hD1
    have hP : va_P (dC, dI) vwCl [(aP, .inr (3, [.ref aR, .ref aF])), (aF, .inr (0, [.int fn2_37, .int fz2_38, .int fv2_39, .int fc2_40])), (aR, .inr (2, [.ref aM, .ref aA, .ref aB, .int fault2_43])), (aA, .inl (cA, 8, .inl regs2_44)), (aM, .inr (1, [.ref aW, .ref aT, .int cnt2_45])), (aW, .inl (cW, 2048, .inl words2_46)), (aT, .inl (cT, 400, .inl told2_47))] H := hP
    have hD : va_D A [(aP, .inr (3, [.ref aR, .ref aF])), (aF, .inr (0, [.int fn2_37, .int fz2_38, .int fv2_39, .int fc2_40])), (aR, .inr (2, [.ref aM, .ref aA, .ref aB, .int fault2_43])), (aA, .inl (cA, 8, .inl regs2_44)), (aM, .inr (1, [.ref aW, .ref aT, .int cnt2_45])), (aW, .inl (cW, 2048, .inl words2_46)), (aT, .inl (cT, 400, .inl told2_47))] := hD
    refine W.widen (k := 0) (n := 0) (by omega) (by omega) ?_
    try dsimp only at hw_42
    have hP9 := hP.sub (ws' := [(aP, .inr (3, [.ref aR, .ref aF])), (aR, .inr (2, [.ref aM, .ref aA, .ref aB, .int fault2_43])), (aA, .inl (cA, 8, .inl regs2_44)), (aM, .inr (1, [.ref aW, .ref aT, .int cnt2_45])), (aW, .inl (cW, 2048, .inl words2_46)), (aT, .inl (cT, 400, .inl told2_47)), (aF, .inr (0, [.int fn2_37, .int fz2_38, .int fv2_39, .int fc2_40]))]) [0, 2, 3, 4, 5, 6, 1] rfl
    have hD9 := hD.sub (ws' := [(aP, .inr (3, [.ref aR, .ref aF])), (aR, .inr (2, [.ref aM, .ref aA, .ref aB, .int fault2_43])), (aA, .inl (cA, 8, .inl regs2_44)), (aM, .inr (1, [.ref aW, .ref aT, .int cnt2_45])), (aW, .inl (cW, 2048, .inl words2_46)), (aT, .inl (cT, 400, .inl told2_47)), (aF, .inr (0, [.int fn2_37, .int fz2_38, .int fv2_39, .int fc2_40]))]) [0, 2, 3, 4, 5, 6, 1] (by decide) rfl
    have hK9 := hK.sub (tys' := [(cA, .int), (cW, .int), (cT, .int)]) [0, 1, 2] rfl
    exact W.vret hx hb hr (fun t ht hW => ⟨⟨(fault2_43, regs2_44, cnt2_45, words2_46, told2_47, fn2_37, fz2_38, fv2_39, fc2_40), rfl, hw_42, by rw [ht]; exact hP9, va_K.moved hW.alike hK9, hD9⟩, hS.F ht⟩) hS.2.2 dX3_addOrSubtract_156
set_option maxHeartbeats 4000000 in
set_option maxRecDepth 100000 in
theorem s_X3_performOne (l : Launch) (dC : Nat → ClassId) (dI : Nat → Nat → Nat) (sz : Nat) (aP : Nat) (k : Int32) (hd : Int32) (aR : Nat) (aF : Nat) (aM : Nat) (aA : Nat) (aB : Nat) (fault : Int32) (cA : ClassId) (regs : Nat → Int32) (aW : Nat) (aT : Nat) (cnt : Int32) (cW : ClassId) (words : Nat → Int32) (cT : ClassId) (told : Nat → Int32) (fn : Int32) (fz : Int32) (fv : Int32) (fc : Int32) (h4 : ok4 cnt) : Met l yX3_performOne wsX3_performOne ({ frames := 3, cells := 0, slots := 0, locals := 68 }) (va_Pc [.ref aP, .int k, .int hd] (q_pre dC dI sz [(aP, .inr (3, [.ref aR, .ref aF])), (aR, .inr (2, [.ref aM, .ref aA, .ref aB, .int fault])), (aA, .inl (cA, 8, .inl regs)), (aM, .inr (1, [.ref aW, .ref aT, .int cnt])), (aW, .inl (cW, 2048, .inl words)), (aT, .inl (cT, 400, .inl told)), (aF, .inr (0, [.int fn, .int fz, .int fv, .int fc]))] [(cA, .int), (cW, .int), (cT, .int)])) (va_Qv (fun (u9 : Int32 × (Nat → Int32) × Int32 × (Nat → Int32) × (Nat → Int32) × Int32 × Int32 × Int32 × Int32) => ok4 u9.2.2.1) (q_at dC dI (va_A [(aP, .inr (3, [.ref aR, .ref aF])), (aR, .inr (2, [.ref aM, .ref aA, .ref aB, .int fault])), (aA, .inl (cA, 8, .inl regs)), (aM, .inr (1, [.ref aW, .ref aT, .int cnt])), (aW, .inl (cW, 2048, .inl words)), (aT, .inl (cT, 400, .inl told)), (aF, .inr (0, [.int fn, .int fz, .int fv, .int fc]))] sz) (fun (u9 : Int32 × (Nat → Int32) × Int32 × (Nat → Int32) × (Nat → Int32) × Int32 × Int32 × Int32 × Int32) => [(cA, .int), (cW, .int), (cT, .int)]) (fun (u9 : Int32 × (Nat → Int32) × Int32 × (Nat → Int32) × (Nat → Int32) × Int32 × Int32 × Int32 × Int32) => [(aP, .inr (3, [.ref aR, .ref aF])), (aR, .inr (2, [.ref aM, .ref aA, .ref aB, .int u9.1])), (aA, .inl (cA, 8, .inl u9.2.1)), (aM, .inr (1, [.ref aW, .ref aT, .int u9.2.2.1])), (aW, .inl (cW, 2048, .inl u9.2.2.2.1)), (aT, .inl (cT, 400, .inl u9.2.2.2.2.1)), (aF, .inr (0, [.int u9.2.2.2.2.2.1, .int u9.2.2.2.2.2.2.1, .int u9.2.2.2.2.2.2.2.1, .int u9.2.2.2.2.2.2.2.2]))])) (va_A [(aP, .inr (3, [.ref aR, .ref aF])), (aR, .inr (2, [.ref aM, .ref aA, .ref aB, .int fault])), (aA, .inl (cA, 8, .inl regs)), (aM, .inr (1, [.ref aW, .ref aT, .int cnt])), (aW, .inl (cW, 2048, .inl words)), (aT, .inl (cT, 400, .inl told)), (aF, .inr (0, [.int fn, .int fz, .int fv, .int fc]))] sz)) 0 0 (va_A [(aP, .inr (3, [.ref aR, .ref aF])), (aR, .inr (2, [.ref aM, .ref aA, .ref aB, .int fault])), (aA, .inl (cA, 8, .inl regs)), (aM, .inr (1, [.ref aW, .ref aT, .int cnt])), (aW, .inl (cW, 2048, .inl words)), (aT, .inl (cT, 400, .inl told)), (aF, .inr (0, [.int fn, .int fz, .int fv, .int fc]))] sz) := by
  refine Met.ofW (cc := cX3_performOne) (maxL := 8) (ret := none) (by decide) rfl ?_
  intro p e s m args below meth c s₁ B hml hv
  obtain ⟨rfl, hsz, hP, hK, hD0, hN⟩ := hv
  have hx := B.exec
  have hb := B.bytes
  have hr := B.returns
  have hts := atoms_spec (ws := wsX3_performOne) B.pre
  have hown : s.vm.findClass RX3 = some m.cls := findClass_of_methodNamed B.named
  have hlocks := B.notSynchronized
  subst hsz
  have hD := hD0.self (sz := s.heap.size)
  generalize hAe : va_A [(aP, .inr (3, [.ref aR, .ref aF])), (aR, .inr (2, [.ref aM, .ref aA, .ref aB, .int fault])), (aA, .inl (cA, 8, .inl regs)), (aM, .inr (1, [.ref aW, .ref aT, .int cnt])), (aW, .inl (cW, 2048, .inl words)), (aT, .inl (cT, 400, .inl told)), (aF, .inr (0, [.int fn, .int fz, .int fv, .int fc]))] s.heap.size = A at hD ⊢
  have hA : ∀ q : Nat, s.heap.size ≤ q → A q := fun q h => by rw [← hAe]; exact Or.inr h
  have hS : va_S A s.heap s.heap [] := va_S.rf
  have hP : va_P (dC, dI) vwCl [(aP, .inr (3, [.ref aR, .ref aF])), (aR, .inr (2, [.ref aM, .ref aA, .ref aB, .int fault])), (aA, .inl (cA, 8, .inl regs)), (aM, .inr (1, [.ref aW, .ref aT, .int cnt])), (aW, .inl (cW, 2048, .inl words)), (aT, .inl (cT, 400, .inl told)), (aF, .inr (0, [.int fn, .int fz, .int fv, .int fc]))] s.heap := hP
  have hl := lv_entry ([.ref aP, .int k, .int hd]) (n := 8) (Nat.le_of_ble_eq_true rfl)
  rw [lg_entry_eq]
  generalize (lg_sl ([.ref aP, .int k, .int hd]) ++ List.replicate (8 - (lg_sl ([.ref aP, .int k, .int hd])).length) Slot.unset).toArray = ls at hl ⊢
  have hl : lv_has ls 8 [(0, .ref aP), (1, .int k), (2, .int hd)] := hl
  refine lv_iload_n hx hb dX3_performOne_0 rfl (lv_at hl 1 rfl) ?_
  have hPc := hP.sub (ws' := []) [] rfl
  have hDc := hD.sub (ws' := []) [] (by decide) rfl
  have hKc := hK.sub (tys' := []) [] rfl
  have hFc := va_free (wc := []) hD hS hA [] rfl
  refine va_calli (va_runS (As := [.int k]) (rest := []) ⟨hx, hb, hml, hown, hts⟩ (s_X3_sizeIn l dC dI s.heap.size k) (va_cwS 1 hts gX3_performOne_X3_sizeIn rfl rfl rfl (by decide +kernel) ⟨Nat.le_of_ble_eq_true rfl, Nat.le_of_ble_eq_true rfl⟩) ⟨q_blind, fun U hU hW => ⟨rfl, q_pay hU hW hPc hKc hDc hN⟩⟩ rfl rfl hl.1 rfl (lv_room (Nat.le_of_ble_eq_true rfl)) dX3_performOne_1 ⟨show 0 + 0 ≤ 0 from by omega, show 0 + 0 ≤ 0 from by omega⟩) hS (fun q _ h => hFc q h) hFc (fun r_1 u9 t H locs ht hvm hw_2 hB hz1 hk1 hS => ?_)
  obtain ⟨hP1, hK1, hD1⟩ := hB
  rw [ht] at hP1
  obtain ⟨hP, hD⟩ := va_join (wr := [(aP, .inr (3, [.ref aR, .ref aF])), (aR, .inr (2, [.ref aM, .ref aA, .ref aB, .int fault])), (aA, .inl (cA, 8, .inl regs)), (aM, .inr (1, [.ref aW, .ref aT, .int cnt])), (aW, .inl (cW, 2048, .inl words)), (aT, .inl (cT, 400, .inl told)), (aF, .inr (0, [.int fn, .int fz, .int fv, .int fc]))]) (w1 := []) hP hD [] [0, 1, 2, 3, 4, 5, 6] rfl rfl (by decide) (by decide) hk1 hFc hP1 hD1
  have hP : va_P (dC, dI) vwCl [(aP, .inr (3, [.ref aR, .ref aF])), (aR, .inr (2, [.ref aM, .ref aA, .ref aB, .int fault])), (aA, .inl (cA, 8, .inl regs)), (aM, .inr (1, [.ref aW, .ref aT, .int cnt])), (aW, .inl (cW, 2048, .inl words)), (aT, .inl (cT, 400, .inl told)), (aF, .inr (0, [.int fn, .int fz, .int fv, .int fc]))] H := hP
  have hD : va_D A [(aP, .inr (3, [.ref aR, .ref aF])), (aR, .inr (2, [.ref aM, .ref aA, .ref aB, .int fault])), (aA, .inl (cA, 8, .inl regs)), (aM, .inr (1, [.ref aW, .ref aT, .int cnt])), (aW, .inl (cW, 2048, .inl words)), (aT, .inl (cT, 400, .inl told)), (aF, .inr (0, [.int fn, .int fz, .int fv, .int fc]))] := hD
  refine W.widen (k := 0) (n := 0) (by omega) (by omega) ?_
  try dsimp only at hw_2
  refine lv_istore_n (lv' := [(3, .int r_1), (0, .ref aP), (1, .int k), (2, .int hd)]) hx hb dX3_performOne_4 rfl hl (by decide) rfl (fun ls hl => ?_)
  refine lv_aload_n hx hb dX3_performOne_5 rfl (lv_at hl 1 rfl) ?_
  refine va_get (D := (dC, dI)) (ci := 3) (v := .ref aR) (C := RX3) (T := TX3) (N := 2) hx hb hts (by decide +kernel) hown hK hP 0 rfl rfl 0 (by decide) (hts (.fieldLink RX3 23 "WordGuest$Processor" "parts" "LWordGuest$Parts;") (by decide +kernel)) (fun _ h9 => h9) rfl dX3_performOne_6 ?_
  refine lv_iload_n hx hb dX3_performOne_9 rfl (lv_at hl 2 rfl) ?_
  refine lv_iload_n hx hb dX3_performOne_10 rfl (lv_at hl 0 rfl) ?_
  have hPc := hP.sub (ws' := [(aR, .inr (2, [.ref aM, .ref aA, .ref aB, .int fault])), (aA, .inl (cA, 8, .inl regs)), (aM, .inr (1, [.ref aW, .ref aT, .int cnt])), (aW, .inl (cW, 2048, .inl words))]) [1, 2, 3, 4] rfl
  have hDc := hD.sub (ws' := [(aR, .inr (2, [.ref aM, .ref aA, .ref aB, .int fault])), (aA, .inl (cA, 8, .inl regs)), (aM, .inr (1, [.ref aW, .ref aT, .int cnt])), (aW, .inl (cW, 2048, .inl words))]) [1, 2, 3, 4] (by decide) rfl
  have hKc := hK.sub (tys' := [(cA, .int), (cW, .int)]) [0, 1] rfl
  have hFc := va_free (wc := [(aR, .inr (2, [.ref aM, .ref aA, .ref aB, .int fault])), (aA, .inl (cA, 8, .inl regs)), (aM, .inr (1, [.ref aW, .ref aT, .int cnt])), (aW, .inl (cW, 2048, .inl words))]) hD hS hA [1, 2, 3, 4] rfl
  refine va_calli (va_runV (C := RX2) (b := aR) (As := [.int k, .int r_1]) (rest := []) ⟨hx, hb, hml, hown, hts⟩ (s_X2_locate l dC dI H.size aR k r_1 aM aA aB fault cA regs aW aT cnt cW words) (cwV 2 hts gX3_performOne_X2_locate rfl rfl rfl (by decide +kernel) ⟨Nat.le_of_ble_eq_true rfl, Nat.le_of_ble_eq_true rfl⟩) ⟨q_blind, va_recv hK hP (ci := 2) (q0 := 1) rfl rfl, fun U hU hW => ⟨rfl, q_pay hU hW hPc hKc hDc hN⟩⟩ rfl rfl hl.1 rfl (lv_room (Nat.le_of_ble_eq_true rfl)) dX3_performOne_11 ⟨show 0 + 0 ≤ 0 from by omega, show 0 + 0 ≤ 0 from by omega⟩) hS (fun q _ h => hFc q h) hFc (fun r_3 u9 t H locs ht hvm hw_4 hB hz1 hk1 hS => ?_)
  obtain ⟨fault2_5, regs2_6⟩ := u9
  obtain ⟨hP1, hK1, hD1⟩ := hB
  rw [ht] at hP1
  obtain ⟨hP, hD⟩ := va_join (wr := [(aP, .inr (3, [.ref aR, .ref aF])), (aT, .inl (cT, 400, .inl told)), (aF, .inr (0, [.int fn, .int fz, .int fv, .int fc]))]) (w1 := [(aR, .inr (2, [.ref aM, .ref aA, .ref aB, .int fault2_5])), (aA, .inl (cA, 8, .inl regs2_6)), (aM, .inr (1, [.ref aW, .ref aT, .int cnt])), (aW, .inl (cW, 2048, .inl words))]) hP hD [1, 2, 3, 4] [0, 5, 6] rfl rfl (by decide) (by decide) hk1 hFc hP1 hD1
  have hP : va_P (dC, dI) vwCl [(aP, .inr (3, [.ref aR, .ref aF])), (aT, .inl (cT, 400, .inl told)), (aF, .inr (0, [.int fn, .int fz, .int fv, .int fc])), (aR, .inr (2, [.ref aM, .ref aA, .ref aB, .int fault2_5])), (aA, .inl (cA, 8, .inl regs2_6)), (aM, .inr (1, [.ref aW, .ref aT, .int cnt])), (aW, .inl (cW, 2048, .inl words))] H := hP
  have hD : va_D A [(aP, .inr (3, [.ref aR, .ref aF])), (aT, .inl (cT, 400, .inl told)), (aF, .inr (0, [.int fn, .int fz, .int fv, .int fc])), (aR, .inr (2, [.ref aM, .ref aA, .ref aB, .int fault2_5])), (aA, .inl (cA, 8, .inl regs2_6)), (aM, .inr (1, [.ref aW, .ref aT, .int cnt])), (aW, .inl (cW, 2048, .inl words))] := hD
  refine W.widen (k := 0) (n := 0) (by omega) (by omega) ?_
  try dsimp only at hw_4
  refine lv_istore (lv' := [(4, .int r_3), (3, .int r_1), (0, .ref aP), (1, .int k), (2, .int hd)]) hx hb dX3_performOne_14 hl (by decide) rfl (fun ls hl => ?_)
  refine lv_aload_n hx hb dX3_performOne_16 rfl (lv_at hl 2 rfl) ?_
  refine va_get (D := (dC, dI)) (ci := 3) (v := .ref aR) (C := RX3) (T := TX3) (N := 2) hx hb hts (by decide +kernel) hown hK hP 0 rfl rfl 0 (by decide) (hts (.fieldLink RX3 23 "WordGuest$Processor" "parts" "LWordGuest$Parts;") (by decide +kernel)) (fun _ h9 => h9) rfl dX3_performOne_17 ?_
  refine lv_iload hx hb dX3_performOne_20 (lv_at hl 0 rfl) ?_
  refine lv_iload_n hx hb dX3_performOne_22 rfl (lv_at hl 1 rfl) ?_
  have hPc := hP.sub (ws' := [(aR, .inr (2, [.ref aM, .ref aA, .ref aB, .int fault2_5])), (aA, .inl (cA, 8, .inl regs2_6)), (aM, .inr (1, [.ref aW, .ref aT, .int cnt])), (aW, .inl (cW, 2048, .inl words))]) [3, 4, 5, 6] rfl
  have hDc := hD.sub (ws' := [(aR, .inr (2, [.ref aM, .ref aA, .ref aB, .int fault2_5])), (aA, .inl (cA, 8, .inl regs2_6)), (aM, .inr (1, [.ref aW, .ref aT, .int cnt])), (aW, .inl (cW, 2048, .inl words))]) [3, 4, 5, 6] (by decide) rfl
  have hKc := hK.sub (tys' := [(cA, .int), (cW, .int)]) [0, 1] rfl
  have hFc := va_free (wc := [(aR, .inr (2, [.ref aM, .ref aA, .ref aB, .int fault2_5])), (aA, .inl (cA, 8, .inl regs2_6)), (aM, .inr (1, [.ref aW, .ref aT, .int cnt])), (aW, .inl (cW, 2048, .inl words))]) hD hS hA [3, 4, 5, 6] rfl
  refine va_calli (va_runV (C := RX2) (b := aR) (As := [.int r_3, .int r_1]) (rest := []) ⟨hx, hb, hml, hown, hts⟩ (s_X2_fetch l dC dI H.size aR r_3 r_1 aM aA aB fault2_5 cA regs2_6 aW aT cnt cW words) (cwV 2 hts gX3_performOne_X2_fetch rfl rfl rfl (by decide +kernel) ⟨Nat.le_of_ble_eq_true rfl, Nat.le_of_ble_eq_true rfl⟩) ⟨q_blind, va_recv hK hP (ci := 2) (q0 := 3) rfl rfl, fun U hU hW => ⟨rfl, q_pay hU hW hPc hKc hDc hN⟩⟩ rfl rfl hl.1 rfl (lv_room (Nat.le_of_ble_eq_true rfl)) dX3_performOne_23 ⟨show 0 + 0 ≤ 0 from by omega, show 0 + 0 ≤ 0 from by omega⟩) hS (fun q _ h => hFc q h) hFc (fun r_7 u9 t H locs ht hvm hw_8 hB hz1 hk1 hS => ?_)
  obtain ⟨fault2_9, rfl⟩ : ∃ z, z = u9 := ⟨_, rfl⟩
  obtain ⟨hP1, hK1, hD1⟩ := hB
  rw [ht] at hP1
  obtain ⟨hP, hD⟩ := va_join (wr := [(aP, .inr (3, [.ref aR, .ref aF])), (aT, .inl (cT, 400, .inl told)), (aF, .inr (0, [.int fn, .int fz, .int fv, .int fc]))]) (w1 := [(aR, .inr (2, [.ref aM, .ref aA, .ref aB, .int fault2_9])), (aA, .inl (cA, 8, .inl regs2_6)), (aM, .inr (1, [.ref aW, .ref aT, .int cnt])), (aW, .inl (cW, 2048, .inl words))]) hP hD [3, 4, 5, 6] [0, 1, 2] rfl rfl (by decide) (by decide) hk1 hFc hP1 hD1
  have hP : va_P (dC, dI) vwCl [(aP, .inr (3, [.ref aR, .ref aF])), (aT, .inl (cT, 400, .inl told)), (aF, .inr (0, [.int fn, .int fz, .int fv, .int fc])), (aR, .inr (2, [.ref aM, .ref aA, .ref aB, .int fault2_9])), (aA, .inl (cA, 8, .inl regs2_6)), (aM, .inr (1, [.ref aW, .ref aT, .int cnt])), (aW, .inl (cW, 2048, .inl words))] H := hP
  have hD : va_D A [(aP, .inr (3, [.ref aR, .ref aF])), (aT, .inl (cT, 400, .inl told)), (aF, .inr (0, [.int fn, .int fz, .int fv, .int fc])), (aR, .inr (2, [.ref aM, .ref aA, .ref aB, .int fault2_9])), (aA, .inl (cA, 8, .inl regs2_6)), (aM, .inr (1, [.ref aW, .ref aT, .int cnt])), (aW, .inl (cW, 2048, .inl words))] := hD
  refine W.widen (k := 0) (n := 0) (by omega) (by omega) ?_
  try dsimp only at hw_8
  refine lv_istore (lv' := [(5, .int r_7), (4, .int r_3), (3, .int r_1), (0, .ref aP), (1, .int k), (2, .int hd)]) hx hb dX3_performOne_26 hl (by decide) rfl (fun ls hl => ?_)
  refine lv_iload_n hx hb dX3_performOne_28 rfl (lv_at hl 5 rfl) ?_
  refine lv_bipush (v := 48) hx hb dX3_performOne_29 (by decide) ?_
  refine lv_icmp_ge (tgt := 57) hx hb dX3_performOne_31 (by decide) (fun c_10 => ?_) (fun c_10 => ?_)
  · refine lv_aload_n hx hb dX3_performOne_57 rfl (lv_at hl 3 rfl) ?_
    refine lv_iload_n hx hb dX3_performOne_58 rfl (lv_at hl 5 rfl) ?_
    refine lv_iload hx hb dX3_performOne_59 (lv_at hl 0 rfl) ?_
    refine lv_iload_n hx hb dX3_performOne_61 rfl (lv_at hl 2 rfl) ?_
    have hPc := hP.sub (ws' := [(aP, .inr (3, [.ref aR, .ref aF])), (aF, .inr (0, [.int fn, .int fz, .int fv, .int fc]))]) [0, 2] rfl
    have hDc := hD.sub (ws' := [(aP, .inr (3, [.ref aR, .ref aF])), (aF, .inr (0, [.int fn, .int fz, .int fv, .int fc]))]) [0, 2] (by decide) rfl
    have hKc := hK.sub (tys' := []) [] rfl
    have hFc := va_free (wc := [(aP, .inr (3, [.ref aR, .ref aF])), (aF, .inr (0, [.int fn, .int fz, .int fv, .int fc]))]) hD hS hA [0, 2] rfl
    refine va_calli (va_runV (C := RX3) (b := aP) (As := [.int hd, .int r_7, .int r_1]) (rest := []) ⟨hx, hb, hml, hown, hts⟩ (s_X3_shiftByOne l dC dI H.size aP hd r_7 r_1 aR aF fn fz fv fc) (cwV 3 hts gX3_performOne_X3_shiftByOne rfl rfl rfl (by decide +kernel) ⟨Nat.le_of_ble_eq_true rfl, Nat.le_of_ble_eq_true rfl⟩) ⟨q_blind, va_recv hK hP (ci := 3) (q0 := 0) rfl rfl, fun U hU hW => ⟨rfl, q_pay hU hW hPc hKc hDc hN⟩⟩ rfl rfl hl.1 rfl (lv_room (Nat.le_of_ble_eq_true rfl)) dX3_performOne_62 ⟨show 0 + 0 ≤ 0 from by omega, show 0 + 0 ≤ 0 from by omega⟩) hS (fun q _ h => hFc q h) hFc (fun r_11 u9 t H locs ht hvm hw_12 hB hz1 hk1 hS => ?_)
    obtain ⟨fn2_13, fz2_14, fv2_15, fc2_16⟩ := u9
    obtain ⟨hP1, hK1, hD1⟩ := hB
    rw [ht] at hP1
    obtain ⟨hP, hD⟩ := va_join (wr := [(aT, .inl (cT, 400, .inl told)), (aR, .inr (2, [.ref aM, .ref aA, .ref aB, .int fault2_9])), (aA, .inl (cA, 8, .inl regs2_6)), (aM, .inr (1, [.ref aW, .ref aT, .int cnt])), (aW, .inl (cW, 2048, .inl words))]) (w1 := [(aP, .inr (3, [.ref aR, .ref aF])), (aF, .inr (0, [.int fn2_13, .int fz2_14, .int fv2_15, .int fc2_16]))]) hP hD [0, 2] [1, 3, 4, 5, 6] rfl rfl (by decide) (by decide) hk1 hFc hP1 hD1
    have hP : va_P (dC, dI) vwCl [(aT, .inl (cT, 400, .inl told)), (aR, .inr (2, [.ref aM, .ref aA, .ref aB, .int fault2_9])), (aA, .inl (cA, 8, .inl regs2_6)), (aM, .inr (1, [.ref aW, .ref aT, .int cnt])), (aW, .inl (cW, 2048, .inl words)), (aP, .inr (3, [.ref aR, .ref aF])), (aF, .inr (0, [.int fn2_13, .int fz2_14, .int fv2_15, .int fc2_16]))] H := hP
    have hD : va_D A [(aT, .inl (cT, 400, .inl told)), (aR, .inr (2, [.ref aM, .ref aA, .ref aB, .int fault2_9])), (aA, .inl (cA, 8, .inl regs2_6)), (aM, .inr (1, [.ref aW, .ref aT, .int cnt])), (aW, .inl (cW, 2048, .inl words)), (aP, .inr (3, [.ref aR, .ref aF])), (aF, .inr (0, [.int fn2_13, .int fz2_14, .int fv2_15, .int fc2_16]))] := hD
    refine W.widen (k := 0) (n := 0) (by omega) (by omega) ?_
    try dsimp only at hw_12
    refine lv_istore (lv' := [(6, .int r_11), (5, .int r_7), (4, .int r_3), (3, .int r_1), (0, .ref aP), (1, .int k), (2, .int hd)]) hx hb dX3_performOne_65 hl (by decide) rfl (fun ls hl => ?_)
    refine lv_aload_n hx hb dX3_performOne_67 rfl (lv_at hl 4 rfl) ?_
    refine va_get (D := (dC, dI)) (ci := 3) (v := .ref aF) (C := RX3) (T := TX3) (N := 2) hx hb hts (by decide +kernel) hown hK hP 5 rfl rfl 1 (by decide) (hts (.fieldLink RX3 12 "WordGuest$Processor" "conditions" "LWordGuest$Flags;") (by decide +kernel)) (fun _ h9 => h9) rfl dX3_performOne_68 ?_
    refine lv_iload hx hb dX3_performOne_71 (lv_at hl 0 rfl) ?_
    refine lv_iload_n hx hb dX3_performOne_73 rfl (lv_at hl 3 rfl) ?_
    have hPc := hP.sub (ws' := [(aF, .inr (0, [.int fn2_13, .int fz2_14, .int fv2_15, .int fc2_16]))]) [6] rfl
    have hDc := hD.sub (ws' := [(aF, .inr (0, [.int fn2_13, .int fz2_14, .int fv2_15, .int fc2_16]))]) [6] (by decide) rfl
    have hKc := hK.sub (tys' := []) [] rfl
    have hFc := va_free (wc := [(aF, .inr (0, [.int fn2_13, .int fz2_14, .int fv2_15, .int fc2_16]))]) hD hS hA [6] rfl
    refine va_callv (va_runV (C := RX0) (b := aF) (As := [.int r_11, .int r_1]) (rest := []) ⟨hx, hb, hml, hown, hts⟩ (s_X0_setByResult l dC dI H.size aF r_11 r_1 fn2_13 fz2_14 fv2_15 fc2_16) (cwV 2 hts gX3_performOne_X0_setByResult rfl rfl rfl (by decide +kernel) ⟨Nat.le_of_ble_eq_true rfl, Nat.le_of_ble_eq_true rfl⟩) ⟨q_blind, va_recv hK hP (ci := 0) (q0 := 6) rfl rfl, fun U hU hW => ⟨rfl, q_pay hU hW hPc hKc hDc hN⟩⟩ rfl rfl hl.1 rfl (lv_room (Nat.le_of_ble_eq_true rfl)) dX3_performOne_74 ⟨show 0 + 0 ≤ 0 from by omega, show 0 + 0 ≤ 0 from by omega⟩) hS (fun q _ h => hFc q h) hFc (fun u9 t H locs ht hvm hw_18 hB hz1 hk1 hS => ?_)
    obtain ⟨fn2_19, fz2_20⟩ := u9
    obtain ⟨hP1, hK1, hD1⟩ := hB
    rw [ht] at hP1
    obtain ⟨hP, hD⟩ := va_join (wr := [(aT, .inl (cT, 400, .inl told)), (aR, .inr (2, [.ref aM, .ref aA, .ref aB, .int fault2_9])), (aA, .inl (cA, 8, .inl regs2_6)), (aM, .inr (1, [.ref aW, .ref aT, .int cnt])), (aW, .inl (cW, 2048, .inl words)), (aP, .inr (3, [.ref aR, .ref aF]))]) (w1 := [(aF, .inr (0, [.int fn2_19, .int fz2_20, .int fv2_15, .int fc2_16]))]) hP hD [6] [0, 1, 2, 3, 4, 5] rfl rfl (by decide) (by decide) hk1 hFc hP1 hD1
    have hP : va_P (dC, dI) vwCl [(aT, .inl (cT, 400, .inl told)), (aR, .inr (2, [.ref aM, .ref aA, .ref aB, .int fault2_9])), (aA, .inl (cA, 8, .inl regs2_6)), (aM, .inr (1, [.ref aW, .ref aT, .int cnt])), (aW, .inl (cW, 2048, .inl words)), (aP, .inr (3, [.ref aR, .ref aF])), (aF, .inr (0, [.int fn2_19, .int fz2_20, .int fv2_15, .int fc2_16]))] H := hP
    have hD : va_D A [(aT, .inl (cT, 400, .inl told)), (aR, .inr (2, [.ref aM, .ref aA, .ref aB, .int fault2_9])), (aA, .inl (cA, 8, .inl regs2_6)), (aM, .inr (1, [.ref aW, .ref aT, .int cnt])), (aW, .inl (cW, 2048, .inl words)), (aP, .inr (3, [.ref aR, .ref aF])), (aF, .inr (0, [.int fn2_19, .int fz2_20, .int fv2_15, .int fc2_16]))] := hD
    refine W.widen (k := 0) (n := 0) (by omega) (by omega) ?_
    try dsimp only at hw_18
    refine lv_aload_n hx hb dX3_performOne_77 rfl (lv_at hl 4 rfl) ?_
    refine va_get (D := (dC, dI)) (ci := 3) (v := .ref aF) (C := RX3) (T := TX3) (N := 2) hx hb hts (by decide +kernel) hown hK hP 5 rfl rfl 1 (by decide) (hts (.fieldLink RX3 12 "WordGuest$Processor" "conditions" "LWordGuest$Flags;") (by decide +kernel)) (fun _ h9 => h9) rfl dX3_performOne_78 ?_
    refine lv_aload_n hx hb dX3_performOne_81 rfl (lv_at hl 4 rfl) ?_
    refine va_get (D := (dC, dI)) (ci := 3) (v := .ref aF) (C := RX3) (T := TX3) (N := 2) hx hb hts (by decide +kernel) hown hK hP 5 rfl rfl 1 (by decide) (hts (.fieldLink RX3 12 "WordGuest$Processor" "conditions" "LWordGuest$Flags;") (by decide +kernel)) (fun _ h9 => h9) rfl dX3_performOne_82 ?_
    refine va_getN (D := (dC, dI)) (ci := 0) (v := .int fn2_19) (C := RX0) (T := TX0) (N := 4) hx hb hts (by decide +kernel) hown hK hP 6 rfl rfl 0 (by decide) ((va_Nw.use rfl (hN _ (List.mem_of_getElem? (i := 4) rfl)))) (fun _ h9 => h9) rfl dX3_performOne_85 ?_
    refine lv_aload_n hx hb dX3_performOne_88 rfl (lv_at hl 4 rfl) ?_
    refine va_get (D := (dC, dI)) (ci := 3) (v := .ref aF) (C := RX3) (T := TX3) (N := 2) hx hb hts (by decide +kernel) hown hK hP 5 rfl rfl 1 (by decide) (hts (.fieldLink RX3 12 "WordGuest$Processor" "conditions" "LWordGuest$Flags;") (by decide +kernel)) (fun _ h9 => h9) rfl dX3_performOne_89 ?_
    refine va_getN (D := (dC, dI)) (ci := 0) (v := .int fc2_16) (C := RX0) (T := TX0) (N := 4) hx hb hts (by decide +kernel) hown hK hP 6 rfl rfl 3 (by decide) ((va_Nw.use rfl (hN _ (List.mem_of_getElem? (i := 7) rfl)))) (fun _ h9 => h9) rfl dX3_performOne_92 ?_
    refine q_bool (ls := ls) 103 [.ref aF] (fun b_22 hb_23 => ?_) (fun jn => ?_)
    · refine va_putN (D := (dC, dI)) (ci := 0) (v := .int b_22) (ty := .boolean) (C := RX0) (T := TX0) (N := 4) hx hb hts (by decide +kernel) tyX0 tyX0_ok nmX0 hown hK hP hD hS 6 rfl rfl 2 (by decide) ((va_Nw.use rfl (hN _ (List.mem_of_getElem? (i := 6) rfl)))) (fun _ h9 => h9) rfl (by decide +kernel) (q_nz hb_23) (q_fz hb_23) (Nat.le_of_ble_eq_true rfl) dX3_performOne_103 (fun H locs hP hD hS => ?_)
      have hP : va_P (dC, dI) vwCl [(aT, .inl (cT, 400, .inl told)), (aR, .inr (2, [.ref aM, .ref aA, .ref aB, .int fault2_9])), (aA, .inl (cA, 8, .inl regs2_6)), (aM, .inr (1, [.ref aW, .ref aT, .int cnt])), (aW, .inl (cW, 2048, .inl words)), (aP, .inr (3, [.ref aR, .ref aF])), (aF, .inr (0, [.int fn2_19, .int fz2_20, .int b_22, .int fc2_16]))] H := hP
      have hD : va_D A [(aT, .inl (cT, 400, .inl told)), (aR, .inr (2, [.ref aM, .ref aA, .ref aB, .int fault2_9])), (aA, .inl (cA, 8, .inl regs2_6)), (aM, .inr (1, [.ref aW, .ref aT, .int cnt])), (aW, .inl (cW, 2048, .inl words)), (aP, .inr (3, [.ref aR, .ref aF])), (aF, .inr (0, [.int fn2_19, .int fz2_20, .int b_22, .int fc2_16]))] := hD
      refine lv_iload_n hx hb dX3_performOne_106 rfl (lv_at hl 6 rfl) ?_
      refine lv_bipush (v := 47) hx hb dX3_performOne_107 (by decide) ?_
      refine q_bool (ls := ls) 117 [] (fun b_25 hb_26 => ?_) (fun jn => ?_)
      · refine lv_istore (lv' := [(7, .int b_25), (6, .int r_11), (5, .int r_7), (4, .int r_3), (3, .int r_1), (0, .ref aP), (1, .int k), (2, .int hd)]) hx hb dX3_performOne_117 hl (by decide) rfl (fun ls hl => ?_)
        refine lv_iload hx hb dX3_performOne_119 (lv_at hl 0 rfl) ?_
        refine lv_if_ne (tgt := 136) hx hb dX3_performOne_121 (by decide) (fun c_27 => ?_) (fun c_27 => ?_)
        · have hP9 := hP.sub (ws' := [(aP, .inr (3, [.ref aR, .ref aF])), (aR, .inr (2, [.ref aM, .ref aA, .ref aB, .int fault2_9])), (aA, .inl (cA, 8, .inl regs2_6)), (aM, .inr (1, [.ref aW, .ref aT, .int cnt])), (aW, .inl (cW, 2048, .inl words)), (aT, .inl (cT, 400, .inl told)), (aF, .inr (0, [.int fn2_19, .int fz2_20, .int b_22, .int fc2_16]))]) [5, 1, 2, 3, 4, 0, 6] rfl
          have hD9 := hD.sub (ws' := [(aP, .inr (3, [.ref aR, .ref aF])), (aR, .inr (2, [.ref aM, .ref aA, .ref aB, .int fault2_9])), (aA, .inl (cA, 8, .inl regs2_6)), (aM, .inr (1, [.ref aW, .ref aT, .int cnt])), (aW, .inl (cW, 2048, .inl words)), (aT, .inl (cT, 400, .inl told)), (aF, .inr (0, [.int fn2_19, .int fz2_20, .int b_22, .int fc2_16]))]) [5, 1, 2, 3, 4, 0, 6] (by decide) rfl
          have hK9 := hK.sub (tys' := [(cA, .int), (cW, .int), (cT, .int)]) [0, 1, 2] rfl
          exact W.vret hx hb hr (fun t ht hW => ⟨⟨(fault2_9, regs2_6, cnt, words, told, fn2_19, fz2_20, b_22, fc2_16), rfl, h4, by rw [ht]; exact hP9, va_K.moved hW.alike hK9, hD9⟩, hS.F ht⟩) hS.2.2 dX3_performOne_136
        · refine lv_aload_n hx hb dX3_performOne_124 rfl (lv_at hl 5 rfl) ?_
          refine va_get (D := (dC, dI)) (ci := 3) (v := .ref aR) (C := RX3) (T := TX3) (N := 2) hx hb hts (by decide +kernel) hown hK hP 5 rfl rfl 0 (by decide) (hts (.fieldLink RX3 23 "WordGuest$Processor" "parts" "LWordGuest$Parts;") (by decide +kernel)) (fun _ h9 => h9) rfl dX3_performOne_125 ?_
          refine lv_iload hx hb dX3_performOne_128 (lv_at hl 3 rfl) ?_
          refine lv_iload_n hx hb dX3_performOne_130 rfl (lv_at hl 4 rfl) ?_
          refine lv_iload hx hb dX3_performOne_131 (lv_at hl 1 rfl) ?_
          have hPc := hP.sub (ws' := [(aR, .inr (2, [.ref aM, .ref aA, .ref aB, .int fault2_9])), (aA, .inl (cA, 8, .inl regs2_6)), (aM, .inr (1, [.ref aW, .ref aT, .int cnt])), (aW, .inl (cW, 2048, .inl words)), (aT, .inl (cT, 400, .inl told))]) [1, 2, 3, 4, 0] rfl
          have hDc := hD.sub (ws' := [(aR, .inr (2, [.ref aM, .ref aA, .ref aB, .int fault2_9])), (aA, .inl (cA, 8, .inl regs2_6)), (aM, .inr (1, [.ref aW, .ref aT, .int cnt])), (aW, .inl (cW, 2048, .inl words)), (aT, .inl (cT, 400, .inl told))]) [1, 2, 3, 4, 0] (by decide) rfl
          have hKc := hK.sub (tys' := [(cA, .int), (cW, .int), (cT, .int)]) [0, 1, 2] rfl
          have hFc := va_free (wc := [(aR, .inr (2, [.ref aM, .ref aA, .ref aB, .int fault2_9])), (aA, .inl (cA, 8, .inl regs2_6)), (aM, .inr (1, [.ref aW, .ref aT, .int cnt])), (aW, .inl (cW, 2048, .inl words)), (aT, .inl (cT, 400, .inl told))]) hD hS hA [1, 2, 3, 4, 0] rfl
          refine va_callv (va_runV (C := RX2) (b := aR) (As := [.int r_3, .int r_1, .int r_11]) (rest := []) ⟨hx, hb, hml, hown, hts⟩ (s_X2_store l dC dI H.size aR r_3 r_1 r_11 aM aA aB fault2_9 cA regs2_6 aW aT cnt cW words cT told h4) (cwV 3 hts gX3_performOne_X2_store rfl rfl rfl (by decide +kernel) ⟨Nat.le_of_ble_eq_true rfl, Nat.le_of_ble_eq_true rfl⟩) ⟨q_blind, va_recv hK hP (ci := 2) (q0 := 1) rfl rfl, fun U hU hW => ⟨rfl, q_pay hU hW hPc hKc hDc hN⟩⟩ rfl rfl hl.1 rfl (lv_room (Nat.le_of_ble_eq_true rfl)) dX3_performOne_133 ⟨show 0 + 0 ≤ 0 from by omega, show 0 + 0 ≤ 0 from by omega⟩) hS (fun q _ h => hFc q h) hFc (fun u9 t H locs ht hvm hw_29 hB hz1 hk1 hS => ?_)
          obtain ⟨fault2_30, regs2_31, cnt2_32, words2_33, told2_34⟩ := u9
          obtain ⟨hP1, hK1, hD1⟩ := hB
          rw [ht] at hP1
          obtain ⟨hP, hD⟩ := va_join (wr := [(aP, .inr (3, [.ref aR, .ref aF])), (aF, .inr (0, [.int fn2_19, .int fz2_20, .int b_22, .int fc2_16]))]) (w1 := [(aR, .inr (2, [.ref aM, .ref aA, .ref aB, .int fault2_30])), (aA, .inl (cA, 8, .inl regs2_31)), (aM, .inr (1, [.ref aW, .ref aT, .int cnt2_32])), (aW, .inl (cW, 2048, .inl words2_33)), (aT, .inl (cT, 400, .inl told2_34))]) hP hD [1, 2, 3, 4, 0] [5, 6] rfl rfl (by decide) (by decide) hk1 hFc hP1 hD1
          have hP : va_P (dC, dI) vwCl [(aP, .inr (3, [.ref aR, .ref aF])), (aF, .inr (0, [.int fn2_19, .int fz2_20, .int b_22, .int fc2_16])), (aR, .inr (2, [.ref aM, .ref aA, .ref aB, .int fault2_30])), (aA, .inl (cA, 8, .inl regs2_31)), (aM, .inr (1, [.ref aW, .ref aT, .int cnt2_32])), (aW, .inl (cW, 2048, .inl words2_33)), (aT, .inl (cT, 400, .inl told2_34))] H := hP
          have hD : va_D A [(aP, .inr (3, [.ref aR, .ref aF])), (aF, .inr (0, [.int fn2_19, .int fz2_20, .int b_22, .int fc2_16])), (aR, .inr (2, [.ref aM, .ref aA, .ref aB, .int fault2_30])), (aA, .inl (cA, 8, .inl regs2_31)), (aM, .inr (1, [.ref aW, .ref aT, .int cnt2_32])), (aW, .inl (cW, 2048, .inl words2_33)), (aT, .inl (cT, 400, .inl told2_34))] := hD
          refine W.widen (k := 0) (n := 0) (by omega) (by omega) ?_
          try dsimp only at hw_29
          have hP9 := hP.sub (ws' := [(aP, .inr (3, [.ref aR, .ref aF])), (aR, .inr (2, [.ref aM, .ref aA, .ref aB, .int fault2_30])), (aA, .inl (cA, 8, .inl regs2_31)), (aM, .inr (1, [.ref aW, .ref aT, .int cnt2_32])), (aW, .inl (cW, 2048, .inl words2_33)), (aT, .inl (cT, 400, .inl told2_34)), (aF, .inr (0, [.int fn2_19, .int fz2_20, .int b_22, .int fc2_16]))]) [0, 2, 3, 4, 5, 6, 1] rfl
          have hD9 := hD.sub (ws' := [(aP, .inr (3, [.ref aR, .ref aF])), (aR, .inr (2, [.ref aM, .ref aA, .ref aB, .int fault2_30])), (aA, .inl (cA, 8, .inl regs2_31)), (aM, .inr (1, [.ref aW, .ref aT, .int cnt2_32])), (aW, .inl (cW, 2048, .inl words2_33)), (aT, .inl (cT, 400, .inl told2_34)), (aF, .inr (0, [.int fn2_19, .int fz2_20, .int b_22, .int fc2_16]))]) [0, 2, 3, 4, 5, 6, 1] (by decide) rfl
          have hK9 := hK.sub (tys' := [(cA, .int), (cW, .int), (cT, .int)]) [0, 1, 2] rfl
          exact W.vret hx hb hr (fun t ht hW => ⟨⟨(fault2_30, regs2_31, cnt2_32, words2_33, told2_34, fn2_19, fz2_20, b_22, fc2_16), rfl, hw_29, by rw [ht]; exact hP9, va_K.moved hW.alike hK9, hD9⟩, hS.F ht⟩) hS.2.2 dX3_performOne_136
      refine lv_icmp_ne (tgt := 116) hx hb dX3_performOne_109 (by decide) (fun c_24 => ?_) (fun c_24 => ?_)
      · refine lv_iconst (v := 0) hx hb dX3_performOne_116 (by decide) ?_
        exact jn _ (Or.inl rfl)
      · refine lv_iconst (v := 1) hx hb dX3_performOne_112 (by decide) ?_
        refine lv_goto (tgt := 117) hx hb dX3_performOne_113 (by decide) ?_
        exact jn _ (Or.inr rfl)
    refine lv_icmp_eq (tgt := 102) hx hb dX3_performOne_95 (by decide) (fun c_21 => ?_) (fun c_21 => ?_)
    · refine lv_iconst (v := 0) hx hb dX3_performOne_102 (by decide) ?_
      exact jn _ (Or.inl rfl)
    · refine lv_iconst (v := 1) hx hb dX3_performOne_98 (by decide) ?_
      refine lv_goto (tgt := 103) hx hb dX3_performOne_99 (by decide) ?_
      exact jn _ (Or.inr rfl)
  · refine lv_aload_n hx hb dX3_performOne_34 rfl (lv_at hl 3 rfl) ?_
    refine lv_iload_n hx hb dX3_performOne_35 rfl (lv_at hl 5 rfl) ?_
    refine lv_iload hx hb dX3_performOne_36 (lv_at hl 0 rfl) ?_
    refine lv_iload_n hx hb dX3_performOne_38 rfl (lv_at hl 2 rfl) ?_
    have hPc := hP.sub (ws' := [(aP, .inr (3, [.ref aR, .ref aF])), (aF, .inr (0, [.int fn, .int fz, .int fv, .int fc]))]) [0, 2] rfl
    have hDc := hD.sub (ws' := [(aP, .inr (3, [.ref aR, .ref aF])), (aF, .inr (0, [.int fn, .int fz, .int fv, .int fc]))]) [0, 2] (by decide) rfl
    have hKc := hK.sub (tys' := []) [] rfl
    have hFc := va_free (wc := [(aP, .inr (3, [.ref aR, .ref aF])), (aF, .inr (0, [.int fn, .int fz, .int fv, .int fc]))]) hD hS hA [0, 2] rfl
    refine va_calli (va_runV (C := RX3) (b := aP) (As := [.int hd, .int r_7, .int r_1]) (rest := []) ⟨hx, hb, hml, hown, hts⟩ (s_X3_count l dC dI H.size aP hd r_7 r_1 aR aF fn fz fv fc) (cwV 3 hts gX3_performOne_X3_count rfl rfl rfl (by decide +kernel) ⟨Nat.le_of_ble_eq_true rfl, Nat.le_of_ble_eq_true rfl⟩) ⟨q_blind, va_recv hK hP (ci := 3) (q0 := 0) rfl rfl, fun U hU hW => ⟨rfl, q_pay hU hW hPc hKc hDc hN⟩⟩ rfl rfl hl.1 rfl (lv_room (Nat.le_of_ble_eq_true rfl)) dX3_performOne_39 ⟨show 0 + 0 ≤ 0 from by omega, show 0 + 0 ≤ 0 from by omega⟩) hS (fun q _ h => hFc q h) hFc (fun r_35 u9 t H locs ht hvm hw_36 hB hz1 hk1 hS => ?_)
    obtain ⟨fn2_37, fz2_38, fv2_39, fc2_40⟩ := u9
    obtain ⟨hP1, hK1, hD1⟩ := hB
    rw [ht] at hP1
    obtain ⟨hP, hD⟩ := va_join (wr := [(aT, .inl (cT, 400, .inl told)), (aR, .inr (2, [.ref aM, .ref aA, .ref aB, .int fault2_9])), (aA, .inl (cA, 8, .inl regs2_6)), (aM, .inr (1, [.ref aW, .ref aT, .int cnt])), (aW, .inl (cW, 2048, .inl words))]) (w1 := [(aP, .inr (3, [.ref aR, .ref aF])), (aF, .inr (0, [.int fn2_37, .int fz2_38, .int fv2_39, .int fc2_40]))]) hP hD [0, 2] [1, 3, 4, 5, 6] rfl rfl (by decide) (by decide) hk1 hFc hP1 hD1
    have hP : va_P (dC, dI) vwCl [(aT, .inl (cT, 400, .inl told)), (aR, .inr (2, [.ref aM, .ref aA, .ref aB, .int fault2_9])), (aA, .inl (cA, 8, .inl regs2_6)), (aM, .inr (1, [.ref aW, .ref aT, .int cnt])), (aW, .inl (cW, 2048, .inl words)), (aP, .inr (3, [.ref aR, .ref aF])), (aF, .inr (0, [.int fn2_37, .int fz2_38, .int fv2_39, .int fc2_40]))] H := hP
    have hD : va_D A [(aT, .inl (cT, 400, .inl told)), (aR, .inr (2, [.ref aM, .ref aA, .ref aB, .int fault2_9])), (aA, .inl (cA, 8, .inl regs2_6)), (aM, .inr (1, [.ref aW, .ref aT, .int cnt])), (aW, .inl (cW, 2048, .inl words)), (aP, .inr (3, [.ref aR, .ref aF])), (aF, .inr (0, [.int fn2_37, .int fz2_38, .int fv2_39, .int fc2_40]))] := hD
    refine W.widen (k := 0) (n := 0) (by omega) (by omega) ?_
    try dsimp only at hw_36
    refine lv_istore (lv' := [(6, .int r_35), (5, .int r_7), (4, .int r_3), (3, .int r_1), (0, .ref aP), (1, .int k), (2, .int hd)]) hx hb dX3_performOne_42 hl (by decide) rfl (fun ls hl => ?_)
    refine lv_aload_n hx hb dX3_performOne_44 rfl (lv_at hl 4 rfl) ?_
    refine va_get (D := (dC, dI)) (ci := 3) (v := .ref aF) (C := RX3) (T := TX3) (N := 2) hx hb hts (by decide +kernel) hown hK hP 5 rfl rfl 1 (by decide) (hts (.fieldLink RX3 12 "WordGuest$Processor" "conditions" "LWordGuest$Flags;") (by decide +kernel)) (fun _ h9 => h9) rfl dX3_performOne_45 ?_
    refine lv_iload hx hb dX3_performOne_48 (lv_at hl 0 rfl) ?_
    refine lv_iload_n hx hb dX3_performOne_50 rfl (lv_at hl 3 rfl) ?_
    have hPc := hP.sub (ws' := [(aF, .inr (0, [.int fn2_37, .int fz2_38, .int fv2_39, .int fc2_40]))]) [6] rfl
    have hDc := hD.sub (ws' := [(aF, .inr (0, [.int fn2_37, .int fz2_38, .int fv2_39, .int fc2_40]))]) [6] (by decide) rfl
    have hKc := hK.sub (tys' := []) [] rfl
    have hFc := va_free (wc := [(aF, .inr (0, [.int fn2_37, .int fz2_38, .int fv2_39, .int fc2_40]))]) hD hS hA [6] rfl
    refine va_callv (va_runV (C := RX0) (b := aF) (As := [.int r_35, .int r_1]) (rest := []) ⟨hx, hb, hml, hown, hts⟩ (s_X0_setByResult l dC dI H.size aF r_35 r_1 fn2_37 fz2_38 fv2_39 fc2_40) (cwV 2 hts gX3_performOne_X0_setByResult rfl rfl rfl (by decide +kernel) ⟨Nat.le_of_ble_eq_true rfl, Nat.le_of_ble_eq_true rfl⟩) ⟨q_blind, va_recv hK hP (ci := 0) (q0 := 6) rfl rfl, fun U hU hW => ⟨rfl, q_pay hU hW hPc hKc hDc hN⟩⟩ rfl rfl hl.1 rfl (lv_room (Nat.le_of_ble_eq_true rfl)) dX3_performOne_51 ⟨show 0 + 0 ≤ 0 from by omega, show 0 + 0 ≤ 0 from by omega⟩) hS (fun q _ h => hFc q h) hFc (fun u9 t H locs ht hvm hw_42 hB hz1 hk1 hS => ?_)
    obtain ⟨fn2_43, fz2_44⟩ := u9
    obtain ⟨hP1, hK1, hD1⟩ := hB
    rw [ht] at hP1
    obtain ⟨hP, hD⟩ := va_join (wr := [(aT, .inl (cT, 400, .inl told)), (aR, .inr (2, [.ref aM, .ref aA, .ref aB, .int fault2_9])), (aA, .inl (cA, 8, .inl regs2_6)), (aM, .inr (1, [.ref aW, .ref aT, .int cnt])), (aW, .inl (cW, 2048, .inl words)), (aP, .inr (3, [.ref aR, .ref aF]))]) (w1 := [(aF, .inr (0, [.int fn2_43, .int fz2_44, .int fv2_39, .int fc2_40]))]) hP hD [6] [0, 1, 2, 3, 4, 5] rfl rfl (by decide) (by decide) hk1 hFc hP1 hD1
    have hP : va_P (dC, dI) vwCl [(aT, .inl (cT, 400, .inl told)), (aR, .inr (2, [.ref aM, .ref aA, .ref aB, .int fault2_9])), (aA, .inl (cA, 8, .inl regs2_6)), (aM, .inr (1, [.ref aW, .ref aT, .int cnt])), (aW, .inl (cW, 2048, .inl words)), (aP, .inr (3, [.ref aR, .ref aF])), (aF, .inr (0, [.int fn2_43, .int fz2_44, .int fv2_39, .int fc2_40]))] H := hP
    have hD : va_D A [(aT, .inl (cT, 400, .inl told)), (aR, .inr (2, [.ref aM, .ref aA, .ref aB, .int fault2_9])), (aA, .inl (cA, 8, .inl regs2_6)), (aM, .inr (1, [.ref aW, .ref aT, .int cnt])), (aW, .inl (cW, 2048, .inl words)), (aP, .inr (3, [.ref aR, .ref aF])), (aF, .inr (0, [.int fn2_43, .int fz2_44, .int fv2_39, .int fc2_40]))] := hD
    refine W.widen (k := 0) (n := 0) (by omega) (by omega) ?_
    try dsimp only at hw_42
    refine lv_goto (tgt := 106) hx hb dX3_performOne_54 (by decide) ?_
    refine lv_iload_n hx hb dX3_performOne_106 rfl (lv_at hl 6 rfl) ?_
    refine lv_bipush (v := 47) hx hb dX3_performOne_107 (by decide) ?_
    refine q_bool (ls := ls) 117 [] (fun b_46 hb_47 => ?_) (fun jn => ?_)
    · refine lv_istore (lv' := [(7, .int b_46), (6, .int r_35), (5, .int r_7), (4, .int r_3), (3, .int r_1), (0, .ref aP), (1, .int k), (2, .int hd)]) hx hb dX3_performOne_117 hl (by decide) rfl (fun ls hl => ?_)
      refine lv_iload hx hb dX3_performOne_119 (lv_at hl 0 rfl) ?_
      refine lv_if_ne (tgt := 136) hx hb dX3_performOne_121 (by decide) (fun c_48 => ?_) (fun c_48 => ?_)
      · have hP9 := hP.sub (ws' := [(aP, .inr (3, [.ref aR, .ref aF])), (aR, .inr (2, [.ref aM, .ref aA, .ref aB, .int fault2_9])), (aA, .inl (cA, 8, .inl regs2_6)), (aM, .inr (1, [.ref aW, .ref aT, .int cnt])), (aW, .inl (cW, 2048, .inl words)), (aT, .inl (cT, 400, .inl told)), (aF, .inr (0, [.int fn2_43, .int fz2_44, .int fv2_39, .int fc2_40]))]) [5, 1, 2, 3, 4, 0, 6] rfl
        have hD9 := hD.sub (ws' := [(aP, .inr (3, [.ref aR, .ref aF])), (aR, .inr (2, [.ref aM, .ref aA, .ref aB, .int fault2_9])), (aA, .inl (cA, 8, .inl regs2_6)), (aM, .inr (1, [.ref aW, .ref aT, .int cnt])), (aW, .inl (cW, 2048, .inl words)), (aT, .inl (cT, 400, .inl told)), (aF, .inr (0, [.int fn2_43, .int fz2_44, .int fv2_39, .int fc2_40]))]) [5, 1, 2, 3, 4, 0, 6] (by decide) rfl
        have hK9 := hK.sub (tys' := [(cA, .int), (cW, .int), (cT, .int)]) [0, 1, 2] rfl
        exact W.vret hx hb hr (fun t ht hW => ⟨⟨(fault2_9, regs2_6, cnt, words, told, fn2_43, fz2_44, fv2_39, fc2_40), rfl, h4, by rw [ht]; exact hP9, va_K.moved hW.alike hK9, hD9⟩, hS.F ht⟩) hS.2.2 dX3_performOne_136
      · refine lv_aload_n hx hb dX3_performOne_124 rfl (lv_at hl 5 rfl) ?_
        refine va_get (D := (dC, dI)) (ci := 3) (v := .ref aR) (C := RX3) (T := TX3) (N := 2) hx hb hts (by decide +kernel) hown hK hP 5 rfl rfl 0 (by decide) (hts (.fieldLink RX3 23 "WordGuest$Processor" "parts" "LWordGuest$Parts;") (by decide +kernel)) (fun _ h9 => h9) rfl dX3_performOne_125 ?_
        refine lv_iload hx hb dX3_performOne_128 (lv_at hl 3 rfl) ?_
        refine lv_iload_n hx hb dX3_performOne_130 rfl (lv_at hl 4 rfl) ?_
        refine lv_iload hx hb dX3_performOne_131 (lv_at hl 1 rfl) ?_
        have hPc := hP.sub (ws' := [(aR, .inr (2, [.ref aM, .ref aA, .ref aB, .int fault2_9])), (aA, .inl (cA, 8, .inl regs2_6)), (aM, .inr (1, [.ref aW, .ref aT, .int cnt])), (aW, .inl (cW, 2048, .inl words)), (aT, .inl (cT, 400, .inl told))]) [1, 2, 3, 4, 0] rfl
        have hDc := hD.sub (ws' := [(aR, .inr (2, [.ref aM, .ref aA, .ref aB, .int fault2_9])), (aA, .inl (cA, 8, .inl regs2_6)), (aM, .inr (1, [.ref aW, .ref aT, .int cnt])), (aW, .inl (cW, 2048, .inl words)), (aT, .inl (cT, 400, .inl told))]) [1, 2, 3, 4, 0] (by decide) rfl
        have hKc := hK.sub (tys' := [(cA, .int), (cW, .int), (cT, .int)]) [0, 1, 2] rfl
        have hFc := va_free (wc := [(aR, .inr (2, [.ref aM, .ref aA, .ref aB, .int fault2_9])), (aA, .inl (cA, 8, .inl regs2_6)), (aM, .inr (1, [.ref aW, .ref aT, .int cnt])), (aW, .inl (cW, 2048, .inl words)), (aT, .inl (cT, 400, .inl told))]) hD hS hA [1, 2, 3, 4, 0] rfl
        refine va_callv (va_runV (C := RX2) (b := aR) (As := [.int r_3, .int r_1, .int r_35]) (rest := []) ⟨hx, hb, hml, hown, hts⟩ (s_X2_store l dC dI H.size aR r_3 r_1 r_35 aM aA aB fault2_9 cA regs2_6 aW aT cnt cW words cT told h4) (cwV 3 hts gX3_performOne_X2_store rfl rfl rfl (by decide +kernel) ⟨Nat.le_of_ble_eq_true rfl, Nat.le_of_ble_eq_true rfl⟩) ⟨q_blind, va_recv hK hP (ci := 2) (q0 := 1) rfl rfl, fun U hU hW => ⟨rfl, q_pay hU hW hPc hKc hDc hN⟩⟩ rfl rfl hl.1 rfl (lv_room (Nat.le_of_ble_eq_true rfl)) dX3_performOne_133 ⟨show 0 + 0 ≤ 0 from by omega, show 0 + 0 ≤ 0 from by omega⟩) hS (fun q _ h => hFc q h) hFc (fun u9 t H locs ht hvm hw_50 hB hz1 hk1 hS => ?_)
        obtain ⟨fault2_51, regs2_52, cnt2_53, words2_54, told2_55⟩ := u9
        obtain ⟨hP1, hK1, hD1⟩ := hB
        rw [ht] at hP1
        obtain ⟨hP, hD⟩ := va_join (wr := [(aP, .inr (3, [.ref aR, .ref aF])), (aF, .inr (0, [.int fn2_43, .int fz2_44, .int fv2_39, .int fc2_40]))]) (w1 := [(aR, .inr (2, [.ref aM, .ref aA, .ref aB, .int fault2_51])), (aA, .inl (cA, 8, .inl regs2_52)), (aM, .inr (1, [.ref aW, .ref aT, .int cnt2_53])), (aW, .inl (cW, 2048, .inl words2_54)), (aT, .inl (cT, 400, .inl told2_55))]) hP hD [1, 2, 3, 4, 0] [5, 6] rfl rfl (by decide) (by decide) hk1 hFc hP1 hD1
        have hP : va_P (dC, dI) vwCl [(aP, .inr (3, [.ref aR, .ref aF])), (aF, .inr (0, [.int fn2_43, .int fz2_44, .int fv2_39, .int fc2_40])), (aR, .inr (2, [.ref aM, .ref aA, .ref aB, .int fault2_51])), (aA, .inl (cA, 8, .inl regs2_52)), (aM, .inr (1, [.ref aW, .ref aT, .int cnt2_53])), (aW, .inl (cW, 2048, .inl words2_54)), (aT, .inl (cT, 400, .inl told2_55))] H := hP
        have hD : va_D A [(aP, .inr (3, [.ref aR, .ref aF])), (aF, .inr (0, [.int fn2_43, .int fz2_44, .int fv2_39, .int fc2_40])), (aR, .inr (2, [.ref aM, .ref aA, .ref aB, .int fault2_51])), (aA, .inl (cA, 8, .inl regs2_52)), (aM, .inr (1, [.ref aW, .ref aT, .int cnt2_53])), (aW, .inl (cW, 2048, .inl words2_54)), (aT, .inl (cT, 400, .inl told2_55))] := hD
        refine W.widen (k := 0) (n := 0) (by omega) (by omega) ?_
        try dsimp only at hw_50
        have hP9 := hP.sub (ws' := [(aP, .inr (3, [.ref aR, .ref aF])), (aR, .inr (2, [.ref aM, .ref aA, .ref aB, .int fault2_51])), (aA, .inl (cA, 8, .inl regs2_52)), (aM, .inr (1, [.ref aW, .ref aT, .int cnt2_53])), (aW, .inl (cW, 2048, .inl words2_54)), (aT, .inl (cT, 400, .inl told2_55)), (aF, .inr (0, [.int fn2_43, .int fz2_44, .int fv2_39, .int fc2_40]))]) [0, 2, 3, 4, 5, 6, 1] rfl
        have hD9 := hD.sub (ws' := [(aP, .inr (3, [.ref aR, .ref aF])), (aR, .inr (2, [.ref aM, .ref aA, .ref aB, .int fault2_51])), (aA, .inl (cA, 8, .inl regs2_52)), (aM, .inr (1, [.ref aW, .ref aT, .int cnt2_53])), (aW, .inl (cW, 2048, .inl words2_54)), (aT, .inl (cT, 400, .inl told2_55)), (aF, .inr (0, [.int fn2_43, .int fz2_44, .int fv2_39, .int fc2_40]))]) [0, 2, 3, 4, 5, 6, 1] (by decide) rfl
        have hK9 := hK.sub (tys' := [(cA, .int), (cW, .int), (cT, .int)]) [0, 1, 2] rfl
        exact W.vret hx hb hr (fun t ht hW => ⟨⟨(fault2_51, regs2_52, cnt2_53, words2_54, told2_55, fn2_43, fz2_44, fv2_39, fc2_40), rfl, hw_50, by rw [ht]; exact hP9, va_K.moved hW.alike hK9, hD9⟩, hS.F ht⟩) hS.2.2 dX3_performOne_136
    refine lv_icmp_ne (tgt := 116) hx hb dX3_performOne_109 (by decide) (fun c_45 => ?_) (fun c_45 => ?_)
    · refine lv_iconst (v := 0) hx hb dX3_performOne_116 (by decide) ?_
      exact jn _ (Or.inl rfl)
    · refine lv_iconst (v := 1) hx hb dX3_performOne_112 (by decide) ?_
      refine lv_goto (tgt := 117) hx hb dX3_performOne_113 (by decide) ?_
      exact jn _ (Or.inr rfl)
set_option maxHeartbeats 4000000 in
set_option maxRecDepth 100000 in
theorem s_X3_exchangeBytes (l : Launch) (dC : Nat → ClassId) (dI : Nat → Nat → Nat) (sz : Nat) (aP : Nat) (k : Int32) (aR : Nat) (aF : Nat) (aM : Nat) (aA : Nat) (aB : Nat) (fault : Int32) (cA : ClassId) (regs : Nat → Int32) (aW : Nat) (aT : Nat) (cnt : Int32) (cW : ClassId) (words : Nat → Int32) (cT : ClassId) (told : Nat → Int32) (fn : Int32) (fz : Int32) (fv : Int32) (fc : Int32) (h4 : ok4 cnt) : Met l yX3_exchangeBytes wsX3_exchangeBytes ({ frames := 3, cells := 0, slots := 0, locals := 68 }) (va_Pc [.ref aP, .int k] (q_pre dC dI sz [(aP, .inr (3, [.ref aR, .ref aF])), (aR, .inr (2, [.ref aM, .ref aA, .ref aB, .int fault])), (aA, .inl (cA, 8, .inl regs)), (aM, .inr (1, [.ref aW, .ref aT, .int cnt])), (aW, .inl (cW, 2048, .inl words)), (aT, .inl (cT, 400, .inl told)), (aF, .inr (0, [.int fn, .int fz, .int fv, .int fc]))] [(cA, .int), (cW, .int), (cT, .int)])) (va_Qv (fun (u9 : Int32 × (Nat → Int32) × Int32 × (Nat → Int32) × (Nat → Int32) × Int32 × Int32 × Int32 × Int32) => ok4 u9.2.2.1) (q_at dC dI (va_A [(aP, .inr (3, [.ref aR, .ref aF])), (aR, .inr (2, [.ref aM, .ref aA, .ref aB, .int fault])), (aA, .inl (cA, 8, .inl regs)), (aM, .inr (1, [.ref aW, .ref aT, .int cnt])), (aW, .inl (cW, 2048, .inl words)), (aT, .inl (cT, 400, .inl told)), (aF, .inr (0, [.int fn, .int fz, .int fv, .int fc]))] sz) (fun (u9 : Int32 × (Nat → Int32) × Int32 × (Nat → Int32) × (Nat → Int32) × Int32 × Int32 × Int32 × Int32) => [(cA, .int), (cW, .int), (cT, .int)]) (fun (u9 : Int32 × (Nat → Int32) × Int32 × (Nat → Int32) × (Nat → Int32) × Int32 × Int32 × Int32 × Int32) => [(aP, .inr (3, [.ref aR, .ref aF])), (aR, .inr (2, [.ref aM, .ref aA, .ref aB, .int u9.1])), (aA, .inl (cA, 8, .inl u9.2.1)), (aM, .inr (1, [.ref aW, .ref aT, .int u9.2.2.1])), (aW, .inl (cW, 2048, .inl u9.2.2.2.1)), (aT, .inl (cT, 400, .inl u9.2.2.2.2.1)), (aF, .inr (0, [.int u9.2.2.2.2.2.1, .int u9.2.2.2.2.2.2.1, .int u9.2.2.2.2.2.2.2.1, .int u9.2.2.2.2.2.2.2.2]))])) (va_A [(aP, .inr (3, [.ref aR, .ref aF])), (aR, .inr (2, [.ref aM, .ref aA, .ref aB, .int fault])), (aA, .inl (cA, 8, .inl regs)), (aM, .inr (1, [.ref aW, .ref aT, .int cnt])), (aW, .inl (cW, 2048, .inl words)), (aT, .inl (cT, 400, .inl told)), (aF, .inr (0, [.int fn, .int fz, .int fv, .int fc]))] sz)) 0 0 (va_A [(aP, .inr (3, [.ref aR, .ref aF])), (aR, .inr (2, [.ref aM, .ref aA, .ref aB, .int fault])), (aA, .inl (cA, 8, .inl regs)), (aM, .inr (1, [.ref aW, .ref aT, .int cnt])), (aW, .inl (cW, 2048, .inl words)), (aT, .inl (cT, 400, .inl told)), (aF, .inr (0, [.int fn, .int fz, .int fv, .int fc]))] sz) := by
  refine Met.ofW (cc := cX3_exchangeBytes) (maxL := 5) (ret := none) (by decide) rfl ?_
  intro p e s m args below meth c s₁ B hml hv
  obtain ⟨rfl, hsz, hP, hK, hD0, hN⟩ := hv
  have hx := B.exec
  have hb := B.bytes
  have hr := B.returns
  have hts := atoms_spec (ws := wsX3_exchangeBytes) B.pre
  have hown : s.vm.findClass RX3 = some m.cls := findClass_of_methodNamed B.named
  have hlocks := B.notSynchronized
  subst hsz
  have hD := hD0.self (sz := s.heap.size)
  generalize hAe : va_A [(aP, .inr (3, [.ref aR, .ref aF])), (aR, .inr (2, [.ref aM, .ref aA, .ref aB, .int fault])), (aA, .inl (cA, 8, .inl regs)), (aM, .inr (1, [.ref aW, .ref aT, .int cnt])), (aW, .inl (cW, 2048, .inl words)), (aT, .inl (cT, 400, .inl told)), (aF, .inr (0, [.int fn, .int fz, .int fv, .int fc]))] s.heap.size = A at hD ⊢
  have hA : ∀ q : Nat, s.heap.size ≤ q → A q := fun q h => by rw [← hAe]; exact Or.inr h
  have hS : va_S A s.heap s.heap [] := va_S.rf
  have hP : va_P (dC, dI) vwCl [(aP, .inr (3, [.ref aR, .ref aF])), (aR, .inr (2, [.ref aM, .ref aA, .ref aB, .int fault])), (aA, .inl (cA, 8, .inl regs)), (aM, .inr (1, [.ref aW, .ref aT, .int cnt])), (aW, .inl (cW, 2048, .inl words)), (aT, .inl (cT, 400, .inl told)), (aF, .inr (0, [.int fn, .int fz, .int fv, .int fc]))] s.heap := hP
  have hl := lv_entry ([.ref aP, .int k]) (n := 5) (Nat.le_of_ble_eq_true rfl)
  rw [lg_entry_eq]
  generalize (lg_sl ([.ref aP, .int k]) ++ List.replicate (5 - (lg_sl ([.ref aP, .int k])).length) Slot.unset).toArray = ls at hl ⊢
  have hl : lv_has ls 5 [(0, .ref aP), (1, .int k)] := hl
  refine lv_aload_n hx hb dX3_exchangeBytes_0 rfl (lv_at hl 0 rfl) ?_
  refine va_get (D := (dC, dI)) (ci := 3) (v := .ref aR) (C := RX3) (T := TX3) (N := 2) hx hb hts (by decide +kernel) hown hK hP 0 rfl rfl 0 (by decide) (hts (.fieldLink RX3 23 "WordGuest$Processor" "parts" "LWordGuest$Parts;") (by decide +kernel)) (fun _ h9 => h9) rfl dX3_exchangeBytes_1 ?_
  refine lv_iload_n hx hb dX3_exchangeBytes_4 rfl (lv_at hl 1 rfl) ?_
  refine lv_ldc (v := 65535) hx hb hown (hts (.constant RX3 69 (65535)) (by decide +kernel)) dX3_exchangeBytes_5 ?_
  have hPc := hP.sub (ws' := [(aR, .inr (2, [.ref aM, .ref aA, .ref aB, .int fault])), (aA, .inl (cA, 8, .inl regs)), (aM, .inr (1, [.ref aW, .ref aT, .int cnt])), (aW, .inl (cW, 2048, .inl words))]) [1, 2, 3, 4] rfl
  have hDc := hD.sub (ws' := [(aR, .inr (2, [.ref aM, .ref aA, .ref aB, .int fault])), (aA, .inl (cA, 8, .inl regs)), (aM, .inr (1, [.ref aW, .ref aT, .int cnt])), (aW, .inl (cW, 2048, .inl words))]) [1, 2, 3, 4] (by decide) rfl
  have hKc := hK.sub (tys' := [(cA, .int), (cW, .int)]) [0, 1] rfl
  have hFc := va_free (wc := [(aR, .inr (2, [.ref aM, .ref aA, .ref aB, .int fault])), (aA, .inl (cA, 8, .inl regs)), (aM, .inr (1, [.ref aW, .ref aT, .int cnt])), (aW, .inl (cW, 2048, .inl words))]) hD hS hA [1, 2, 3, 4] rfl
  refine va_calli (va_runV (C := RX2) (b := aR) (As := [.int k, .int 65535]) (rest := []) ⟨hx, hb, hml, hown, hts⟩ (s_X2_locate l dC dI s.heap.size aR k (65535 : Int32) aM aA aB fault cA regs aW aT cnt cW words) (cwV 2 hts gX3_exchangeBytes_X2_locate rfl rfl rfl (by decide +kernel) ⟨Nat.le_of_ble_eq_true rfl, Nat.le_of_ble_eq_true rfl⟩) ⟨q_blind, va_recv hK hP (ci := 2) (q0 := 1) rfl rfl, fun U hU hW => ⟨rfl, q_pay hU hW hPc hKc hDc hN⟩⟩ rfl rfl hl.1 rfl (lv_room (Nat.le_of_ble_eq_true rfl)) dX3_exchangeBytes_7 ⟨show 0 + 0 ≤ 0 from by omega, show 0 + 0 ≤ 0 from by omega⟩) hS (fun q _ h => hFc q h) hFc (fun r_1 u9 t H locs ht hvm hw_2 hB hz1 hk1 hS => ?_)
  obtain ⟨fault2_3, regs2_4⟩ := u9
  obtain ⟨hP1, hK1, hD1⟩ := hB
  rw [ht] at hP1
  obtain ⟨hP, hD⟩ := va_join (wr := [(aP, .inr (3, [.ref aR, .ref aF])), (aT, .inl (cT, 400, .inl told)), (aF, .inr (0, [.int fn, .int fz, .int fv, .int fc]))]) (w1 := [(aR, .inr (2, [.ref aM, .ref aA, .ref aB, .int fault2_3])), (aA, .inl (cA, 8, .inl regs2_4)), (aM, .inr (1, [.ref aW, .ref aT, .int cnt])), (aW, .inl (cW, 2048, .inl words))]) hP hD [1, 2, 3, 4] [0, 5, 6] rfl rfl (by decide) (by decide) hk1 hFc hP1 hD1
  have hP : va_P (dC, dI) vwCl [(aP, .inr (3, [.ref aR, .ref aF])), (aT, .inl (cT, 400, .inl told)), (aF, .inr (0, [.int fn, .int fz, .int fv, .int fc])), (aR, .inr (2, [.ref aM, .ref aA, .ref aB, .int fault2_3])), (aA, .inl (cA, 8, .inl regs2_4)), (aM, .inr (1, [.ref aW, .ref aT, .int cnt])), (aW, .inl (cW, 2048, .inl words))] H := hP
  have hD : va_D A [(aP, .inr (3, [.ref aR, .ref aF])), (aT, .inl (cT, 400, .inl told)), (aF, .inr (0, [.int fn, .int fz, .int fv, .int fc])), (aR, .inr (2, [.ref aM, .ref aA, .ref aB, .int fault2_3])), (aA, .inl (cA, 8, .inl regs2_4)), (aM, .inr (1, [.ref aW, .ref aT, .int cnt])), (aW, .inl (cW, 2048, .inl words))] := hD
  refine W.widen (k := 0) (n := 0) (by omega) (by omega) ?_
  try dsimp only at hw_2
  refine lv_istore_n (lv' := [(2, .int r_1), (0, .ref aP), (1, .int k)]) hx hb dX3_exchangeBytes_10 rfl hl (by decide) rfl (fun ls hl => ?_)
  refine lv_aload_n hx hb dX3_exchangeBytes_11 rfl (lv_at hl 1 rfl) ?_
  refine va_get (D := (dC, dI)) (ci := 3) (v := .ref aR) (C := RX3) (T := TX3) (N := 2) hx hb hts (by decide +kernel) hown hK hP 0 rfl rfl 0 (by decide) (hts (.fieldLink RX3 23 "WordGuest$Processor" "parts" "LWordGuest$Parts;") (by decide +kernel)) (fun _ h9 => h9) rfl dX3_exchangeBytes_12 ?_
  refine lv_iload_n hx hb dX3_exchangeBytes_15 rfl (lv_at hl 0 rfl) ?_
  refine lv_ldc (v := 65535) hx hb hown (hts (.constant RX3 69 (65535)) (by decide +kernel)) dX3_exchangeBytes_16 ?_
  have hPc := hP.sub (ws' := [(aR, .inr (2, [.ref aM, .ref aA, .ref aB, .int fault2_3])), (aA, .inl (cA, 8, .inl regs2_4)), (aM, .inr (1, [.ref aW, .ref aT, .int cnt])), (aW, .inl (cW, 2048, .inl words))]) [3, 4, 5, 6] rfl
  have hDc := hD.sub (ws' := [(aR, .inr (2, [.ref aM, .ref aA, .ref aB, .int fault2_3])), (aA, .inl (cA, 8, .inl regs2_4)), (aM, .inr (1, [.ref aW, .ref aT, .int cnt])), (aW, .inl (cW, 2048, .inl words))]) [3, 4, 5, 6] (by decide) rfl
  have hKc := hK.sub (tys' := [(cA, .int), (cW, .int)]) [0, 1] rfl
  have hFc := va_free (wc := [(aR, .inr (2, [.ref aM, .ref aA, .ref aB, .int fault2_3])), (aA, .inl (cA, 8, .inl regs2_4)), (aM, .inr (1, [.ref aW, .ref aT, .int cnt])), (aW, .inl (cW, 2048, .inl words))]) hD hS hA [3, 4, 5, 6] rfl
  refine va_calli (va_runV (C := RX2) (b := aR) (As := [.int r_1, .int 65535]) (rest := []) ⟨hx, hb, hml, hown, hts⟩ (s_X2_fetch l dC dI H.size aR r_1 (65535 : Int32) aM aA aB fault2_3 cA regs2_4 aW aT cnt cW words) (cwV 2 hts gX3_exchangeBytes_X2_fetch rfl rfl rfl (by decide +kernel) ⟨Nat.le_of_ble_eq_true rfl, Nat.le_of_ble_eq_true rfl⟩) ⟨q_blind, va_recv hK hP (ci := 2) (q0 := 3) rfl rfl, fun U hU hW => ⟨rfl, q_pay hU hW hPc hKc hDc hN⟩⟩ rfl rfl hl.1 rfl (lv_room (Nat.le_of_ble_eq_true rfl)) dX3_exchangeBytes_18 ⟨show 0 + 0 ≤ 0 from by omega, show 0 + 0 ≤ 0 from by omega⟩) hS (fun q _ h => hFc q h) hFc (fun r_5 u9 t H locs ht hvm hw_6 hB hz1 hk1 hS => ?_)
  obtain ⟨fault2_7, rfl⟩ : ∃ z, z = u9 := ⟨_, rfl⟩
  obtain ⟨hP1, hK1, hD1⟩ := hB
  rw [ht] at hP1
  obtain ⟨hP, hD⟩ := va_join (wr := [(aP, .inr (3, [.ref aR, .ref aF])), (aT, .inl (cT, 400, .inl told)), (aF, .inr (0, [.int fn, .int fz, .int fv, .int fc]))]) (w1 := [(aR, .inr (2, [.ref aM, .ref aA, .ref aB, .int fault2_7])), (aA, .inl (cA, 8, .inl regs2_4)), (aM, .inr (1, [.ref aW, .ref aT, .int cnt])), (aW, .inl (cW, 2048, .inl words))]) hP hD [3, 4, 5, 6] [0, 1, 2] rfl rfl (by decide) (by decide) hk1 hFc hP1 hD1
  have hP : va_P (dC, dI) vwCl [(aP, .inr (3, [.ref aR, .ref aF])), (aT, .inl (cT, 400, .inl told)), (aF, .inr (0, [.int fn, .int fz, .int fv, .int fc])), (aR, .inr (2, [.ref aM, .ref aA, .ref aB, .int fault2_7])), (aA, .inl (cA, 8, .inl regs2_4)), (aM, .inr (1, [.ref aW, .ref aT, .int cnt])), (aW, .inl (cW, 2048, .inl words))] H := hP
  have hD : va_D A [(aP, .inr (3, [.ref aR, .ref aF])), (aT, .inl (cT, 400, .inl told)), (aF, .inr (0, [.int fn, .int fz, .int fv, .int fc])), (aR, .inr (2, [.ref aM, .ref aA, .ref aB, .int fault2_7])), (aA, .inl (cA, 8, .inl regs2_4)), (aM, .inr (1, [.ref aW, .ref aT, .int cnt])), (aW, .inl (cW, 2048, .inl words))] := hD
  refine W.widen (k := 0) (n := 0) (by omega) (by omega) ?_
  try dsimp only at hw_6
  refine lv_istore_n (lv' := [(3, .int r_5), (2, .int r_1), (0, .ref aP), (1, .int k)]) hx hb dX3_exchangeBytes_21 rfl hl (by decide) rfl (fun ls hl => ?_)
  refine lv_iload_n hx hb dX3_exchangeBytes_22 rfl (lv_at hl 0 rfl) ?_
  refine lv_bipush (v := 8) hx hb dX3_exchangeBytes_23 (by decide) ?_
  refine lv_ishl hx hb dX3_exchangeBytes_25 ?_
  refine lv_iload_n hx hb dX3_exchangeBytes_26 rfl (lv_at hl 0 rfl) ?_
  refine lv_bipush (v := 8) hx hb dX3_exchangeBytes_27 (by decide) ?_
  refine lv_ishr hx hb dX3_exchangeBytes_29 ?_
  refine lv_ior hx hb dX3_exchangeBytes_30 ?_
  refine lv_ldc (v := 65535) hx hb hown (hts (.constant RX3 69 (65535)) (by decide +kernel)) dX3_exchangeBytes_31 ?_
  refine lv_iand hx hb dX3_exchangeBytes_33 ?_
  refine lv_istore (lv' := [(4, .int (((r_5 <<< (8 &&& 31)) ||| (r_5 >>> (8 &&& 31))) &&& 65535)), (3, .int r_5), (2, .int r_1), (0, .ref aP), (1, .int k)]) hx hb dX3_exchangeBytes_34 hl (by decide) rfl (fun ls hl => ?_)
  refine lv_aload_n hx hb dX3_exchangeBytes_36 rfl (lv_at hl 3 rfl) ?_
  refine va_get (D := (dC, dI)) (ci := 3) (v := .ref aF) (C := RX3) (T := TX3) (N := 2) hx hb hts (by decide +kernel) hown hK hP 0 rfl rfl 1 (by decide) (hts (.fieldLink RX3 12 "WordGuest$Processor" "conditions" "LWordGuest$Flags;") (by decide +kernel)) (fun _ h9 => h9) rfl dX3_exchangeBytes_37 ?_
  refine lv_iload hx hb dX3_exchangeBytes_40 (lv_at hl 0 rfl) ?_
  refine lv_sipush (v := 255) hx hb dX3_exchangeBytes_42 (by decide) ?_
  have hPc := hP.sub (ws' := [(aF, .inr (0, [.int fn, .int fz, .int fv, .int fc]))]) [2] rfl
  have hDc := hD.sub (ws' := [(aF, .inr (0, [.int fn, .int fz, .int fv, .int fc]))]) [2] (by decide) rfl
  have hKc := hK.sub (tys' := []) [] rfl
  have hFc := va_free (wc := [(aF, .inr (0, [.int fn, .int fz, .int fv, .int fc]))]) hD hS hA [2] rfl
  refine va_callv (va_runV (C := RX0) (b := aF) (As := [.int (((r_5 <<< (8 &&& 31)) ||| (r_5 >>> (8 &&& 31))) &&& 65535), .int 255]) (rest := []) ⟨hx, hb, hml, hown, hts⟩ (s_X0_setByResult l dC dI H.size aF (((r_5 <<< (8 &&& 31)) ||| (r_5 >>> (8 &&& 31))) &&& 65535) (255 : Int32) fn fz fv fc) (cwV 2 hts gX3_exchangeBytes_X0_setByResult rfl rfl rfl (by decide +kernel) ⟨Nat.le_of_ble_eq_true rfl, Nat.le_of_ble_eq_true rfl⟩) ⟨q_blind, va_recv hK hP (ci := 0) (q0 := 2) rfl rfl, fun U hU hW => ⟨rfl, q_pay hU hW hPc hKc hDc hN⟩⟩ rfl rfl hl.1 rfl (lv_room (Nat.le_of_ble_eq_true rfl)) dX3_exchangeBytes_45 ⟨show 0 + 0 ≤ 0 from by omega, show 0 + 0 ≤ 0 from by omega⟩) hS (fun q _ h => hFc q h) hFc (fun u9 t H locs ht hvm hw_9 hB hz1 hk1 hS => ?_)
  obtain ⟨fn2_10, fz2_11⟩ := u9
  obtain ⟨hP1, hK1, hD1⟩ := hB
  rw [ht] at hP1
  obtain ⟨hP, hD⟩ := va_join (wr := [(aP, .inr (3, [.ref aR, .ref aF])), (aT, .inl (cT, 400, .inl told)), (aR, .inr (2, [.ref aM, .ref aA, .ref aB, .int fault2_7])), (aA, .inl (cA, 8, .inl regs2_4)), (aM, .inr (1, [.ref aW, .ref aT, .int cnt])), (aW, .inl (cW, 2048, .inl words))]) (w1 := [(aF, .inr (0, [.int fn2_10, .int fz2_11, .int fv, .int fc]))]) hP hD [2] [0, 1, 3, 4, 5, 6] rfl rfl (by decide) (by decide) hk1 hFc hP1 hD1
  have hP : va_P (dC, dI) vwCl [(aP, .inr (3, [.ref aR, .ref aF])), (aT, .inl (cT, 400, .inl told)), (aR, .inr (2, [.ref aM, .ref aA, .ref aB, .int fault2_7])), (aA, .inl (cA, 8, .inl regs2_4)), (aM, .inr (1, [.ref aW, .ref aT, .int cnt])), (aW, .inl (cW, 2048, .inl words)), (aF, .inr (0, [.int fn2_10, .int fz2_11, .int fv, .int fc]))] H := hP
  have hD : va_D A [(aP, .inr (3, [.ref aR, .ref aF])), (aT, .inl (cT, 400, .inl told)), (aR, .inr (2, [.ref aM, .ref aA, .ref aB, .int fault2_7])), (aA, .inl (cA, 8, .inl regs2_4)), (aM, .inr (1, [.ref aW, .ref aT, .int cnt])), (aW, .inl (cW, 2048, .inl words)), (aF, .inr (0, [.int fn2_10, .int fz2_11, .int fv, .int fc]))] := hD
  refine W.widen (k := 0) (n := 0) (by omega) (by omega) ?_
  try dsimp only at hw_9
  refine lv_aload_n hx hb dX3_exchangeBytes_48 rfl (lv_at hl 3 rfl) ?_
  refine va_get (D := (dC, dI)) (ci := 3) (v := .ref aF) (C := RX3) (T := TX3) (N := 2) hx hb hts (by decide +kernel) hown hK hP 0 rfl rfl 1 (by decide) (hts (.fieldLink RX3 12 "WordGuest$Processor" "conditions" "LWordGuest$Flags;") (by decide +kernel)) (fun _ h9 => h9) rfl dX3_exchangeBytes_49 ?_
  refine lv_iconst (v := 0) hx hb dX3_exchangeBytes_52 (by decide) ?_
  refine va_putN (D := (dC, dI)) (ci := 0) (v := .int 0) (ty := .boolean) (C := RX0) (T := TX0) (N := 4) hx hb hts (by decide +kernel) tyX0 tyX0_ok nmX0 hown hK hP hD hS 6 rfl rfl 2 (by decide) ((va_Nw.use rfl (hN _ (List.mem_of_getElem? (i := 6) rfl)))) (fun _ h9 => h9) rfl (by decide +kernel) (by decide) (by decide) (Nat.le_of_ble_eq_true rfl) dX3_exchangeBytes_53 (fun H locs hP hD hS => ?_)
  have hP : va_P (dC, dI) vwCl [(aP, .inr (3, [.ref aR, .ref aF])), (aT, .inl (cT, 400, .inl told)), (aR, .inr (2, [.ref aM, .ref aA, .ref aB, .int fault2_7])), (aA, .inl (cA, 8, .inl regs2_4)), (aM, .inr (1, [.ref aW, .ref aT, .int cnt])), (aW, .inl (cW, 2048, .inl words)), (aF, .inr (0, [.int fn2_10, .int fz2_11, .int 0, .int fc]))] H := hP
  have hD : va_D A [(aP, .inr (3, [.ref aR, .ref aF])), (aT, .inl (cT, 400, .inl told)), (aR, .inr (2, [.ref aM, .ref aA, .ref aB, .int fault2_7])), (aA, .inl (cA, 8, .inl regs2_4)), (aM, .inr (1, [.ref aW, .ref aT, .int cnt])), (aW, .inl (cW, 2048, .inl words)), (aF, .inr (0, [.int fn2_10, .int fz2_11, .int 0, .int fc]))] := hD
  refine lv_aload_n hx hb dX3_exchangeBytes_56 rfl (lv_at hl 3 rfl) ?_
  refine va_get (D := (dC, dI)) (ci := 3) (v := .ref aF) (C := RX3) (T := TX3) (N := 2) hx hb hts (by decide +kernel) hown hK hP 0 rfl rfl 1 (by decide) (hts (.fieldLink RX3 12 "WordGuest$Processor" "conditions" "LWordGuest$Flags;") (by decide +kernel)) (fun _ h9 => h9) rfl dX3_exchangeBytes_57 ?_
  refine lv_iconst (v := 0) hx hb dX3_exchangeBytes_60 (by decide) ?_
  refine va_putN (D := (dC, dI)) (ci := 0) (v := .int 0) (ty := .boolean) (C := RX0) (T := TX0) (N := 4) hx hb hts (by decide +kernel) tyX0 tyX0_ok nmX0 hown hK hP hD hS 6 rfl rfl 3 (by decide) ((va_Nw.use rfl (hN _ (List.mem_of_getElem? (i := 7) rfl)))) (fun _ h9 => h9) rfl (by decide +kernel) (by decide) (by decide) (Nat.le_of_ble_eq_true rfl) dX3_exchangeBytes_61 (fun H locs hP hD hS => ?_)
  have hP : va_P (dC, dI) vwCl [(aP, .inr (3, [.ref aR, .ref aF])), (aT, .inl (cT, 400, .inl told)), (aR, .inr (2, [.ref aM, .ref aA, .ref aB, .int fault2_7])), (aA, .inl (cA, 8, .inl regs2_4)), (aM, .inr (1, [.ref aW, .ref aT, .int cnt])), (aW, .inl (cW, 2048, .inl words)), (aF, .inr (0, [.int fn2_10, .int fz2_11, .int 0, .int 0]))] H := hP
  have hD : va_D A [(aP, .inr (3, [.ref aR, .ref aF])), (aT, .inl (cT, 400, .inl told)), (aR, .inr (2, [.ref aM, .ref aA, .ref aB, .int fault2_7])), (aA, .inl (cA, 8, .inl regs2_4)), (aM, .inr (1, [.ref aW, .ref aT, .int cnt])), (aW, .inl (cW, 2048, .inl words)), (aF, .inr (0, [.int fn2_10, .int fz2_11, .int 0, .int 0]))] := hD
  refine lv_aload_n hx hb dX3_exchangeBytes_64 rfl (lv_at hl 3 rfl) ?_
  refine va_get (D := (dC, dI)) (ci := 3) (v := .ref aR) (C := RX3) (T := TX3) (N := 2) hx hb hts (by decide +kernel) hown hK hP 0 rfl rfl 0 (by decide) (hts (.fieldLink RX3 23 "WordGuest$Processor" "parts" "LWordGuest$Parts;") (by decide +kernel)) (fun _ h9 => h9) rfl dX3_exchangeBytes_65 ?_
  refine lv_iload_n hx hb dX3_exchangeBytes_68 rfl (lv_at hl 2 rfl) ?_
  refine lv_ldc (v := 65535) hx hb hown (hts (.constant RX3 69 (65535)) (by decide +kernel)) dX3_exchangeBytes_69 ?_
  refine lv_iload hx hb dX3_exchangeBytes_71 (lv_at hl 0 rfl) ?_
  have hPc := hP.sub (ws' := [(aR, .inr (2, [.ref aM, .ref aA, .ref aB, .int fault2_7])), (aA, .inl (cA, 8, .inl regs2_4)), (aM, .inr (1, [.ref aW, .ref aT, .int cnt])), (aW, .inl (cW, 2048, .inl words)), (aT, .inl (cT, 400, .inl told))]) [2, 3, 4, 5, 1] rfl
  have hDc := hD.sub (ws' := [(aR, .inr (2, [.ref aM, .ref aA, .ref aB, .int fault2_7])), (aA, .inl (cA, 8, .inl regs2_4)), (aM, .inr (1, [.ref aW, .ref aT, .int cnt])), (aW, .inl (cW, 2048, .inl words)), (aT, .inl (cT, 400, .inl told))]) [2, 3, 4, 5, 1] (by decide) rfl
  have hKc := hK.sub (tys' := [(cA, .int), (cW, .int), (cT, .int)]) [0, 1, 2] rfl
  have hFc := va_free (wc := [(aR, .inr (2, [.ref aM, .ref aA, .ref aB, .int fault2_7])), (aA, .inl (cA, 8, .inl regs2_4)), (aM, .inr (1, [.ref aW, .ref aT, .int cnt])), (aW, .inl (cW, 2048, .inl words)), (aT, .inl (cT, 400, .inl told))]) hD hS hA [2, 3, 4, 5, 1] rfl
  refine va_callv (va_runV (C := RX2) (b := aR) (As := [.int r_1, .int 65535, .int (((r_5 <<< (8 &&& 31)) ||| (r_5 >>> (8 &&& 31))) &&& 65535)]) (rest := []) ⟨hx, hb, hml, hown, hts⟩ (s_X2_store l dC dI H.size aR r_1 (65535 : Int32) (((r_5 <<< (8 &&& 31)) ||| (r_5 >>> (8 &&& 31))) &&& 65535) aM aA aB fault2_7 cA regs2_4 aW aT cnt cW words cT told h4) (cwV 3 hts gX3_exchangeBytes_X2_store rfl rfl rfl (by decide +kernel) ⟨Nat.le_of_ble_eq_true rfl, Nat.le_of_ble_eq_true rfl⟩) ⟨q_blind, va_recv hK hP (ci := 2) (q0 := 2) rfl rfl, fun U hU hW => ⟨rfl, q_pay hU hW hPc hKc hDc hN⟩⟩ rfl rfl hl.1 rfl (lv_room (Nat.le_of_ble_eq_true rfl)) dX3_exchangeBytes_73 ⟨show 0 + 0 ≤ 0 from by omega, show 0 + 0 ≤ 0 from by omega⟩) hS (fun q _ h => hFc q h) hFc (fun u9 t H locs ht hvm hw_13 hB hz1 hk1 hS => ?_)
  obtain ⟨fault2_14, regs2_15, cnt2_16, words2_17, told2_18⟩ := u9
  obtain ⟨hP1, hK1, hD1⟩ := hB
  rw [ht] at hP1
  obtain ⟨hP, hD⟩ := va_join (wr := [(aP, .inr (3, [.ref aR, .ref aF])), (aF, .inr (0, [.int fn2_10, .int fz2_11, .int 0, .int 0]))]) (w1 := [(aR, .inr (2, [.ref aM, .ref aA, .ref aB, .int fault2_14])), (aA, .inl (cA, 8, .inl regs2_15)), (aM, .inr (1, [.ref aW, .ref aT, .int cnt2_16])), (aW, .inl (cW, 2048, .inl words2_17)), (aT, .inl (cT, 400, .inl told2_18))]) hP hD [2, 3, 4, 5, 1] [0, 6] rfl rfl (by decide) (by decide) hk1 hFc hP1 hD1
  have hP : va_P (dC, dI) vwCl [(aP, .inr (3, [.ref aR, .ref aF])), (aF, .inr (0, [.int fn2_10, .int fz2_11, .int 0, .int 0])), (aR, .inr (2, [.ref aM, .ref aA, .ref aB, .int fault2_14])), (aA, .inl (cA, 8, .inl regs2_15)), (aM, .inr (1, [.ref aW, .ref aT, .int cnt2_16])), (aW, .inl (cW, 2048, .inl words2_17)), (aT, .inl (cT, 400, .inl told2_18))] H := hP
  have hD : va_D A [(aP, .inr (3, [.ref aR, .ref aF])), (aF, .inr (0, [.int fn2_10, .int fz2_11, .int 0, .int 0])), (aR, .inr (2, [.ref aM, .ref aA, .ref aB, .int fault2_14])), (aA, .inl (cA, 8, .inl regs2_15)), (aM, .inr (1, [.ref aW, .ref aT, .int cnt2_16])), (aW, .inl (cW, 2048, .inl words2_17)), (aT, .inl (cT, 400, .inl told2_18))] := hD
  refine W.widen (k := 0) (n := 0) (by omega) (by omega) ?_
  try dsimp only at hw_13
  have hP9 := hP.sub (ws' := [(aP, .inr (3, [.ref aR, .ref aF])), (aR, .inr (2, [.ref aM, .ref aA, .ref aB, .int fault2_14])), (aA, .inl (cA, 8, .inl regs2_15)), (aM, .inr (1, [.ref aW, .ref aT, .int cnt2_16])), (aW, .inl (cW, 2048, .inl words2_17)), (aT, .inl (cT, 400, .inl told2_18)), (aF, .inr (0, [.int fn2_10, .int fz2_11, .int 0, .int 0]))]) [0, 2, 3, 4, 5, 6, 1] rfl
  have hD9 := hD.sub (ws' := [(aP, .inr (3, [.ref aR, .ref aF])), (aR, .inr (2, [.ref aM, .ref aA, .ref aB, .int fault2_14])), (aA, .inl (cA, 8, .inl regs2_15)), (aM, .inr (1, [.ref aW, .ref aT, .int cnt2_16])), (aW, .inl (cW, 2048, .inl words2_17)), (aT, .inl (cT, 400, .inl told2_18)), (aF, .inr (0, [.int fn2_10, .int fz2_11, .int 0, .int 0]))]) [0, 2, 3, 4, 5, 6, 1] (by decide) rfl
  have hK9 := hK.sub (tys' := [(cA, .int), (cW, .int), (cT, .int)]) [0, 1, 2] rfl
  exact W.vret hx hb hr (fun t ht hW => ⟨⟨(fault2_14, regs2_15, cnt2_16, words2_17, told2_18, fn2_10, fz2_11, 0, 0), rfl, hw_13, by rw [ht]; exact hP9, va_K.moved hW.alike hK9, hD9⟩, hS.F ht⟩) hS.2.2 dX3_exchangeBytes_76
set_option maxHeartbeats 4000000 in
set_option maxRecDepth 100000 in
theorem s_X3_spreadSign (l : Launch) (dC : Nat → ClassId) (dI : Nat → Nat → Nat) (sz : Nat) (aP : Nat) (k : Int32) (aR : Nat) (aF : Nat) (aM : Nat) (aA : Nat) (aB : Nat) (fault : Int32) (cA : ClassId) (regs : Nat → Int32) (aW : Nat) (aT : Nat) (cnt : Int32) (cW : ClassId) (words : Nat → Int32) (cT : ClassId) (told : Nat → Int32) (fn : Int32) (fz : Int32) (fv : Int32) (fc : Int32) (h4 : ok4 cnt) : Met l yX3_spreadSign wsX3_spreadSign ({ frames := 3, cells := 0, slots := 0, locals := 68 }) (va_Pc [.ref aP, .int k] (q_pre dC dI sz [(aP, .inr (3, [.ref aR, .ref aF])), (aR, .inr (2, [.ref aM, .ref aA, .ref aB, .int fault])), (aA, .inl (cA, 8, .inl regs)), (aM, .inr (1, [.ref aW, .ref aT, .int cnt])), (aW, .inl (cW, 2048, .inl words)), (aT, .inl (cT, 400, .inl told)), (aF, .inr (0, [.int fn, .int fz, .int fv, .int fc]))] [(cA, .int), (cW, .int), (cT, .int)])) (va_Qv (fun (u9 : Int32 × (Nat → Int32) × Int32 × (Nat → Int32) × (Nat → Int32) × Int32 × Int32 × Int32 × Int32) => ok4 u9.2.2.1) (q_at dC dI (va_A [(aP, .inr (3, [.ref aR, .ref aF])), (aR, .inr (2, [.ref aM, .ref aA, .ref aB, .int fault])), (aA, .inl (cA, 8, .inl regs)), (aM, .inr (1, [.ref aW, .ref aT, .int cnt])), (aW, .inl (cW, 2048, .inl words)), (aT, .inl (cT, 400, .inl told)), (aF, .inr (0, [.int fn, .int fz, .int fv, .int fc]))] sz) (fun (u9 : Int32 × (Nat → Int32) × Int32 × (Nat → Int32) × (Nat → Int32) × Int32 × Int32 × Int32 × Int32) => [(cA, .int), (cW, .int), (cT, .int)]) (fun (u9 : Int32 × (Nat → Int32) × Int32 × (Nat → Int32) × (Nat → Int32) × Int32 × Int32 × Int32 × Int32) => [(aP, .inr (3, [.ref aR, .ref aF])), (aR, .inr (2, [.ref aM, .ref aA, .ref aB, .int u9.1])), (aA, .inl (cA, 8, .inl u9.2.1)), (aM, .inr (1, [.ref aW, .ref aT, .int u9.2.2.1])), (aW, .inl (cW, 2048, .inl u9.2.2.2.1)), (aT, .inl (cT, 400, .inl u9.2.2.2.2.1)), (aF, .inr (0, [.int u9.2.2.2.2.2.1, .int u9.2.2.2.2.2.2.1, .int u9.2.2.2.2.2.2.2.1, .int u9.2.2.2.2.2.2.2.2]))])) (va_A [(aP, .inr (3, [.ref aR, .ref aF])), (aR, .inr (2, [.ref aM, .ref aA, .ref aB, .int fault])), (aA, .inl (cA, 8, .inl regs)), (aM, .inr (1, [.ref aW, .ref aT, .int cnt])), (aW, .inl (cW, 2048, .inl words)), (aT, .inl (cT, 400, .inl told)), (aF, .inr (0, [.int fn, .int fz, .int fv, .int fc]))] sz)) 0 0 (va_A [(aP, .inr (3, [.ref aR, .ref aF])), (aR, .inr (2, [.ref aM, .ref aA, .ref aB, .int fault])), (aA, .inl (cA, 8, .inl regs)), (aM, .inr (1, [.ref aW, .ref aT, .int cnt])), (aW, .inl (cW, 2048, .inl words)), (aT, .inl (cT, 400, .inl told)), (aF, .inr (0, [.int fn, .int fz, .int fv, .int fc]))] sz) := by
  refine Met.ofW (cc := cX3_spreadSign) (maxL := 4) (ret := none) (by decide) rfl ?_
  intro p e s m args below meth c s₁ B hml hv
  obtain ⟨rfl, hsz, hP, hK, hD0, hN⟩ := hv
  have hx := B.exec
  have hb := B.bytes
  have hr := B.returns
  have hts := atoms_spec (ws := wsX3_spreadSign) B.pre
  have hown : s.vm.findClass RX3 = some m.cls := findClass_of_methodNamed B.named
  have hlocks := B.notSynchronized
  subst hsz
  have hD := hD0.self (sz := s.heap.size)
  generalize hAe : va_A [(aP, .inr (3, [.ref aR, .ref aF])), (aR, .inr (2, [.ref aM, .ref aA, .ref aB, .int fault])), (aA, .inl (cA, 8, .inl regs)), (aM, .inr (1, [.ref aW, .ref aT, .int cnt])), (aW, .inl (cW, 2048, .inl words)), (aT, .inl (cT, 400, .inl told)), (aF, .inr (0, [.int fn, .int fz, .int fv, .int fc]))] s.heap.size = A at hD ⊢
  have hA : ∀ q : Nat, s.heap.size ≤ q → A q := fun q h => by rw [← hAe]; exact Or.inr h
  have hS : va_S A s.heap s.heap [] := va_S.rf
  have hP : va_P (dC, dI) vwCl [(aP, .inr (3, [.ref aR, .ref aF])), (aR, .inr (2, [.ref aM, .ref aA, .ref aB, .int fault])), (aA, .inl (cA, 8, .inl regs)), (aM, .inr (1, [.ref aW, .ref aT, .int cnt])), (aW, .inl (cW, 2048, .inl words)), (aT, .inl (cT, 400, .inl told)), (aF, .inr (0, [.int fn, .int fz, .int fv, .int fc]))] s.heap := hP
  have hl := lv_entry ([.ref aP, .int k]) (n := 4) (Nat.le_of_ble_eq_true rfl)
  rw [lg_entry_eq]
  generalize (lg_sl ([.ref aP, .int k]) ++ List.replicate (4 - (lg_sl ([.ref aP, .int k])).length) Slot.unset).toArray = ls at hl ⊢
  have hl : lv_has ls 4 [(0, .ref aP), (1, .int k)] := hl
  refine lv_aload_n hx hb dX3_spreadSign_0 rfl (lv_at hl 0 rfl) ?_
  refine va_get (D := (dC, dI)) (ci := 3) (v := .ref aR) (C := RX3) (T := TX3) (N := 2) hx hb hts (by decide +kernel) hown hK hP 0 rfl rfl 0 (by decide) (hts (.fieldLink RX3 23 "WordGuest$Processor" "parts" "LWordGuest$Parts;") (by decide +kernel)) (fun _ h9 => h9) rfl dX3_spreadSign_1 ?_
  refine lv_iload_n hx hb dX3_spreadSign_4 rfl (lv_at hl 1 rfl) ?_
  refine lv_ldc (v := 65535) hx hb hown (hts (.constant RX3 69 (65535)) (by decide +kernel)) dX3_spreadSign_5 ?_
  have hPc := hP.sub (ws' := [(aR, .inr (2, [.ref aM, .ref aA, .ref aB, .int fault])), (aA, .inl (cA, 8, .inl regs)), (aM, .inr (1, [.ref aW, .ref aT, .int cnt])), (aW, .inl (cW, 2048, .inl words))]) [1, 2, 3, 4] rfl
  have hDc := hD.sub (ws' := [(aR, .inr (2, [.ref aM, .ref aA, .ref aB, .int fault])), (aA, .inl (cA, 8, .inl regs)), (aM, .inr (1, [.ref aW, .ref aT, .int cnt])), (aW, .inl (cW, 2048, .inl words))]) [1, 2, 3, 4] (by decide) rfl
  have hKc := hK.sub (tys' := [(cA, .int), (cW, .int)]) [0, 1] rfl
  have hFc := va_free (wc := [(aR, .inr (2, [.ref aM, .ref aA, .ref aB, .int fault])), (aA, .inl (cA, 8, .inl regs)), (aM, .inr (1, [.ref aW, .ref aT, .int cnt])), (aW, .inl (cW, 2048, .inl words))]) hD hS hA [1, 2, 3, 4] rfl
  refine va_calli (va_runV (C := RX2) (b := aR) (As := [.int k, .int 65535]) (rest := []) ⟨hx, hb, hml, hown, hts⟩ (s_X2_locate l dC dI s.heap.size aR k (65535 : Int32) aM aA aB fault cA regs aW aT cnt cW words) (cwV 2 hts gX3_spreadSign_X2_locate rfl rfl rfl (by decide +kernel) ⟨Nat.le_of_ble_eq_true rfl, Nat.le_of_ble_eq_true rfl⟩) ⟨q_blind, va_recv hK hP (ci := 2) (q0 := 1) rfl rfl, fun U hU hW => ⟨rfl, q_pay hU hW hPc hKc hDc hN⟩⟩ rfl rfl hl.1 rfl (lv_room (Nat.le_of_ble_eq_true rfl)) dX3_spreadSign_7 ⟨show 0 + 0 ≤ 0 from by omega, show 0 + 0 ≤ 0 from by omega⟩) hS (fun q _ h => hFc q h) hFc (fun r_1 u9 t H locs ht hvm hw_2 hB hz1 hk1 hS => ?_)
  obtain ⟨fault2_3, regs2_4⟩ := u9
  obtain ⟨hP1, hK1, hD1⟩ := hB
  rw [ht] at hP1
  obtain ⟨hP, hD⟩ := va_join (wr := [(aP, .inr (3, [.ref aR, .ref aF])), (aT, .inl (cT, 400, .inl told)), (aF, .inr (0, [.int fn, .int fz, .int fv, .int fc]))]) (w1 := [(aR, .inr (2, [.ref aM, .ref aA, .ref aB, .int fault2_3])), (aA, .inl (cA, 8, .inl regs2_4)), (aM, .inr (1, [.ref aW, .ref aT, .int cnt])), (aW, .inl (cW, 2048, .inl words))]) hP hD [1, 2, 3, 4] [0, 5, 6] rfl rfl (by decide) (by decide) hk1 hFc hP1 hD1
  have hP : va_P (dC, dI) vwCl [(aP, .inr (3, [.ref aR, .ref aF])), (aT, .inl (cT, 400, .inl told)), (aF, .inr (0, [.int fn, .int fz, .int fv, .int fc])), (aR, .inr (2, [.ref aM, .ref aA, .ref aB, .int fault2_3])), (aA, .inl (cA, 8, .inl regs2_4)), (aM, .inr (1, [.ref aW, .ref aT, .int cnt])), (aW, .inl (cW, 2048, .inl words))] H := hP
  have hD : va_D A [(aP, .inr (3, [.ref aR, .ref aF])), (aT, .inl (cT, 400, .inl told)), (aF, .inr (0, [.int fn, .int fz, .int fv, .int fc])), (aR, .inr (2, [.ref aM, .ref aA, .ref aB, .int fault2_3])), (aA, .inl (cA, 8, .inl regs2_4)), (aM, .inr (1, [.ref aW, .ref aT, .int cnt])), (aW, .inl (cW, 2048, .inl words))] := hD
  refine W.widen (k := 0) (n := 0) (by omega) (by omega) ?_
  try dsimp only at hw_2
  refine lv_istore_n (lv' := [(2, .int r_1), (0, .ref aP), (1, .int k)]) hx hb dX3_spreadSign_10 rfl hl (by decide) rfl (fun ls hl => ?_)
  refine lv_aload_n hx hb dX3_spreadSign_11 rfl (lv_at hl 1 rfl) ?_
  refine va_get (D := (dC, dI)) (ci := 3) (v := .ref aF) (C := RX3) (T := TX3) (N := 2) hx hb hts (by decide +kernel) hown hK hP 0 rfl rfl 1 (by decide) (hts (.fieldLink RX3 12 "WordGuest$Processor" "conditions" "LWordGuest$Flags;") (by decide +kernel)) (fun _ h9 => h9) rfl dX3_spreadSign_12 ?_
  refine va_getN (D := (dC, dI)) (ci := 0) (v := .int fn) (C := RX0) (T := TX0) (N := 4) hx hb hts (by decide +kernel) hown hK hP 2 rfl rfl 0 (by decide) ((va_Nw.use rfl (hN _ (List.mem_of_getElem? (i := 4) rfl)))) (fun _ h9 => h9) rfl dX3_spreadSign_15 ?_
  refine q_any (ls := ls) 27 [] (fun b_6 => ?_) (fun jn => ?_)
  · refine lv_istore_n (lv' := [(3, .int b_6), (2, .int r_1), (0, .ref aP), (1, .int k)]) hx hb dX3_spreadSign_27 rfl hl (by decide) rfl (fun ls hl => ?_)
    refine lv_aload_n hx hb dX3_spreadSign_28 rfl (lv_at hl 2 rfl) ?_
    refine va_get (D := (dC, dI)) (ci := 3) (v := .ref aF) (C := RX3) (T := TX3) (N := 2) hx hb hts (by decide +kernel) hown hK hP 0 rfl rfl 1 (by decide) (hts (.fieldLink RX3 12 "WordGuest$Processor" "conditions" "LWordGuest$Flags;") (by decide +kernel)) (fun _ h9 => h9) rfl dX3_spreadSign_29 ?_
    refine lv_iload_n hx hb dX3_spreadSign_32 rfl (lv_at hl 0 rfl) ?_
    refine q_bool (ls := ls) 41 [.ref aF] (fun b_9 hb_10 => ?_) (fun jn => ?_)
    · refine va_putN (D := (dC, dI)) (ci := 0) (v := .int b_9) (ty := .boolean) (C := RX0) (T := TX0) (N := 4) hx hb hts (by decide +kernel) tyX0 tyX0_ok nmX0 hown hK hP hD hS 2 rfl rfl 1 (by decide) ((va_Nw.use rfl (hN _ (List.mem_of_getElem? (i := 5) rfl)))) (fun _ h9 => h9) rfl (by decide +kernel) (q_nz hb_10) (q_fz hb_10) (Nat.le_of_ble_eq_true rfl) dX3_spreadSign_41 (fun H locs hP hD hS => ?_)
      have hP : va_P (dC, dI) vwCl [(aP, .inr (3, [.ref aR, .ref aF])), (aT, .inl (cT, 400, .inl told)), (aF, .inr (0, [.int fn, .int b_9, .int fv, .int fc])), (aR, .inr (2, [.ref aM, .ref aA, .ref aB, .int fault2_3])), (aA, .inl (cA, 8, .inl regs2_4)), (aM, .inr (1, [.ref aW, .ref aT, .int cnt])), (aW, .inl (cW, 2048, .inl words))] H := hP
      have hD : va_D A [(aP, .inr (3, [.ref aR, .ref aF])), (aT, .inl (cT, 400, .inl told)), (aF, .inr (0, [.int fn, .int b_9, .int fv, .int fc])), (aR, .inr (2, [.ref aM, .ref aA, .ref aB, .int fault2_3])), (aA, .inl (cA, 8, .inl regs2_4)), (aM, .inr (1, [.ref aW, .ref aT, .int cnt])), (aW, .inl (cW, 2048, .inl words))] := hD
      refine lv_aload_n hx hb dX3_spreadSign_44 rfl (lv_at hl 2 rfl) ?_
      refine va_get (D := (dC, dI)) (ci := 3) (v := .ref aF) (C := RX3) (T := TX3) (N := 2) hx hb hts (by decide +kernel) hown hK hP 0 rfl rfl 1 (by decide) (hts (.fieldLink RX3 12 "WordGuest$Processor" "conditions" "LWordGuest$Flags;") (by decide +kernel)) (fun _ h9 => h9) rfl dX3_spreadSign_45 ?_
      refine lv_iconst (v := 0) hx hb dX3_spreadSign_48 (by decide) ?_
      refine va_putN (D := (dC, dI)) (ci := 0) (v := .int 0) (ty := .boolean) (C := RX0) (T := TX0) (N := 4) hx hb hts (by decide +kernel) tyX0 tyX0_ok nmX0 hown hK hP hD hS 2 rfl rfl 2 (by decide) ((va_Nw.use rfl (hN _ (List.mem_of_getElem? (i := 6) rfl)))) (fun _ h9 => h9) rfl (by decide +kernel) (by decide) (by decide) (Nat.le_of_ble_eq_true rfl) dX3_spreadSign_49 (fun H locs hP hD hS => ?_)
      have hP : va_P (dC, dI) vwCl [(aP, .inr (3, [.ref aR, .ref aF])), (aT, .inl (cT, 400, .inl told)), (aF, .inr (0, [.int fn, .int b_9, .int 0, .int fc])), (aR, .inr (2, [.ref aM, .ref aA, .ref aB, .int fault2_3])), (aA, .inl (cA, 8, .inl regs2_4)), (aM, .inr (1, [.ref aW, .ref aT, .int cnt])), (aW, .inl (cW, 2048, .inl words))] H := hP
      have hD : va_D A [(aP, .inr (3, [.ref aR, .ref aF])), (aT, .inl (cT, 400, .inl told)), (aF, .inr (0, [.int fn, .int b_9, .int 0, .int fc])), (aR, .inr (2, [.ref aM, .ref aA, .ref aB, .int fault2_3])), (aA, .inl (cA, 8, .inl regs2_4)), (aM, .inr (1, [.ref aW, .ref aT, .int cnt])), (aW, .inl (cW, 2048, .inl words))] := hD
      refine lv_aload_n hx hb dX3_spreadSign_52 rfl (lv_at hl 2 rfl) ?_
      refine va_get (D := (dC, dI)) (ci := 3) (v := .ref aR) (C := RX3) (T := TX3) (N := 2) hx hb hts (by decide +kernel) hown hK hP 0 rfl rfl 0 (by decide) (hts (.fieldLink RX3 23 "WordGuest$Processor" "parts" "LWordGuest$Parts;") (by decide +kernel)) (fun _ h9 => h9) rfl dX3_spreadSign_53 ?_
      refine lv_iload_n hx hb dX3_spreadSign_56 rfl (lv_at hl 1 rfl) ?_
      refine lv_ldc (v := 65535) hx hb hown (hts (.constant RX3 69 (65535)) (by decide +kernel)) dX3_spreadSign_57 ?_
      refine lv_iload_n hx hb dX3_spreadSign_59 rfl (lv_at hl 0 rfl) ?_
      have hPc := hP.sub (ws' := [(aR, .inr (2, [.ref aM, .ref aA, .ref aB, .int fault2_3])), (aA, .inl (cA, 8, .inl regs2_4)), (aM, .inr (1, [.ref aW, .ref aT, .int cnt])), (aW, .inl (cW, 2048, .inl words)), (aT, .inl (cT, 400, .inl told))]) [3, 4, 5, 6, 1] rfl
      have hDc := hD.sub (ws' := [(aR, .inr (2, [.ref aM, .ref aA, .ref aB, .int fault2_3])), (aA, .inl (cA, 8, .inl regs2_4)), (aM, .inr (1, [.ref aW, .ref aT, .int cnt])), (aW, .inl (cW, 2048, .inl words)), (aT, .inl (cT, 400, .inl told))]) [3, 4, 5, 6, 1] (by decide) rfl
      have hKc := hK.sub (tys' := [(cA, .int), (cW, .int), (cT, .int)]) [0, 1, 2] rfl
      have hFc := va_free (wc := [(aR, .inr (2, [.ref aM, .ref aA, .ref aB, .int fault2_3])), (aA, .inl (cA, 8, .inl regs2_4)), (aM, .inr (1, [.ref aW, .ref aT, .int cnt])), (aW, .inl (cW, 2048, .inl words)), (aT, .inl (cT, 400, .inl told))]) hD hS hA [3, 4, 5, 6, 1] rfl
      refine va_callv (va_runV (C := RX2) (b := aR) (As := [.int r_1, .int 65535, .int b_6]) (rest := []) ⟨hx, hb, hml, hown, hts⟩ (s_X2_store l dC dI H.size aR r_1 (65535 : Int32) b_6 aM aA aB fault2_3 cA regs2_4 aW aT cnt cW words cT told h4) (cwV 3 hts gX3_spreadSign_X2_store rfl rfl rfl (by decide +kernel) ⟨Nat.le_of_ble_eq_true rfl, Nat.le_of_ble_eq_true rfl⟩) ⟨q_blind, va_recv hK hP (ci := 2) (q0 := 3) rfl rfl, fun U hU hW => ⟨rfl, q_pay hU hW hPc hKc hDc hN⟩⟩ rfl rfl hl.1 rfl (lv_room (Nat.le_of_ble_eq_true rfl)) dX3_spreadSign_60 ⟨show 0 + 0 ≤ 0 from by omega, show 0 + 0 ≤ 0 from by omega⟩) hS (fun q _ h => hFc q h) hFc (fun u9 t H locs ht hvm hw_12 hB hz1 hk1 hS => ?_)
      obtain ⟨fault2_13, regs2_14, cnt2_15, words2_16, told2_17⟩ := u9
      obtain ⟨hP1, hK1, hD1⟩ := hB
      rw [ht] at hP1
      obtain ⟨hP, hD⟩ := va_join (wr := [(aP, .inr (3, [.ref aR, .ref aF])), (aF, .inr (0, [.int fn, .int b_9, .int 0, .int fc]))]) (w1 := [(aR, .inr (2, [.ref aM, .ref aA, .ref aB, .int fault2_13])), (aA, .inl (cA, 8, .inl regs2_14)), (aM, .inr (1, [.ref aW, .ref aT, .int cnt2_15])), (aW, .inl (cW, 2048, .inl words2_16)), (aT, .inl (cT, 400, .inl told2_17))]) hP hD [3, 4, 5, 6, 1] [0, 2] rfl rfl (by decide) (by decide) hk1 hFc hP1 hD1
      have hP : va_P (dC, dI) vwCl [(aP, .inr (3, [.ref aR, .ref aF])), (aF, .inr (0, [.int fn, .int b_9, .int 0, .int fc])), (aR, .inr (2, [.ref aM, .ref aA, .ref aB, .int fault2_13])), (aA, .inl (cA, 8, .inl regs2_14)), (aM, .inr (1, [.ref aW, .ref aT, .int cnt2_15])), (aW, .inl (cW, 2048, .inl words2_16)), (aT, .inl (cT, 400, .inl told2_17))] H := hP
      have hD : va_D A [(aP, .inr (3, [.ref aR, .ref aF])), (aF, .inr (0, [.int fn, .int b_9, .int 0, .int fc])), (aR, .inr (2, [.ref aM, .ref aA, .ref aB, .int fault2_13])), (aA, .inl (cA, 8, .inl regs2_14)), (aM, .inr (1, [.ref aW, .ref aT, .int cnt2_15])), (aW, .inl (cW, 2048, .inl words2_16)), (aT, .inl (cT, 400, .inl told2_17))] := hD
      refine W.widen (k := 0) (n := 0) (by omega) (by omega) ?_
      try dsimp only at hw_12
      have hP9 := hP.sub (ws' := [(aP, .inr (3, [.ref aR, .ref aF])), (aR, .inr (2, [.ref aM, .ref aA, .ref aB, .int fault2_13])), (aA, .inl (cA, 8, .inl regs2_14)), (aM, .inr (1, [.ref aW, .ref aT, .int cnt2_15])), (aW, .inl (cW, 2048, .inl words2_16)), (aT, .inl (cT, 400, .inl told2_17)), (aF, .inr (0, [.int fn, .int b_9, .int 0, .int fc]))]) [0, 2, 3, 4, 5, 6, 1] rfl
      have hD9 := hD.sub (ws' := [(aP, .inr (3, [.ref aR, .ref aF])), (aR, .inr (2, [.ref aM, .ref aA, .ref aB, .int fault2_13])), (aA, .inl (cA, 8, .inl regs2_14)), (aM, .inr (1, [.ref aW, .ref aT, .int cnt2_15])), (aW, .inl (cW, 2048, .inl words2_16)), (aT, .inl (cT, 400, .inl told2_17)), (aF, .inr (0, [.int fn, .int b_9, .int 0, .int fc]))]) [0, 2, 3, 4, 5, 6, 1] (by decide) rfl
      have hK9 := hK.sub (tys' := [(cA, .int), (cW, .int), (cT, .int)]) [0, 1, 2] rfl
      exact W.vret hx hb hr (fun t ht hW => ⟨⟨(fault2_13, regs2_14, cnt2_15, words2_16, told2_17, fn, b_9, 0, fc), rfl, hw_12, by rw [ht]; exact hP9, va_K.moved hW.alike hK9, hD9⟩, hS.F ht⟩) hS.2.2 dX3_spreadSign_63
    refine lv_if_ne (tgt := 40) hx hb dX3_spreadSign_33 (by decide) (fun c_8 => ?_) (fun c_8 => ?_)
    · refine lv_iconst (v := 0) hx hb dX3_spreadSign_40 (by decide) ?_
      exact jn _ (Or.inl rfl)
    · refine lv_iconst (v := 1) hx hb dX3_spreadSign_36 (by decide) ?_
      refine lv_goto (tgt := 41) hx hb dX3_spreadSign_37 (by decide) ?_
      exact jn _ (Or.inr rfl)
  refine lv_if_eq (tgt := 26) hx hb dX3_spreadSign_18 (by decide) (fun c_5 => ?_) (fun c_5 => ?_)
  · refine lv_iconst (v := 0) hx hb dX3_spreadSign_26 (by decide) ?_
    exact jn _
  · refine lv_ldc (v := 65535) hx hb hown (hts (.constant RX3 69 (65535)) (by decide +kernel)) dX3_spreadSign_21 ?_
    refine lv_goto (tgt := 27) hx hb dX3_spreadSign_23 (by decide) ?_
    exact jn _
