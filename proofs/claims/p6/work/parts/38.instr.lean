set_option maxHeartbeats 4000000 in
set_option maxRecDepth 100000 in
theorem s_X3_branch (l : Launch) (dC : Nat → ClassId) (dI : Nat → Nat → Nat) (sz : Nat) (aP : Nat) (k : Int32) (aR : Nat) (aF : Nat) (aM : Nat) (aA : Nat) (aB : Nat) (fault : Int32) (cA : ClassId) (regs : Nat → Int32) (aW : Nat) (aT : Nat) (cnt : Int32) (cW : ClassId) (words : Nat → Int32) (cT : ClassId) (told : Nat → Int32) (fn : Int32) (fz : Int32) (fv : Int32) (fc : Int32) (h4 : ok4 cnt) : Met l yX3_branch wsX3_branch ({ frames := 2, cells := 0, slots := 0, locals := 42 }) (va_Pc [.ref aP, .int k] (q_pre dC dI sz [(aP, .inr (3, [.ref aR, .ref aF])), (aR, .inr (2, [.ref aM, .ref aA, .ref aB, .int fault])), (aA, .inl (cA, 8, .inl regs)), (aM, .inr (1, [.ref aW, .ref aT, .int cnt])), (aW, .inl (cW, 2048, .inl words)), (aT, .inl (cT, 400, .inl told)), (aF, .inr (0, [.int fn, .int fz, .int fv, .int fc]))] [(cA, .int), (cW, .int), (cT, .int)])) (va_Qv (fun (u9 : Int32 × (Nat → Int32) × Int32 × (Nat → Int32) × (Nat → Int32) × Int32 × Int32 × Int32 × Int32) => ok4 u9.2.2.1) (q_at dC dI (va_A [(aP, .inr (3, [.ref aR, .ref aF])), (aR, .inr (2, [.ref aM, .ref aA, .ref aB, .int fault])), (aA, .inl (cA, 8, .inl regs)), (aM, .inr (1, [.ref aW, .ref aT, .int cnt])), (aW, .inl (cW, 2048, .inl words)), (aT, .inl (cT, 400, .inl told)), (aF, .inr (0, [.int fn, .int fz, .int fv, .int fc]))] sz) (fun (u9 : Int32 × (Nat → Int32) × Int32 × (Nat → Int32) × (Nat → Int32) × Int32 × Int32 × Int32 × Int32) => [(cA, .int), (cW, .int), (cT, .int)]) (fun (u9 : Int32 × (Nat → Int32) × Int32 × (Nat → Int32) × (Nat → Int32) × Int32 × Int32 × Int32 × Int32) => [(aP, .inr (3, [.ref aR, .ref aF])), (aR, .inr (2, [.ref aM, .ref aA, .ref aB, .int u9.1])), (aA, .inl (cA, 8, .inl u9.2.1)), (aM, .inr (1, [.ref aW, .ref aT, .int u9.2.2.1])), (aW, .inl (cW, 2048, .inl u9.2.2.2.1)), (aT, .inl (cT, 400, .inl u9.2.2.2.2.1)), (aF, .inr (0, [.int u9.2.2.2.2.2.1, .int u9.2.2.2.2.2.2.1, .int u9.2.2.2.2.2.2.2.1, .int u9.2.2.2.2.2.2.2.2]))])) (va_A [(aP, .inr (3, [.ref aR, .ref aF])), (aR, .inr (2, [.ref aM, .ref aA, .ref aB, .int fault])), (aA, .inl (cA, 8, .inl regs)), (aM, .inr (1, [.ref aW, .ref aT, .int cnt])), (aW, .inl (cW, 2048, .inl words)), (aT, .inl (cT, 400, .inl told)), (aF, .inr (0, [.int fn, .int fz, .int fv, .int fc]))] sz)) 0 0 (va_A [(aP, .inr (3, [.ref aR, .ref aF])), (aR, .inr (2, [.ref aM, .ref aA, .ref aB, .int fault])), (aA, .inl (cA, 8, .inl regs)), (aM, .inr (1, [.ref aW, .ref aT, .int cnt])), (aW, .inl (cW, 2048, .inl words)), (aT, .inl (cT, 400, .inl told)), (aF, .inr (0, [.int fn, .int fz, .int fv, .int fc]))] sz) := by
  refine Met.ofW (cc := cX3_branch) (maxL := 2) (ret := none) (by decide) rfl ?_
  intro p e s m args below meth c s₁ B hml hv
  obtain ⟨rfl, hsz, hP, hK, hD0, hN⟩ := hv
  have hx := B.exec
  have hb := B.bytes
  have hr := B.returns
  have hts := atoms_spec (ws := wsX3_branch) B.pre
  have hown : s.vm.findClass RX3 = some m.cls := findClass_of_methodNamed B.named
  have hlocks := B.notSynchronized
  subst hsz
  have hD := hD0.self (sz := s.heap.size)
  generalize hAe : va_A [(aP, .inr (3, [.ref aR, .ref aF])), (aR, .inr (2, [.ref aM, .ref aA, .ref aB, .int fault])), (aA, .inl (cA, 8, .inl regs)), (aM, .inr (1, [.ref aW, .ref aT, .int cnt])), (aW, .inl (cW, 2048, .inl words)), (aT, .inl (cT, 400, .inl told)), (aF, .inr (0, [.int fn, .int fz, .int fv, .int fc]))] s.heap.size = A at hD ⊢
  have hA : ∀ q : Nat, s.heap.size ≤ q → A q := fun q h => by rw [← hAe]; exact Or.inr h
  have hS : va_S A s.heap s.heap [] := va_S.rf
  have hP : va_P (dC, dI) vwCl [(aP, .inr (3, [.ref aR, .ref aF])), (aR, .inr (2, [.ref aM, .ref aA, .ref aB, .int fault])), (aA, .inl (cA, 8, .inl regs)), (aM, .inr (1, [.ref aW, .ref aT, .int cnt])), (aW, .inl (cW, 2048, .inl words)), (aT, .inl (cT, 400, .inl told)), (aF, .inr (0, [.int fn, .int fz, .int fv, .int fc]))] s.heap := hP
  have hl := lv_entry ([.ref aP, .int k]) (n := 2) (Nat.le_of_ble_eq_true rfl)
  rw [lg_entry_eq]
  generalize (lg_sl ([.ref aP, .int k]) ++ List.replicate (2 - (lg_sl ([.ref aP, .int k])).length) Slot.unset).toArray = ls at hl ⊢
  have hl : lv_has ls 2 [(0, .ref aP), (1, .int k)] := hl
  refine lv_aload_n hx hb dX3_branch_0 rfl (lv_at hl 0 rfl) ?_
  refine lv_iload_n hx hb dX3_branch_1 rfl (lv_at hl 1 rfl) ?_
  have hPc := hP.sub (ws' := []) [] rfl
  have hDc := hD.sub (ws' := []) [] (by decide) rfl
  have hKc := hK.sub (tys' := []) [] rfl
  have hFc := va_free (wc := []) hD hS hA [] rfl
  refine va_calli (va_runS (As := [.int k]) (rest := [.ref aP]) ⟨hx, hb, hml, hown, hts⟩ (s_X3_hasHighestBit l dC dI s.heap.size k) (va_cwS 1 hts gX3_branch_X3_hasHighestBit rfl rfl rfl (by decide +kernel) ⟨Nat.le_of_ble_eq_true rfl, Nat.le_of_ble_eq_true rfl⟩) ⟨q_blind, fun U hU hW => ⟨rfl, q_pay hU hW hPc hKc hDc hN⟩⟩ rfl rfl hl.1 rfl (lv_room (Nat.le_of_ble_eq_true rfl)) dX3_branch_2 ⟨show 0 + 0 ≤ 0 from by omega, show 0 + 0 ≤ 0 from by omega⟩) hS (fun q _ h => hFc q h) hFc (fun r_1 u9 t H locs ht hvm hw_2 hB hz1 hk1 hS => ?_)
  obtain ⟨hP1, hK1, hD1⟩ := hB
  rw [ht] at hP1
  obtain ⟨hP, hD⟩ := va_join (wr := [(aP, .inr (3, [.ref aR, .ref aF])), (aR, .inr (2, [.ref aM, .ref aA, .ref aB, .int fault])), (aA, .inl (cA, 8, .inl regs)), (aM, .inr (1, [.ref aW, .ref aT, .int cnt])), (aW, .inl (cW, 2048, .inl words)), (aT, .inl (cT, 400, .inl told)), (aF, .inr (0, [.int fn, .int fz, .int fv, .int fc]))]) (w1 := []) hP hD [] [0, 1, 2, 3, 4, 5, 6] rfl rfl (by decide) (by decide) hk1 hFc hP1 hD1
  have hP : va_P (dC, dI) vwCl [(aP, .inr (3, [.ref aR, .ref aF])), (aR, .inr (2, [.ref aM, .ref aA, .ref aB, .int fault])), (aA, .inl (cA, 8, .inl regs)), (aM, .inr (1, [.ref aW, .ref aT, .int cnt])), (aW, .inl (cW, 2048, .inl words)), (aT, .inl (cT, 400, .inl told)), (aF, .inr (0, [.int fn, .int fz, .int fv, .int fc]))] H := hP
  have hD : va_D A [(aP, .inr (3, [.ref aR, .ref aF])), (aR, .inr (2, [.ref aM, .ref aA, .ref aB, .int fault])), (aA, .inl (cA, 8, .inl regs)), (aM, .inr (1, [.ref aW, .ref aT, .int cnt])), (aW, .inl (cW, 2048, .inl words)), (aT, .inl (cT, 400, .inl told)), (aF, .inr (0, [.int fn, .int fz, .int fv, .int fc]))] := hD
  refine W.widen (k := 0) (n := 0) (by omega) (by omega) ?_
  try dsimp only at hw_2
  refine q_any (ls := ls) 14 [.ref aP] (fun b_4 => ?_) (fun jn => ?_)
  · refine lv_iload_n hx hb dX3_branch_14 rfl (lv_at hl 1 rfl) ?_
    refine lv_bipush (v := 8) hx hb dX3_branch_15 (by decide) ?_
    refine lv_ishr hx hb dX3_branch_17 ?_
    refine lv_bipush (v := 7) hx hb dX3_branch_18 (by decide) ?_
    refine lv_iand hx hb dX3_branch_20 ?_
    refine lv_ior hx hb dX3_branch_21 ?_
    have hPc := hP.sub (ws' := [(aP, .inr (3, [.ref aR, .ref aF])), (aF, .inr (0, [.int fn, .int fz, .int fv, .int fc]))]) [0, 6] rfl
    have hDc := hD.sub (ws' := [(aP, .inr (3, [.ref aR, .ref aF])), (aF, .inr (0, [.int fn, .int fz, .int fv, .int fc]))]) [0, 6] (by decide) rfl
    have hKc := hK.sub (tys' := []) [] rfl
    have hFc := va_free (wc := [(aP, .inr (3, [.ref aR, .ref aF])), (aF, .inr (0, [.int fn, .int fz, .int fv, .int fc]))]) hD hS hA [0, 6] rfl
    refine va_calli (va_runV (C := RX3) (b := aP) (As := [.int (b_4 ||| ((k >>> (8 &&& 31)) &&& 7))]) (rest := []) ⟨hx, hb, hml, hown, hts⟩ (s_X3_isMet l dC dI H.size aP (b_4 ||| ((k >>> (8 &&& 31)) &&& 7)) aR aF fn fz fv fc) (cwV 1 hts gX3_branch_X3_isMet rfl rfl rfl (by decide +kernel) ⟨Nat.le_of_ble_eq_true rfl, Nat.le_of_ble_eq_true rfl⟩) ⟨q_blind, va_recv hK hP (ci := 3) (q0 := 0) rfl rfl, fun U hU hW => ⟨rfl, q_pay hU hW hPc hKc hDc hN⟩⟩ rfl rfl hl.1 rfl (lv_room (Nat.le_of_ble_eq_true rfl)) dX3_branch_22 ⟨show 0 + 0 ≤ 0 from by omega, show 0 + 0 ≤ 0 from by omega⟩) hS (fun q _ h => hFc q h) hFc (fun r_6 u9 t H locs ht hvm hw_7 hB hz1 hk1 hS => ?_)
    obtain ⟨hP1, hK1, hD1⟩ := hB
    rw [ht] at hP1
    obtain ⟨hP, hD⟩ := va_join (wr := [(aR, .inr (2, [.ref aM, .ref aA, .ref aB, .int fault])), (aA, .inl (cA, 8, .inl regs)), (aM, .inr (1, [.ref aW, .ref aT, .int cnt])), (aW, .inl (cW, 2048, .inl words)), (aT, .inl (cT, 400, .inl told))]) (w1 := [(aP, .inr (3, [.ref aR, .ref aF])), (aF, .inr (0, [.int fn, .int fz, .int fv, .int fc]))]) hP hD [0, 6] [1, 2, 3, 4, 5] rfl rfl (by decide) (by decide) hk1 hFc hP1 hD1
    have hP : va_P (dC, dI) vwCl [(aR, .inr (2, [.ref aM, .ref aA, .ref aB, .int fault])), (aA, .inl (cA, 8, .inl regs)), (aM, .inr (1, [.ref aW, .ref aT, .int cnt])), (aW, .inl (cW, 2048, .inl words)), (aT, .inl (cT, 400, .inl told)), (aP, .inr (3, [.ref aR, .ref aF])), (aF, .inr (0, [.int fn, .int fz, .int fv, .int fc]))] H := hP
    have hD : va_D A [(aR, .inr (2, [.ref aM, .ref aA, .ref aB, .int fault])), (aA, .inl (cA, 8, .inl regs)), (aM, .inr (1, [.ref aW, .ref aT, .int cnt])), (aW, .inl (cW, 2048, .inl words)), (aT, .inl (cT, 400, .inl told)), (aP, .inr (3, [.ref aR, .ref aF])), (aF, .inr (0, [.int fn, .int fz, .int fv, .int fc]))] := hD
    refine W.widen (k := 0) (n := 0) (by omega) (by omega) ?_
    try dsimp only at hw_7
    refine lv_if_eq (tgt := 42) hx hb dX3_branch_25 (by decide) (fun c_8 => ?_) (fun c_8 => ?_)
    · have hP9 := hP.sub (ws' := [(aP, .inr (3, [.ref aR, .ref aF])), (aR, .inr (2, [.ref aM, .ref aA, .ref aB, .int fault])), (aA, .inl (cA, 8, .inl regs)), (aM, .inr (1, [.ref aW, .ref aT, .int cnt])), (aW, .inl (cW, 2048, .inl words)), (aT, .inl (cT, 400, .inl told)), (aF, .inr (0, [.int fn, .int fz, .int fv, .int fc]))]) [5, 0, 1, 2, 3, 4, 6] rfl
      have hD9 := hD.sub (ws' := [(aP, .inr (3, [.ref aR, .ref aF])), (aR, .inr (2, [.ref aM, .ref aA, .ref aB, .int fault])), (aA, .inl (cA, 8, .inl regs)), (aM, .inr (1, [.ref aW, .ref aT, .int cnt])), (aW, .inl (cW, 2048, .inl words)), (aT, .inl (cT, 400, .inl told)), (aF, .inr (0, [.int fn, .int fz, .int fv, .int fc]))]) [5, 0, 1, 2, 3, 4, 6] (by decide) rfl
      have hK9 := hK.sub (tys' := [(cA, .int), (cW, .int), (cT, .int)]) [0, 1, 2] rfl
      exact W.vret hx hb hr (fun t ht hW => ⟨⟨(fault, regs, cnt, words, told, fn, fz, fv, fc), rfl, h4, by rw [ht]; exact hP9, va_K.moved hW.alike hK9, hD9⟩, hS.F ht⟩) hS.2.2 dX3_branch_42
    · refine lv_aload_n hx hb dX3_branch_28 rfl (lv_at hl 0 rfl) ?_
      refine va_get (D := (dC, dI)) (ci := 3) (v := .ref aR) (C := RX3) (T := TX3) (N := 2) hx hb hts (by decide +kernel) hown hK hP 5 rfl rfl 0 (by decide) (hts (.fieldLink RX3 23 "WordGuest$Processor" "parts" "LWordGuest$Parts;") (by decide +kernel)) (fun _ h9 => h9) rfl dX3_branch_29 ?_
      refine lv_iload_n hx hb dX3_branch_32 rfl (lv_at hl 1 rfl) ?_
      refine lv_sipush (v := 255) hx hb dX3_branch_33 (by decide) ?_
      have hPc := hP.sub (ws' := []) [] rfl
      have hDc := hD.sub (ws' := []) [] (by decide) rfl
      have hKc := hK.sub (tys' := []) [] rfl
      have hFc := va_free (wc := []) hD hS hA [] rfl
      refine va_calli (va_runSN (As := [.int k, .int 255]) (rest := [.ref aR]) ⟨hx, hb, hml, hown, hts⟩ (s_X4_signed l dC dI H.size k (255 : Int32)) ⟨va_cnB 2 hts gX3_branch_X4_signed_n178 rfl rfl rfl (hN _ (List.mem_of_getElem? (i := 15) rfl)) (hts (.initialized RX4) (by decide +kernel)) (by decide +kernel) ⟨Nat.le_of_ble_eq_true rfl, Nat.le_of_ble_eq_true rfl⟩, hts (.static yX4_signed) (by decide +kernel), trivial⟩ ⟨q_blind, fun U hU hW => ⟨rfl, q_pay hU hW hPc hKc hDc hN⟩⟩ rfl rfl hl.1 rfl (lv_room (Nat.le_of_ble_eq_true rfl)) dX3_branch_36 ⟨show 0 + 0 ≤ 0 from by omega, show 0 + 0 ≤ 0 from by omega⟩) hS (fun q _ h => hFc q h) hFc (fun r_9 u9 t H locs ht hvm hw_10 hB hz1 hk1 hS => ?_)
      obtain ⟨hP1, hK1, hD1⟩ := hB
      rw [ht] at hP1
      obtain ⟨hP, hD⟩ := va_join (wr := [(aR, .inr (2, [.ref aM, .ref aA, .ref aB, .int fault])), (aA, .inl (cA, 8, .inl regs)), (aM, .inr (1, [.ref aW, .ref aT, .int cnt])), (aW, .inl (cW, 2048, .inl words)), (aT, .inl (cT, 400, .inl told)), (aP, .inr (3, [.ref aR, .ref aF])), (aF, .inr (0, [.int fn, .int fz, .int fv, .int fc]))]) (w1 := []) hP hD [] [0, 1, 2, 3, 4, 5, 6] rfl rfl (by decide) (by decide) hk1 hFc hP1 hD1
      have hP : va_P (dC, dI) vwCl [(aR, .inr (2, [.ref aM, .ref aA, .ref aB, .int fault])), (aA, .inl (cA, 8, .inl regs)), (aM, .inr (1, [.ref aW, .ref aT, .int cnt])), (aW, .inl (cW, 2048, .inl words)), (aT, .inl (cT, 400, .inl told)), (aP, .inr (3, [.ref aR, .ref aF])), (aF, .inr (0, [.int fn, .int fz, .int fv, .int fc]))] H := hP
      have hD : va_D A [(aR, .inr (2, [.ref aM, .ref aA, .ref aB, .int fault])), (aA, .inl (cA, 8, .inl regs)), (aM, .inr (1, [.ref aW, .ref aT, .int cnt])), (aW, .inl (cW, 2048, .inl words)), (aT, .inl (cT, 400, .inl told)), (aP, .inr (3, [.ref aR, .ref aF])), (aF, .inr (0, [.int fn, .int fz, .int fv, .int fc]))] := hD
      refine W.widen (k := 0) (n := 0) (by omega) (by omega) ?_
      try dsimp only at hw_10
      have hPc := hP.sub (ws' := [(aR, .inr (2, [.ref aM, .ref aA, .ref aB, .int fault])), (aA, .inl (cA, 8, .inl regs))]) [0, 1] rfl
      have hDc := hD.sub (ws' := [(aR, .inr (2, [.ref aM, .ref aA, .ref aB, .int fault])), (aA, .inl (cA, 8, .inl regs))]) [0, 1] (by decide) rfl
      have hKc := hK.sub (tys' := [(cA, .int)]) [0] rfl
      have hFc := va_free (wc := [(aR, .inr (2, [.ref aM, .ref aA, .ref aB, .int fault])), (aA, .inl (cA, 8, .inl regs))]) hD hS hA [0, 1] rfl
      refine va_callv (va_runV (C := RX2) (b := aR) (As := [.int r_9]) (rest := []) ⟨hx, hb, hml, hown, hts⟩ (s_X2_goOn l dC dI H.size aR r_9 aM aA aB fault cA regs) (cwV 1 hts gX3_branch_X2_goOn rfl rfl rfl (by decide +kernel) ⟨Nat.le_of_ble_eq_true rfl, Nat.le_of_ble_eq_true rfl⟩) ⟨q_blind, va_recv hK hP (ci := 2) (q0 := 0) rfl rfl, fun U hU hW => ⟨rfl, q_pay hU hW hPc hKc hDc hN⟩⟩ rfl rfl hl.1 rfl (lv_room (Nat.le_of_ble_eq_true rfl)) dX3_branch_39 ⟨show 0 + 0 ≤ 0 from by omega, show 0 + 0 ≤ 0 from by omega⟩) hS (fun q _ h => hFc q h) hFc (fun u9 t H locs ht hvm hw_12 hB hz1 hk1 hS => ?_)
      obtain ⟨regs2_13, rfl⟩ : ∃ z, z = u9 := ⟨_, rfl⟩
      obtain ⟨hP1, hK1, hD1⟩ := hB
      rw [ht] at hP1
      obtain ⟨hP, hD⟩ := va_join (wr := [(aM, .inr (1, [.ref aW, .ref aT, .int cnt])), (aW, .inl (cW, 2048, .inl words)), (aT, .inl (cT, 400, .inl told)), (aP, .inr (3, [.ref aR, .ref aF])), (aF, .inr (0, [.int fn, .int fz, .int fv, .int fc]))]) (w1 := [(aR, .inr (2, [.ref aM, .ref aA, .ref aB, .int fault])), (aA, .inl (cA, 8, .inl regs2_13))]) hP hD [0, 1] [2, 3, 4, 5, 6] rfl rfl (by decide) (by decide) hk1 hFc hP1 hD1
      have hP : va_P (dC, dI) vwCl [(aM, .inr (1, [.ref aW, .ref aT, .int cnt])), (aW, .inl (cW, 2048, .inl words)), (aT, .inl (cT, 400, .inl told)), (aP, .inr (3, [.ref aR, .ref aF])), (aF, .inr (0, [.int fn, .int fz, .int fv, .int fc])), (aR, .inr (2, [.ref aM, .ref aA, .ref aB, .int fault])), (aA, .inl (cA, 8, .inl regs2_13))] H := hP
      have hD : va_D A [(aM, .inr (1, [.ref aW, .ref aT, .int cnt])), (aW, .inl (cW, 2048, .inl words)), (aT, .inl (cT, 400, .inl told)), (aP, .inr (3, [.ref aR, .ref aF])), (aF, .inr (0, [.int fn, .int fz, .int fv, .int fc])), (aR, .inr (2, [.ref aM, .ref aA, .ref aB, .int fault])), (aA, .inl (cA, 8, .inl regs2_13))] := hD
      refine W.widen (k := 0) (n := 0) (by omega) (by omega) ?_
      try dsimp only at hw_12
      have hP9 := hP.sub (ws' := [(aP, .inr (3, [.ref aR, .ref aF])), (aR, .inr (2, [.ref aM, .ref aA, .ref aB, .int fault])), (aA, .inl (cA, 8, .inl regs2_13)), (aM, .inr (1, [.ref aW, .ref aT, .int cnt])), (aW, .inl (cW, 2048, .inl words)), (aT, .inl (cT, 400, .inl told)), (aF, .inr (0, [.int fn, .int fz, .int fv, .int fc]))]) [3, 5, 6, 0, 1, 2, 4] rfl
      have hD9 := hD.sub (ws' := [(aP, .inr (3, [.ref aR, .ref aF])), (aR, .inr (2, [.ref aM, .ref aA, .ref aB, .int fault])), (aA, .inl (cA, 8, .inl regs2_13)), (aM, .inr (1, [.ref aW, .ref aT, .int cnt])), (aW, .inl (cW, 2048, .inl words)), (aT, .inl (cT, 400, .inl told)), (aF, .inr (0, [.int fn, .int fz, .int fv, .int fc]))]) [3, 5, 6, 0, 1, 2, 4] (by decide) rfl
      have hK9 := hK.sub (tys' := [(cA, .int), (cW, .int), (cT, .int)]) [0, 1, 2] rfl
      exact W.vret hx hb hr (fun t ht hW => ⟨⟨(fault, regs2_13, cnt, words, told, fn, fz, fv, fc), rfl, h4, by rw [ht]; exact hP9, va_K.moved hW.alike hK9, hD9⟩, hS.F ht⟩) hS.2.2 dX3_branch_42
  refine lv_if_eq (tgt := 13) hx hb dX3_branch_5 (by decide) (fun c_3 => ?_) (fun c_3 => ?_)
  · refine lv_iconst (v := 0) hx hb dX3_branch_13 (by decide) ?_
    exact jn _
  · refine lv_bipush (v := 8) hx hb dX3_branch_8 (by decide) ?_
    refine lv_goto (tgt := 14) hx hb dX3_branch_10 (by decide) ?_
    exact jn _
set_option maxHeartbeats 4000000 in
set_option maxRecDepth 100000 in
theorem s_X3_jump (l : Launch) (dC : Nat → ClassId) (dI : Nat → Nat → Nat) (sz : Nat) (aP : Nat) (k : Int32) (aR : Nat) (aF : Nat) (aM : Nat) (aA : Nat) (aB : Nat) (fault : Int32) (cA : ClassId) (regs : Nat → Int32) (aW : Nat) (aT : Nat) (cnt : Int32) (cW : ClassId) (words : Nat → Int32) (cT : ClassId) (told : Nat → Int32) (fn : Int32) (fz : Int32) (fv : Int32) (fc : Int32) (h4 : ok4 cnt) : Met l yX3_jump wsX3_jump ({ frames := 3, cells := 0, slots := 0, locals := 68 }) (va_Pc [.ref aP, .int k] (q_pre dC dI sz [(aP, .inr (3, [.ref aR, .ref aF])), (aR, .inr (2, [.ref aM, .ref aA, .ref aB, .int fault])), (aA, .inl (cA, 8, .inl regs)), (aM, .inr (1, [.ref aW, .ref aT, .int cnt])), (aW, .inl (cW, 2048, .inl words)), (aT, .inl (cT, 400, .inl told)), (aF, .inr (0, [.int fn, .int fz, .int fv, .int fc]))] [(cA, .int), (cW, .int), (cT, .int)])) (va_Qv (fun (u9 : Int32 × (Nat → Int32) × Int32 × (Nat → Int32) × (Nat → Int32) × Int32 × Int32 × Int32 × Int32) => ok4 u9.2.2.1) (q_at dC dI (va_A [(aP, .inr (3, [.ref aR, .ref aF])), (aR, .inr (2, [.ref aM, .ref aA, .ref aB, .int fault])), (aA, .inl (cA, 8, .inl regs)), (aM, .inr (1, [.ref aW, .ref aT, .int cnt])), (aW, .inl (cW, 2048, .inl words)), (aT, .inl (cT, 400, .inl told)), (aF, .inr (0, [.int fn, .int fz, .int fv, .int fc]))] sz) (fun (u9 : Int32 × (Nat → Int32) × Int32 × (Nat → Int32) × (Nat → Int32) × Int32 × Int32 × Int32 × Int32) => [(cA, .int), (cW, .int), (cT, .int)]) (fun (u9 : Int32 × (Nat → Int32) × Int32 × (Nat → Int32) × (Nat → Int32) × Int32 × Int32 × Int32 × Int32) => [(aP, .inr (3, [.ref aR, .ref aF])), (aR, .inr (2, [.ref aM, .ref aA, .ref aB, .int u9.1])), (aA, .inl (cA, 8, .inl u9.2.1)), (aM, .inr (1, [.ref aW, .ref aT, .int u9.2.2.1])), (aW, .inl (cW, 2048, .inl u9.2.2.2.1)), (aT, .inl (cT, 400, .inl u9.2.2.2.2.1)), (aF, .inr (0, [.int u9.2.2.2.2.2.1, .int u9.2.2.2.2.2.2.1, .int u9.2.2.2.2.2.2.2.1, .int u9.2.2.2.2.2.2.2.2]))])) (va_A [(aP, .inr (3, [.ref aR, .ref aF])), (aR, .inr (2, [.ref aM, .ref aA, .ref aB, .int fault])), (aA, .inl (cA, 8, .inl regs)), (aM, .inr (1, [.ref aW, .ref aT, .int cnt])), (aW, .inl (cW, 2048, .inl words)), (aT, .inl (cT, 400, .inl told)), (aF, .inr (0, [.int fn, .int fz, .int fv, .int fc]))] sz)) 0 0 (va_A [(aP, .inr (3, [.ref aR, .ref aF])), (aR, .inr (2, [.ref aM, .ref aA, .ref aB, .int fault])), (aA, .inl (cA, 8, .inl regs)), (aM, .inr (1, [.ref aW, .ref aT, .int cnt])), (aW, .inl (cW, 2048, .inl words)), (aT, .inl (cT, 400, .inl told)), (aF, .inr (0, [.int fn, .int fz, .int fv, .int fc]))] sz) := by
  refine Met.ofW (cc := cX3_jump) (maxL := 2) (ret := none) (by decide) rfl ?_
  intro p e s m args below meth c s₁ B hml hv
  obtain ⟨rfl, hsz, hP, hK, hD0, hN⟩ := hv
  have hx := B.exec
  have hb := B.bytes
  have hr := B.returns
  have hts := atoms_spec (ws := wsX3_jump) B.pre
  have hown : s.vm.findClass RX3 = some m.cls := findClass_of_methodNamed B.named
  have hlocks := B.notSynchronized
  subst hsz
  have hD := hD0.self (sz := s.heap.size)
  generalize hAe : va_A [(aP, .inr (3, [.ref aR, .ref aF])), (aR, .inr (2, [.ref aM, .ref aA, .ref aB, .int fault])), (aA, .inl (cA, 8, .inl regs)), (aM, .inr (1, [.ref aW, .ref aT, .int cnt])), (aW, .inl (cW, 2048, .inl words)), (aT, .inl (cT, 400, .inl told)), (aF, .inr (0, [.int fn, .int fz, .int fv, .int fc]))] s.heap.size = A at hD ⊢
  have hA : ∀ q : Nat, s.heap.size ≤ q → A q := fun q h => by rw [← hAe]; exact Or.inr h
  have hS : va_S A s.heap s.heap [] := va_S.rf
  have hP : va_P (dC, dI) vwCl [(aP, .inr (3, [.ref aR, .ref aF])), (aR, .inr (2, [.ref aM, .ref aA, .ref aB, .int fault])), (aA, .inl (cA, 8, .inl regs)), (aM, .inr (1, [.ref aW, .ref aT, .int cnt])), (aW, .inl (cW, 2048, .inl words)), (aT, .inl (cT, 400, .inl told)), (aF, .inr (0, [.int fn, .int fz, .int fv, .int fc]))] s.heap := hP
  have hl := lv_entry ([.ref aP, .int k]) (n := 2) (Nat.le_of_ble_eq_true rfl)
  rw [lg_entry_eq]
  generalize (lg_sl ([.ref aP, .int k]) ++ List.replicate (2 - (lg_sl ([.ref aP, .int k])).length) Slot.unset).toArray = ls at hl ⊢
  have hl : lv_has ls 2 [(0, .ref aP), (1, .int k)] := hl
  refine lv_iload_n hx hb dX3_jump_0 rfl (lv_at hl 1 rfl) ?_
  have hPc := hP.sub (ws' := []) [] rfl
  have hDc := hD.sub (ws' := []) [] (by decide) rfl
  have hKc := hK.sub (tys' := []) [] rfl
  have hFc := va_free (wc := []) hD hS hA [] rfl
  refine va_calli (va_runS (As := [.int k]) (rest := []) ⟨hx, hb, hml, hown, hts⟩ (s_X3_isRegisterWay l dC dI s.heap.size k) (va_cwS 1 hts gX3_jump_X3_isRegisterWay rfl rfl rfl (by decide +kernel) ⟨Nat.le_of_ble_eq_true rfl, Nat.le_of_ble_eq_true rfl⟩) ⟨q_blind, fun U hU hW => ⟨rfl, q_pay hU hW hPc hKc hDc hN⟩⟩ rfl rfl hl.1 rfl (lv_room (Nat.le_of_ble_eq_true rfl)) dX3_jump_1 ⟨show 0 + 0 ≤ 0 from by omega, show 0 + 0 ≤ 0 from by omega⟩) hS (fun q _ h => hFc q h) hFc (fun r_1 u9 t H locs ht hvm hw_2 hB hz1 hk1 hS => ?_)
  obtain ⟨hP1, hK1, hD1⟩ := hB
  rw [ht] at hP1
  obtain ⟨hP, hD⟩ := va_join (wr := [(aP, .inr (3, [.ref aR, .ref aF])), (aR, .inr (2, [.ref aM, .ref aA, .ref aB, .int fault])), (aA, .inl (cA, 8, .inl regs)), (aM, .inr (1, [.ref aW, .ref aT, .int cnt])), (aW, .inl (cW, 2048, .inl words)), (aT, .inl (cT, 400, .inl told)), (aF, .inr (0, [.int fn, .int fz, .int fv, .int fc]))]) (w1 := []) hP hD [] [0, 1, 2, 3, 4, 5, 6] rfl rfl (by decide) (by decide) hk1 hFc hP1 hD1
  have hP : va_P (dC, dI) vwCl [(aP, .inr (3, [.ref aR, .ref aF])), (aR, .inr (2, [.ref aM, .ref aA, .ref aB, .int fault])), (aA, .inl (cA, 8, .inl regs)), (aM, .inr (1, [.ref aW, .ref aT, .int cnt])), (aW, .inl (cW, 2048, .inl words)), (aT, .inl (cT, 400, .inl told)), (aF, .inr (0, [.int fn, .int fz, .int fv, .int fc]))] H := hP
  have hD : va_D A [(aP, .inr (3, [.ref aR, .ref aF])), (aR, .inr (2, [.ref aM, .ref aA, .ref aB, .int fault])), (aA, .inl (cA, 8, .inl regs)), (aM, .inr (1, [.ref aW, .ref aT, .int cnt])), (aW, .inl (cW, 2048, .inl words)), (aT, .inl (cT, 400, .inl told)), (aF, .inr (0, [.int fn, .int fz, .int fv, .int fc]))] := hD
  refine W.widen (k := 0) (n := 0) (by omega) (by omega) ?_
  try dsimp only at hw_2
  refine lv_if_eq (tgt := 12) hx hb dX3_jump_4 (by decide) (fun c_3 => ?_) (fun c_3 => ?_)
  · refine lv_aload_n hx hb dX3_jump_12 rfl (lv_at hl 0 rfl) ?_
    refine va_get (D := (dC, dI)) (ci := 3) (v := .ref aR) (C := RX3) (T := TX3) (N := 2) hx hb hts (by decide +kernel) hown hK hP 0 rfl rfl 0 (by decide) (hts (.fieldLink RX3 23 "WordGuest$Processor" "parts" "LWordGuest$Parts;") (by decide +kernel)) (fun _ h9 => h9) rfl dX3_jump_13 ?_
    refine va_getN (D := (dC, dI)) (ci := 2) (v := .ref aA) (C := RX2) (T := TX2) (N := 4) hx hb hts (by decide +kernel) hown hK hP 1 rfl rfl 1 (by decide) ((va_Nw.use rfl (hN _ (List.mem_of_getElem? (i := 9) rfl)))) (fun _ h9 => h9) rfl dX3_jump_16 ?_
    refine lv_bipush (v := 7) hx hb dX3_jump_19 (by decide) ?_
    refine lv_aload_n hx hb dX3_jump_21 rfl (lv_at hl 0 rfl) ?_
    refine va_get (D := (dC, dI)) (ci := 3) (v := .ref aR) (C := RX3) (T := TX3) (N := 2) hx hb hts (by decide +kernel) hown hK hP 0 rfl rfl 0 (by decide) (hts (.fieldLink RX3 23 "WordGuest$Processor" "parts" "LWordGuest$Parts;") (by decide +kernel)) (fun _ h9 => h9) rfl dX3_jump_22 ?_
    refine lv_iload_n hx hb dX3_jump_25 rfl (lv_at hl 1 rfl) ?_
    refine lv_ldc (v := 65535) hx hb hown (hts (.constant RX3 69 (65535)) (by decide +kernel)) dX3_jump_26 ?_
    have hPc := hP.sub (ws' := [(aR, .inr (2, [.ref aM, .ref aA, .ref aB, .int fault])), (aA, .inl (cA, 8, .inl regs)), (aM, .inr (1, [.ref aW, .ref aT, .int cnt])), (aW, .inl (cW, 2048, .inl words))]) [1, 2, 3, 4] rfl
    have hDc := hD.sub (ws' := [(aR, .inr (2, [.ref aM, .ref aA, .ref aB, .int fault])), (aA, .inl (cA, 8, .inl regs)), (aM, .inr (1, [.ref aW, .ref aT, .int cnt])), (aW, .inl (cW, 2048, .inl words))]) [1, 2, 3, 4] (by decide) rfl
    have hKc := hK.sub (tys' := [(cA, .int), (cW, .int)]) [0, 1] rfl
    have hFc := va_free (wc := [(aR, .inr (2, [.ref aM, .ref aA, .ref aB, .int fault])), (aA, .inl (cA, 8, .inl regs)), (aM, .inr (1, [.ref aW, .ref aT, .int cnt])), (aW, .inl (cW, 2048, .inl words))]) hD hS hA [1, 2, 3, 4] rfl
    refine va_calli (va_runV (C := RX2) (b := aR) (As := [.int k, .int 65535]) (rest := [.int 7, .ref aA]) ⟨hx, hb, hml, hown, hts⟩ (s_X2_locate l dC dI H.size aR k (65535 : Int32) aM aA aB fault cA regs aW aT cnt cW words) (cwV 2 hts gX3_jump_X2_locate rfl rfl rfl (by decide +kernel) ⟨Nat.le_of_ble_eq_true rfl, Nat.le_of_ble_eq_true rfl⟩) ⟨q_blind, va_recv hK hP (ci := 2) (q0 := 1) rfl rfl, fun U hU hW => ⟨rfl, q_pay hU hW hPc hKc hDc hN⟩⟩ rfl rfl hl.1 rfl (lv_room (Nat.le_of_ble_eq_true rfl)) dX3_jump_28 ⟨show 0 + 0 ≤ 0 from by omega, show 0 + 0 ≤ 0 from by omega⟩) hS (fun q _ h => hFc q h) hFc (fun r_4 u9 t H locs ht hvm hw_5 hB hz1 hk1 hS => ?_)
    obtain ⟨fault2_6, regs2_7⟩ := u9
    obtain ⟨hP1, hK1, hD1⟩ := hB
    rw [ht] at hP1
    obtain ⟨hP, hD⟩ := va_join (wr := [(aP, .inr (3, [.ref aR, .ref aF])), (aT, .inl (cT, 400, .inl told)), (aF, .inr (0, [.int fn, .int fz, .int fv, .int fc]))]) (w1 := [(aR, .inr (2, [.ref aM, .ref aA, .ref aB, .int fault2_6])), (aA, .inl (cA, 8, .inl regs2_7)), (aM, .inr (1, [.ref aW, .ref aT, .int cnt])), (aW, .inl (cW, 2048, .inl words))]) hP hD [1, 2, 3, 4] [0, 5, 6] rfl rfl (by decide) (by decide) hk1 hFc hP1 hD1
    have hP : va_P (dC, dI) vwCl [(aP, .inr (3, [.ref aR, .ref aF])), (aT, .inl (cT, 400, .inl told)), (aF, .inr (0, [.int fn, .int fz, .int fv, .int fc])), (aR, .inr (2, [.ref aM, .ref aA, .ref aB, .int fault2_6])), (aA, .inl (cA, 8, .inl regs2_7)), (aM, .inr (1, [.ref aW, .ref aT, .int cnt])), (aW, .inl (cW, 2048, .inl words))] H := hP
    have hD : va_D A [(aP, .inr (3, [.ref aR, .ref aF])), (aT, .inl (cT, 400, .inl told)), (aF, .inr (0, [.int fn, .int fz, .int fv, .int fc])), (aR, .inr (2, [.ref aM, .ref aA, .ref aB, .int fault2_6])), (aA, .inl (cA, 8, .inl regs2_7)), (aM, .inr (1, [.ref aW, .ref aT, .int cnt])), (aW, .inl (cW, 2048, .inl words))] := hD
    refine W.widen (k := 0) (n := 0) (by omega) (by omega) ?_
    try dsimp only at hw_5
    refine va_iast hx hb hK hP hD hS 4 0 rfl rfl (by unfold vp_in; decide) dX3_jump_31 (fun H locs hP hD hS => ?_)
    have hP : va_P (dC, dI) vwCl [(aP, .inr (3, [.ref aR, .ref aF])), (aT, .inl (cT, 400, .inl told)), (aF, .inr (0, [.int fn, .int fz, .int fv, .int fc])), (aR, .inr (2, [.ref aM, .ref aA, .ref aB, .int fault2_6])), (aA, .inl (cA, 8, .inl (upd regs2_7 (7 : Int32).toNatClampNeg r_4))), (aM, .inr (1, [.ref aW, .ref aT, .int cnt])), (aW, .inl (cW, 2048, .inl words))] H := hP
    have hD : va_D A [(aP, .inr (3, [.ref aR, .ref aF])), (aT, .inl (cT, 400, .inl told)), (aF, .inr (0, [.int fn, .int fz, .int fv, .int fc])), (aR, .inr (2, [.ref aM, .ref aA, .ref aB, .int fault2_6])), (aA, .inl (cA, 8, .inl (upd regs2_7 (7 : Int32).toNatClampNeg r_4))), (aM, .inr (1, [.ref aW, .ref aT, .int cnt])), (aW, .inl (cW, 2048, .inl words))] := hD
    generalize (upd regs2_7 (7 : Int32).toNatClampNeg r_4) = g_8 at hP hD
    have hP9 := hP.sub (ws' := [(aP, .inr (3, [.ref aR, .ref aF])), (aR, .inr (2, [.ref aM, .ref aA, .ref aB, .int fault2_6])), (aA, .inl (cA, 8, .inl g_8)), (aM, .inr (1, [.ref aW, .ref aT, .int cnt])), (aW, .inl (cW, 2048, .inl words)), (aT, .inl (cT, 400, .inl told)), (aF, .inr (0, [.int fn, .int fz, .int fv, .int fc]))]) [0, 3, 4, 5, 6, 1, 2] rfl
    have hD9 := hD.sub (ws' := [(aP, .inr (3, [.ref aR, .ref aF])), (aR, .inr (2, [.ref aM, .ref aA, .ref aB, .int fault2_6])), (aA, .inl (cA, 8, .inl g_8)), (aM, .inr (1, [.ref aW, .ref aT, .int cnt])), (aW, .inl (cW, 2048, .inl words)), (aT, .inl (cT, 400, .inl told)), (aF, .inr (0, [.int fn, .int fz, .int fv, .int fc]))]) [0, 3, 4, 5, 6, 1, 2] (by decide) rfl
    have hK9 := hK.sub (tys' := [(cA, .int), (cW, .int), (cT, .int)]) [0, 1, 2] rfl
    exact W.vret hx hb hr (fun t ht hW => ⟨⟨(fault2_6, g_8, cnt, words, told, fn, fz, fv, fc), rfl, h4, by rw [ht]; exact hP9, va_K.moved hW.alike hK9, hD9⟩, hS.F ht⟩) hS.2.2 dX3_jump_32
  · refine lv_aload_n hx hb dX3_jump_7 rfl (lv_at hl 0 rfl) ?_
    have hPc := hP.sub (ws' := [(aP, .inr (3, [.ref aR, .ref aF])), (aR, .inr (2, [.ref aM, .ref aA, .ref aB, .int fault]))]) [0, 1] rfl
    have hDc := hD.sub (ws' := [(aP, .inr (3, [.ref aR, .ref aF])), (aR, .inr (2, [.ref aM, .ref aA, .ref aB, .int fault]))]) [0, 1] (by decide) rfl
    have hKc := hK.sub (tys' := []) [] rfl
    have hFc := va_free (wc := [(aP, .inr (3, [.ref aR, .ref aF])), (aR, .inr (2, [.ref aM, .ref aA, .ref aB, .int fault]))]) hD hS hA [0, 1] rfl
    refine va_callv (va_runV (C := RX3) (b := aP) (As := []) (rest := []) ⟨hx, hb, hml, hown, hts⟩ (s_X3_refuse l dC dI H.size aP aR aF aM aA aB fault) (cwV 0 hts gX3_jump_X3_refuse rfl rfl rfl (by decide +kernel) ⟨Nat.le_of_ble_eq_true rfl, Nat.le_of_ble_eq_true rfl⟩) ⟨q_blind, va_recv hK hP (ci := 3) (q0 := 0) rfl rfl, fun U hU hW => ⟨rfl, q_pay hU hW hPc hKc hDc hN⟩⟩ rfl rfl hl.1 rfl (lv_room (Nat.le_of_ble_eq_true rfl)) dX3_jump_8 ⟨show 0 + 0 ≤ 0 from by omega, show 0 + 0 ≤ 0 from by omega⟩) hS (fun q _ h => hFc q h) hFc (fun u9 t H locs ht hvm hw_10 hB hz1 hk1 hS => ?_)
    obtain ⟨fault2_11, rfl⟩ : ∃ z, z = u9 := ⟨_, rfl⟩
    obtain ⟨hP1, hK1, hD1⟩ := hB
    rw [ht] at hP1
    obtain ⟨hP, hD⟩ := va_join (wr := [(aA, .inl (cA, 8, .inl regs)), (aM, .inr (1, [.ref aW, .ref aT, .int cnt])), (aW, .inl (cW, 2048, .inl words)), (aT, .inl (cT, 400, .inl told)), (aF, .inr (0, [.int fn, .int fz, .int fv, .int fc]))]) (w1 := [(aP, .inr (3, [.ref aR, .ref aF])), (aR, .inr (2, [.ref aM, .ref aA, .ref aB, .int fault2_11]))]) hP hD [0, 1] [2, 3, 4, 5, 6] rfl rfl (by decide) (by decide) hk1 hFc hP1 hD1
    have hP : va_P (dC, dI) vwCl [(aA, .inl (cA, 8, .inl regs)), (aM, .inr (1, [.ref aW, .ref aT, .int cnt])), (aW, .inl (cW, 2048, .inl words)), (aT, .inl (cT, 400, .inl told)), (aF, .inr (0, [.int fn, .int fz, .int fv, .int fc])), (aP, .inr (3, [.ref aR, .ref aF])), (aR, .inr (2, [.ref aM, .ref aA, .ref aB, .int fault2_11]))] H := hP
    have hD : va_D A [(aA, .inl (cA, 8, .inl regs)), (aM, .inr (1, [.ref aW, .ref aT, .int cnt])), (aW, .inl (cW, 2048, .inl words)), (aT, .inl (cT, 400, .inl told)), (aF, .inr (0, [.int fn, .int fz, .int fv, .int fc])), (aP, .inr (3, [.ref aR, .ref aF])), (aR, .inr (2, [.ref aM, .ref aA, .ref aB, .int fault2_11]))] := hD
    refine W.widen (k := 0) (n := 0) (by omega) (by omega) ?_
    try dsimp only at hw_10
    have hP9 := hP.sub (ws' := [(aP, .inr (3, [.ref aR, .ref aF])), (aR, .inr (2, [.ref aM, .ref aA, .ref aB, .int fault2_11])), (aA, .inl (cA, 8, .inl regs)), (aM, .inr (1, [.ref aW, .ref aT, .int cnt])), (aW, .inl (cW, 2048, .inl words)), (aT, .inl (cT, 400, .inl told)), (aF, .inr (0, [.int fn, .int fz, .int fv, .int fc]))]) [5, 6, 0, 1, 2, 3, 4] rfl
    have hD9 := hD.sub (ws' := [(aP, .inr (3, [.ref aR, .ref aF])), (aR, .inr (2, [.ref aM, .ref aA, .ref aB, .int fault2_11])), (aA, .inl (cA, 8, .inl regs)), (aM, .inr (1, [.ref aW, .ref aT, .int cnt])), (aW, .inl (cW, 2048, .inl words)), (aT, .inl (cT, 400, .inl told)), (aF, .inr (0, [.int fn, .int fz, .int fv, .int fc]))]) [5, 6, 0, 1, 2, 3, 4] (by decide) rfl
    have hK9 := hK.sub (tys' := [(cA, .int), (cW, .int), (cT, .int)]) [0, 1, 2] rfl
    exact W.vret hx hb hr (fun t ht hW => ⟨⟨(fault2_11, regs, cnt, words, told, fn, fz, fv, fc), rfl, h4, by rw [ht]; exact hP9, va_K.moved hW.alike hK9, hD9⟩, hS.F ht⟩) hS.2.2 dX3_jump_11
set_option maxHeartbeats 4000000 in
set_option maxRecDepth 100000 in
theorem s_X3_callPart (l : Launch) (dC : Nat → ClassId) (dI : Nat → Nat → Nat) (sz : Nat) (aP : Nat) (k : Int32) (aR : Nat) (aF : Nat) (aM : Nat) (aA : Nat) (aB : Nat) (fault : Int32) (cA : ClassId) (regs : Nat → Int32) (aW : Nat) (aT : Nat) (cnt : Int32) (cW : ClassId) (words : Nat → Int32) (cT : ClassId) (told : Nat → Int32) (fn : Int32) (fz : Int32) (fv : Int32) (fc : Int32) (h4 : ok4 cnt) : Met l yX3_callPart wsX3_callPart ({ frames := 3, cells := 0, slots := 0, locals := 70 }) (va_Pc [.ref aP, .int k] (q_pre dC dI sz [(aP, .inr (3, [.ref aR, .ref aF])), (aR, .inr (2, [.ref aM, .ref aA, .ref aB, .int fault])), (aA, .inl (cA, 8, .inl regs)), (aM, .inr (1, [.ref aW, .ref aT, .int cnt])), (aW, .inl (cW, 2048, .inl words)), (aT, .inl (cT, 400, .inl told)), (aF, .inr (0, [.int fn, .int fz, .int fv, .int fc]))] [(cA, .int), (cW, .int), (cT, .int)])) (va_Qv (fun (u9 : Int32 × (Nat → Int32) × Int32 × (Nat → Int32) × (Nat → Int32) × Int32 × Int32 × Int32 × Int32) => ok4 u9.2.2.1) (q_at dC dI (va_A [(aP, .inr (3, [.ref aR, .ref aF])), (aR, .inr (2, [.ref aM, .ref aA, .ref aB, .int fault])), (aA, .inl (cA, 8, .inl regs)), (aM, .inr (1, [.ref aW, .ref aT, .int cnt])), (aW, .inl (cW, 2048, .inl words)), (aT, .inl (cT, 400, .inl told)), (aF, .inr (0, [.int fn, .int fz, .int fv, .int fc]))] sz) (fun (u9 : Int32 × (Nat → Int32) × Int32 × (Nat → Int32) × (Nat → Int32) × Int32 × Int32 × Int32 × Int32) => [(cA, .int), (cW, .int), (cT, .int)]) (fun (u9 : Int32 × (Nat → Int32) × Int32 × (Nat → Int32) × (Nat → Int32) × Int32 × Int32 × Int32 × Int32) => [(aP, .inr (3, [.ref aR, .ref aF])), (aR, .inr (2, [.ref aM, .ref aA, .ref aB, .int u9.1])), (aA, .inl (cA, 8, .inl u9.2.1)), (aM, .inr (1, [.ref aW, .ref aT, .int u9.2.2.1])), (aW, .inl (cW, 2048, .inl u9.2.2.2.1)), (aT, .inl (cT, 400, .inl u9.2.2.2.2.1)), (aF, .inr (0, [.int u9.2.2.2.2.2.1, .int u9.2.2.2.2.2.2.1, .int u9.2.2.2.2.2.2.2.1, .int u9.2.2.2.2.2.2.2.2]))])) (va_A [(aP, .inr (3, [.ref aR, .ref aF])), (aR, .inr (2, [.ref aM, .ref aA, .ref aB, .int fault])), (aA, .inl (cA, 8, .inl regs)), (aM, .inr (1, [.ref aW, .ref aT, .int cnt])), (aW, .inl (cW, 2048, .inl words)), (aT, .inl (cT, 400, .inl told)), (aF, .inr (0, [.int fn, .int fz, .int fv, .int fc]))] sz)) 0 0 (va_A [(aP, .inr (3, [.ref aR, .ref aF])), (aR, .inr (2, [.ref aM, .ref aA, .ref aB, .int fault])), (aA, .inl (cA, 8, .inl regs)), (aM, .inr (1, [.ref aW, .ref aT, .int cnt])), (aW, .inl (cW, 2048, .inl words)), (aT, .inl (cT, 400, .inl told)), (aF, .inr (0, [.int fn, .int fz, .int fv, .int fc]))] sz) := by
  refine Met.ofW (cc := cX3_callPart) (maxL := 4) (ret := none) (by decide) rfl ?_
  intro p e s m args below meth c s₁ B hml hv
  obtain ⟨rfl, hsz, hP, hK, hD0, hN⟩ := hv
  have hx := B.exec
  have hb := B.bytes
  have hr := B.returns
  have hts := atoms_spec (ws := wsX3_callPart) B.pre
  have hown : s.vm.findClass RX3 = some m.cls := findClass_of_methodNamed B.named
  have hlocks := B.notSynchronized
  subst hsz
  have hD := hD0.self (sz := s.heap.size)
  generalize hAe : va_A [(aP, .inr (3, [.ref aR, .ref aF])), (aR, .inr (2, [.ref aM, .ref aA, .ref aB, .int fault])), (aA, .inl (cA, 8, .inl regs)), (aM, .inr (1, [.ref aW, .ref aT, .int cnt])), (aW, .inl (cW, 2048, .inl words)), (aT, .inl (cT, 400, .inl told)), (aF, .inr (0, [.int fn, .int fz, .int fv, .int fc]))] s.heap.size = A at hD ⊢
  have hA : ∀ q : Nat, s.heap.size ≤ q → A q := fun q h => by rw [← hAe]; exact Or.inr h
  have hS : va_S A s.heap s.heap [] := va_S.rf
  have hP : va_P (dC, dI) vwCl [(aP, .inr (3, [.ref aR, .ref aF])), (aR, .inr (2, [.ref aM, .ref aA, .ref aB, .int fault])), (aA, .inl (cA, 8, .inl regs)), (aM, .inr (1, [.ref aW, .ref aT, .int cnt])), (aW, .inl (cW, 2048, .inl words)), (aT, .inl (cT, 400, .inl told)), (aF, .inr (0, [.int fn, .int fz, .int fv, .int fc]))] s.heap := hP
  have hl := lv_entry ([.ref aP, .int k]) (n := 4) (Nat.le_of_ble_eq_true rfl)
  rw [lg_entry_eq]
  generalize (lg_sl ([.ref aP, .int k]) ++ List.replicate (4 - (lg_sl ([.ref aP, .int k])).length) Slot.unset).toArray = ls at hl ⊢
  have hl : lv_has ls 4 [(0, .ref aP), (1, .int k)] := hl
  refine lv_iload_n hx hb dX3_callPart_0 rfl (lv_at hl 1 rfl) ?_
  have hPc := hP.sub (ws' := []) [] rfl
  have hDc := hD.sub (ws' := []) [] (by decide) rfl
  have hKc := hK.sub (tys' := []) [] rfl
  have hFc := va_free (wc := []) hD hS hA [] rfl
  refine va_calli (va_runS (As := [.int k]) (rest := []) ⟨hx, hb, hml, hown, hts⟩ (s_X3_isRegisterWay l dC dI s.heap.size k) (va_cwS 1 hts gX3_callPart_X3_isRegisterWay rfl rfl rfl (by decide +kernel) ⟨Nat.le_of_ble_eq_true rfl, Nat.le_of_ble_eq_true rfl⟩) ⟨q_blind, fun U hU hW => ⟨rfl, q_pay hU hW hPc hKc hDc hN⟩⟩ rfl rfl hl.1 rfl (lv_room (Nat.le_of_ble_eq_true rfl)) dX3_callPart_1 ⟨show 0 + 0 ≤ 0 from by omega, show 0 + 0 ≤ 0 from by omega⟩) hS (fun q _ h => hFc q h) hFc (fun r_1 u9 t H locs ht hvm hw_2 hB hz1 hk1 hS => ?_)
  obtain ⟨hP1, hK1, hD1⟩ := hB
  rw [ht] at hP1
  obtain ⟨hP, hD⟩ := va_join (wr := [(aP, .inr (3, [.ref aR, .ref aF])), (aR, .inr (2, [.ref aM, .ref aA, .ref aB, .int fault])), (aA, .inl (cA, 8, .inl regs)), (aM, .inr (1, [.ref aW, .ref aT, .int cnt])), (aW, .inl (cW, 2048, .inl words)), (aT, .inl (cT, 400, .inl told)), (aF, .inr (0, [.int fn, .int fz, .int fv, .int fc]))]) (w1 := []) hP hD [] [0, 1, 2, 3, 4, 5, 6] rfl rfl (by decide) (by decide) hk1 hFc hP1 hD1
  have hP : va_P (dC, dI) vwCl [(aP, .inr (3, [.ref aR, .ref aF])), (aR, .inr (2, [.ref aM, .ref aA, .ref aB, .int fault])), (aA, .inl (cA, 8, .inl regs)), (aM, .inr (1, [.ref aW, .ref aT, .int cnt])), (aW, .inl (cW, 2048, .inl words)), (aT, .inl (cT, 400, .inl told)), (aF, .inr (0, [.int fn, .int fz, .int fv, .int fc]))] H := hP
  have hD : va_D A [(aP, .inr (3, [.ref aR, .ref aF])), (aR, .inr (2, [.ref aM, .ref aA, .ref aB, .int fault])), (aA, .inl (cA, 8, .inl regs)), (aM, .inr (1, [.ref aW, .ref aT, .int cnt])), (aW, .inl (cW, 2048, .inl words)), (aT, .inl (cT, 400, .inl told)), (aF, .inr (0, [.int fn, .int fz, .int fv, .int fc]))] := hD
  refine W.widen (k := 0) (n := 0) (by omega) (by omega) ?_
  try dsimp only at hw_2
  refine lv_if_eq (tgt := 12) hx hb dX3_callPart_4 (by decide) (fun c_3 => ?_) (fun c_3 => ?_)
  · refine lv_iload_n hx hb dX3_callPart_12 rfl (lv_at hl 1 rfl) ?_
    refine lv_bipush (v := 6) hx hb dX3_callPart_13 (by decide) ?_
    refine lv_ishr hx hb dX3_callPart_15 ?_
    refine lv_bipush (v := 7) hx hb dX3_callPart_16 (by decide) ?_
    refine lv_iand hx hb dX3_callPart_18 ?_
    refine lv_istore_n (lv' := [(2, .int ((k >>> (6 &&& 31)) &&& 7)), (0, .ref aP), (1, .int k)]) hx hb dX3_callPart_19 rfl hl (by decide) rfl (fun ls hl => ?_)
    refine lv_aload_n hx hb dX3_callPart_20 rfl (lv_at hl 1 rfl) ?_
    refine va_get (D := (dC, dI)) (ci := 3) (v := .ref aR) (C := RX3) (T := TX3) (N := 2) hx hb hts (by decide +kernel) hown hK hP 0 rfl rfl 0 (by decide) (hts (.fieldLink RX3 23 "WordGuest$Processor" "parts" "LWordGuest$Parts;") (by decide +kernel)) (fun _ h9 => h9) rfl dX3_callPart_21 ?_
    refine lv_iload_n hx hb dX3_callPart_24 rfl (lv_at hl 2 rfl) ?_
    refine lv_ldc (v := 65535) hx hb hown (hts (.constant RX3 69 (65535)) (by decide +kernel)) dX3_callPart_25 ?_
    have hPc := hP.sub (ws' := [(aR, .inr (2, [.ref aM, .ref aA, .ref aB, .int fault])), (aA, .inl (cA, 8, .inl regs)), (aM, .inr (1, [.ref aW, .ref aT, .int cnt])), (aW, .inl (cW, 2048, .inl words))]) [1, 2, 3, 4] rfl
    have hDc := hD.sub (ws' := [(aR, .inr (2, [.ref aM, .ref aA, .ref aB, .int fault])), (aA, .inl (cA, 8, .inl regs)), (aM, .inr (1, [.ref aW, .ref aT, .int cnt])), (aW, .inl (cW, 2048, .inl words))]) [1, 2, 3, 4] (by decide) rfl
    have hKc := hK.sub (tys' := [(cA, .int), (cW, .int)]) [0, 1] rfl
    have hFc := va_free (wc := [(aR, .inr (2, [.ref aM, .ref aA, .ref aB, .int fault])), (aA, .inl (cA, 8, .inl regs)), (aM, .inr (1, [.ref aW, .ref aT, .int cnt])), (aW, .inl (cW, 2048, .inl words))]) hD hS hA [1, 2, 3, 4] rfl
    refine va_calli (va_runV (C := RX2) (b := aR) (As := [.int k, .int 65535]) (rest := []) ⟨hx, hb, hml, hown, hts⟩ (s_X2_locate l dC dI H.size aR k (65535 : Int32) aM aA aB fault cA regs aW aT cnt cW words) (cwV 2 hts gX3_callPart_X2_locate rfl rfl rfl (by decide +kernel) ⟨Nat.le_of_ble_eq_true rfl, Nat.le_of_ble_eq_true rfl⟩) ⟨q_blind, va_recv hK hP (ci := 2) (q0 := 1) rfl rfl, fun U hU hW => ⟨rfl, q_pay hU hW hPc hKc hDc hN⟩⟩ rfl rfl hl.1 rfl (lv_room (Nat.le_of_ble_eq_true rfl)) dX3_callPart_27 ⟨show 0 + 0 ≤ 0 from by omega, show 0 + 0 ≤ 0 from by omega⟩) hS (fun q _ h => hFc q h) hFc (fun r_4 u9 t H locs ht hvm hw_5 hB hz1 hk1 hS => ?_)
    obtain ⟨fault2_6, regs2_7⟩ := u9
    obtain ⟨hP1, hK1, hD1⟩ := hB
    rw [ht] at hP1
    obtain ⟨hP, hD⟩ := va_join (wr := [(aP, .inr (3, [.ref aR, .ref aF])), (aT, .inl (cT, 400, .inl told)), (aF, .inr (0, [.int fn, .int fz, .int fv, .int fc]))]) (w1 := [(aR, .inr (2, [.ref aM, .ref aA, .ref aB, .int fault2_6])), (aA, .inl (cA, 8, .inl regs2_7)), (aM, .inr (1, [.ref aW, .ref aT, .int cnt])), (aW, .inl (cW, 2048, .inl words))]) hP hD [1, 2, 3, 4] [0, 5, 6] rfl rfl (by decide) (by decide) hk1 hFc hP1 hD1
    have hP : va_P (dC, dI) vwCl [(aP, .inr (3, [.ref aR, .ref aF])), (aT, .inl (cT, 400, .inl told)), (aF, .inr (0, [.int fn, .int fz, .int fv, .int fc])), (aR, .inr (2, [.ref aM, .ref aA, .ref aB, .int fault2_6])), (aA, .inl (cA, 8, .inl regs2_7)), (aM, .inr (1, [.ref aW, .ref aT, .int cnt])), (aW, .inl (cW, 2048, .inl words))] H := hP
    have hD : va_D A [(aP, .inr (3, [.ref aR, .ref aF])), (aT, .inl (cT, 400, .inl told)), (aF, .inr (0, [.int fn, .int fz, .int fv, .int fc])), (aR, .inr (2, [.ref aM, .ref aA, .ref aB, .int fault2_6])), (aA, .inl (cA, 8, .inl regs2_7)), (aM, .inr (1, [.ref aW, .ref aT, .int cnt])), (aW, .inl (cW, 2048, .inl words))] := hD
    refine W.widen (k := 0) (n := 0) (by omega) (by omega) ?_
    try dsimp only at hw_5
    refine lv_istore_n (lv' := [(3, .int r_4), (2, .int ((k >>> (6 &&& 31)) &&& 7)), (0, .ref aP), (1, .int k)]) hx hb dX3_callPart_30 rfl hl (by decide) rfl (fun ls hl => ?_)
    refine lv_aload_n hx hb dX3_callPart_31 rfl (lv_at hl 2 rfl) ?_
    refine va_get (D := (dC, dI)) (ci := 3) (v := .ref aR) (C := RX3) (T := TX3) (N := 2) hx hb hts (by decide +kernel) hown hK hP 0 rfl rfl 0 (by decide) (hts (.fieldLink RX3 23 "WordGuest$Processor" "parts" "LWordGuest$Parts;") (by decide +kernel)) (fun _ h9 => h9) rfl dX3_callPart_32 ?_
    refine lv_aload_n hx hb dX3_callPart_35 rfl (lv_at hl 2 rfl) ?_
    refine va_get (D := (dC, dI)) (ci := 3) (v := .ref aR) (C := RX3) (T := TX3) (N := 2) hx hb hts (by decide +kernel) hown hK hP 0 rfl rfl 0 (by decide) (hts (.fieldLink RX3 23 "WordGuest$Processor" "parts" "LWordGuest$Parts;") (by decide +kernel)) (fun _ h9 => h9) rfl dX3_callPart_36 ?_
    refine va_getN (D := (dC, dI)) (ci := 2) (v := .ref aA) (C := RX2) (T := TX2) (N := 4) hx hb hts (by decide +kernel) hown hK hP 3 rfl rfl 1 (by decide) ((va_Nw.use rfl (hN _ (List.mem_of_getElem? (i := 9) rfl)))) (fun _ h9 => h9) rfl dX3_callPart_39 ?_
    refine lv_iload_n hx hb dX3_callPart_42 rfl (lv_at hl 1 rfl) ?_
    refine va_iald hx hb hK hP 4 0 rfl rfl (pk_andIn _ 3 (by decide) (by decide)) dX3_callPart_43 ?_
    have hPc := hP.sub (ws' := [(aR, .inr (2, [.ref aM, .ref aA, .ref aB, .int fault2_6])), (aA, .inl (cA, 8, .inl regs2_7)), (aM, .inr (1, [.ref aW, .ref aT, .int cnt])), (aW, .inl (cW, 2048, .inl words)), (aT, .inl (cT, 400, .inl told))]) [3, 4, 5, 6, 1] rfl
    have hDc := hD.sub (ws' := [(aR, .inr (2, [.ref aM, .ref aA, .ref aB, .int fault2_6])), (aA, .inl (cA, 8, .inl regs2_7)), (aM, .inr (1, [.ref aW, .ref aT, .int cnt])), (aW, .inl (cW, 2048, .inl words)), (aT, .inl (cT, 400, .inl told))]) [3, 4, 5, 6, 1] (by decide) rfl
    have hKc := hK.sub (tys' := [(cA, .int), (cW, .int), (cT, .int)]) [0, 1, 2] rfl
    have hFc := va_free (wc := [(aR, .inr (2, [.ref aM, .ref aA, .ref aB, .int fault2_6])), (aA, .inl (cA, 8, .inl regs2_7)), (aM, .inr (1, [.ref aW, .ref aT, .int cnt])), (aW, .inl (cW, 2048, .inl words)), (aT, .inl (cT, 400, .inl told))]) hD hS hA [3, 4, 5, 6, 1] rfl
    refine va_callv (va_runV (C := RX2) (b := aR) (As := [.int (regs2_7 ((k >>> (6 &&& 31)) &&& 7).toNatClampNeg)]) (rest := []) ⟨hx, hb, hml, hown, hts⟩ (s_X2_push l dC dI H.size aR (regs2_7 ((k >>> (6 &&& 31)) &&& 7).toNatClampNeg) aM aA aB fault2_6 cA regs2_7 aW aT cnt cW words cT told h4) (cwV 1 hts gX3_callPart_X2_push rfl rfl rfl (by decide +kernel) ⟨Nat.le_of_ble_eq_true rfl, Nat.le_of_ble_eq_true rfl⟩) ⟨q_blind, va_recv hK hP (ci := 2) (q0 := 3) rfl rfl, fun U hU hW => ⟨rfl, q_pay hU hW hPc hKc hDc hN⟩⟩ rfl rfl hl.1 rfl (lv_room (Nat.le_of_ble_eq_true rfl)) dX3_callPart_44 ⟨show 0 + 0 ≤ 0 from by omega, show 0 + 0 ≤ 0 from by omega⟩) hS (fun q _ h => hFc q h) hFc (fun u9 t H locs ht hvm hw_9 hB hz1 hk1 hS => ?_)
    obtain ⟨fault2_10, regs2_11, cnt2_12, words2_13, told2_14⟩ := u9
    obtain ⟨hP1, hK1, hD1⟩ := hB
    rw [ht] at hP1
    obtain ⟨hP, hD⟩ := va_join (wr := [(aP, .inr (3, [.ref aR, .ref aF])), (aF, .inr (0, [.int fn, .int fz, .int fv, .int fc]))]) (w1 := [(aR, .inr (2, [.ref aM, .ref aA, .ref aB, .int fault2_10])), (aA, .inl (cA, 8, .inl regs2_11)), (aM, .inr (1, [.ref aW, .ref aT, .int cnt2_12])), (aW, .inl (cW, 2048, .inl words2_13)), (aT, .inl (cT, 400, .inl told2_14))]) hP hD [3, 4, 5, 6, 1] [0, 2] rfl rfl (by decide) (by decide) hk1 hFc hP1 hD1
    have hP : va_P (dC, dI) vwCl [(aP, .inr (3, [.ref aR, .ref aF])), (aF, .inr (0, [.int fn, .int fz, .int fv, .int fc])), (aR, .inr (2, [.ref aM, .ref aA, .ref aB, .int fault2_10])), (aA, .inl (cA, 8, .inl regs2_11)), (aM, .inr (1, [.ref aW, .ref aT, .int cnt2_12])), (aW, .inl (cW, 2048, .inl words2_13)), (aT, .inl (cT, 400, .inl told2_14))] H := hP
    have hD : va_D A [(aP, .inr (3, [.ref aR, .ref aF])), (aF, .inr (0, [.int fn, .int fz, .int fv, .int fc])), (aR, .inr (2, [.ref aM, .ref aA, .ref aB, .int fault2_10])), (aA, .inl (cA, 8, .inl regs2_11)), (aM, .inr (1, [.ref aW, .ref aT, .int cnt2_12])), (aW, .inl (cW, 2048, .inl words2_13)), (aT, .inl (cT, 400, .inl told2_14))] := hD
    refine W.widen (k := 0) (n := 0) (by omega) (by omega) ?_
    try dsimp only at hw_9
    refine lv_aload_n hx hb dX3_callPart_47 rfl (lv_at hl 2 rfl) ?_
    refine va_get (D := (dC, dI)) (ci := 3) (v := .ref aR) (C := RX3) (T := TX3) (N := 2) hx hb hts (by decide +kernel) hown hK hP 0 rfl rfl 0 (by decide) (hts (.fieldLink RX3 23 "WordGuest$Processor" "parts" "LWordGuest$Parts;") (by decide +kernel)) (fun _ h9 => h9) rfl dX3_callPart_48 ?_
    refine va_getN (D := (dC, dI)) (ci := 2) (v := .ref aA) (C := RX2) (T := TX2) (N := 4) hx hb hts (by decide +kernel) hown hK hP 2 rfl rfl 1 (by decide) ((va_Nw.use rfl (hN _ (List.mem_of_getElem? (i := 9) rfl)))) (fun _ h9 => h9) rfl dX3_callPart_51 ?_
    refine lv_iload_n hx hb dX3_callPart_54 rfl (lv_at hl 1 rfl) ?_
    refine lv_aload_n hx hb dX3_callPart_55 rfl (lv_at hl 2 rfl) ?_
    refine va_get (D := (dC, dI)) (ci := 3) (v := .ref aR) (C := RX3) (T := TX3) (N := 2) hx hb hts (by decide +kernel) hown hK hP 0 rfl rfl 0 (by decide) (hts (.fieldLink RX3 23 "WordGuest$Processor" "parts" "LWordGuest$Parts;") (by decide +kernel)) (fun _ h9 => h9) rfl dX3_callPart_56 ?_
    refine va_getN (D := (dC, dI)) (ci := 2) (v := .ref aA) (C := RX2) (T := TX2) (N := 4) hx hb hts (by decide +kernel) hown hK hP 2 rfl rfl 1 (by decide) ((va_Nw.use rfl (hN _ (List.mem_of_getElem? (i := 9) rfl)))) (fun _ h9 => h9) rfl dX3_callPart_59 ?_
    refine lv_bipush (v := 7) hx hb dX3_callPart_62 (by decide) ?_
    refine va_iald hx hb hK hP 3 0 rfl rfl (by unfold vp_in; decide) dX3_callPart_64 ?_
    refine va_iast hx hb hK hP hD hS 3 0 rfl rfl (pk_andIn _ 3 (by decide) (by decide)) dX3_callPart_65 (fun H locs hP hD hS => ?_)
    have hP : va_P (dC, dI) vwCl [(aP, .inr (3, [.ref aR, .ref aF])), (aF, .inr (0, [.int fn, .int fz, .int fv, .int fc])), (aR, .inr (2, [.ref aM, .ref aA, .ref aB, .int fault2_10])), (aA, .inl (cA, 8, .inl (upd regs2_11 ((k >>> (6 &&& 31)) &&& 7).toNatClampNeg (regs2_11 (7 : Int32).toNatClampNeg)))), (aM, .inr (1, [.ref aW, .ref aT, .int cnt2_12])), (aW, .inl (cW, 2048, .inl words2_13)), (aT, .inl (cT, 400, .inl told2_14))] H := hP
    have hD : va_D A [(aP, .inr (3, [.ref aR, .ref aF])), (aF, .inr (0, [.int fn, .int fz, .int fv, .int fc])), (aR, .inr (2, [.ref aM, .ref aA, .ref aB, .int fault2_10])), (aA, .inl (cA, 8, .inl (upd regs2_11 ((k >>> (6 &&& 31)) &&& 7).toNatClampNeg (regs2_11 (7 : Int32).toNatClampNeg)))), (aM, .inr (1, [.ref aW, .ref aT, .int cnt2_12])), (aW, .inl (cW, 2048, .inl words2_13)), (aT, .inl (cT, 400, .inl told2_14))] := hD
    generalize (upd regs2_11 ((k >>> (6 &&& 31)) &&& 7).toNatClampNeg (regs2_11 (7 : Int32).toNatClampNeg)) = g_15 at hP hD
    refine lv_aload_n hx hb dX3_callPart_66 rfl (lv_at hl 2 rfl) ?_
    refine va_get (D := (dC, dI)) (ci := 3) (v := .ref aR) (C := RX3) (T := TX3) (N := 2) hx hb hts (by decide +kernel) hown hK hP 0 rfl rfl 0 (by decide) (hts (.fieldLink RX3 23 "WordGuest$Processor" "parts" "LWordGuest$Parts;") (by decide +kernel)) (fun _ h9 => h9) rfl dX3_callPart_67 ?_
    refine va_getN (D := (dC, dI)) (ci := 2) (v := .ref aA) (C := RX2) (T := TX2) (N := 4) hx hb hts (by decide +kernel) hown hK hP 2 rfl rfl 1 (by decide) ((va_Nw.use rfl (hN _ (List.mem_of_getElem? (i := 9) rfl)))) (fun _ h9 => h9) rfl dX3_callPart_70 ?_
    refine lv_bipush (v := 7) hx hb dX3_callPart_73 (by decide) ?_
    refine lv_iload_n hx hb dX3_callPart_75 rfl (lv_at hl 0 rfl) ?_
    refine va_iast hx hb hK hP hD hS 3 0 rfl rfl (by unfold vp_in; decide) dX3_callPart_76 (fun H locs hP hD hS => ?_)
    have hP : va_P (dC, dI) vwCl [(aP, .inr (3, [.ref aR, .ref aF])), (aF, .inr (0, [.int fn, .int fz, .int fv, .int fc])), (aR, .inr (2, [.ref aM, .ref aA, .ref aB, .int fault2_10])), (aA, .inl (cA, 8, .inl (upd g_15 (7 : Int32).toNatClampNeg r_4))), (aM, .inr (1, [.ref aW, .ref aT, .int cnt2_12])), (aW, .inl (cW, 2048, .inl words2_13)), (aT, .inl (cT, 400, .inl told2_14))] H := hP
    have hD : va_D A [(aP, .inr (3, [.ref aR, .ref aF])), (aF, .inr (0, [.int fn, .int fz, .int fv, .int fc])), (aR, .inr (2, [.ref aM, .ref aA, .ref aB, .int fault2_10])), (aA, .inl (cA, 8, .inl (upd g_15 (7 : Int32).toNatClampNeg r_4))), (aM, .inr (1, [.ref aW, .ref aT, .int cnt2_12])), (aW, .inl (cW, 2048, .inl words2_13)), (aT, .inl (cT, 400, .inl told2_14))] := hD
    generalize (upd g_15 (7 : Int32).toNatClampNeg r_4) = g_16 at hP hD
    have hP9 := hP.sub (ws' := [(aP, .inr (3, [.ref aR, .ref aF])), (aR, .inr (2, [.ref aM, .ref aA, .ref aB, .int fault2_10])), (aA, .inl (cA, 8, .inl g_16)), (aM, .inr (1, [.ref aW, .ref aT, .int cnt2_12])), (aW, .inl (cW, 2048, .inl words2_13)), (aT, .inl (cT, 400, .inl told2_14)), (aF, .inr (0, [.int fn, .int fz, .int fv, .int fc]))]) [0, 2, 3, 4, 5, 6, 1] rfl
    have hD9 := hD.sub (ws' := [(aP, .inr (3, [.ref aR, .ref aF])), (aR, .inr (2, [.ref aM, .ref aA, .ref aB, .int fault2_10])), (aA, .inl (cA, 8, .inl g_16)), (aM, .inr (1, [.ref aW, .ref aT, .int cnt2_12])), (aW, .inl (cW, 2048, .inl words2_13)), (aT, .inl (cT, 400, .inl told2_14)), (aF, .inr (0, [.int fn, .int fz, .int fv, .int fc]))]) [0, 2, 3, 4, 5, 6, 1] (by decide) rfl
    have hK9 := hK.sub (tys' := [(cA, .int), (cW, .int), (cT, .int)]) [0, 1, 2] rfl
    exact W.vret hx hb hr (fun t ht hW => ⟨⟨(fault2_10, g_16, cnt2_12, words2_13, told2_14, fn, fz, fv, fc), rfl, hw_9, by rw [ht]; exact hP9, va_K.moved hW.alike hK9, hD9⟩, hS.F ht⟩) hS.2.2 dX3_callPart_77
  · refine lv_aload_n hx hb dX3_callPart_7 rfl (lv_at hl 0 rfl) ?_
    have hPc := hP.sub (ws' := [(aP, .inr (3, [.ref aR, .ref aF])), (aR, .inr (2, [.ref aM, .ref aA, .ref aB, .int fault]))]) [0, 1] rfl
    have hDc := hD.sub (ws' := [(aP, .inr (3, [.ref aR, .ref aF])), (aR, .inr (2, [.ref aM, .ref aA, .ref aB, .int fault]))]) [0, 1] (by decide) rfl
    have hKc := hK.sub (tys' := []) [] rfl
    have hFc := va_free (wc := [(aP, .inr (3, [.ref aR, .ref aF])), (aR, .inr (2, [.ref aM, .ref aA, .ref aB, .int fault]))]) hD hS hA [0, 1] rfl
    refine va_callv (va_runV (C := RX3) (b := aP) (As := []) (rest := []) ⟨hx, hb, hml, hown, hts⟩ (s_X3_refuse l dC dI H.size aP aR aF aM aA aB fault) (cwV 0 hts gX3_callPart_X3_refuse rfl rfl rfl (by decide +kernel) ⟨Nat.le_of_ble_eq_true rfl, Nat.le_of_ble_eq_true rfl⟩) ⟨q_blind, va_recv hK hP (ci := 3) (q0 := 0) rfl rfl, fun U hU hW => ⟨rfl, q_pay hU hW hPc hKc hDc hN⟩⟩ rfl rfl hl.1 rfl (lv_room (Nat.le_of_ble_eq_true rfl)) dX3_callPart_8 ⟨show 0 + 0 ≤ 0 from by omega, show 0 + 0 ≤ 0 from by omega⟩) hS (fun q _ h => hFc q h) hFc (fun u9 t H locs ht hvm hw_18 hB hz1 hk1 hS => ?_)
    obtain ⟨fault2_19, rfl⟩ : ∃ z, z = u9 := ⟨_, rfl⟩
    obtain ⟨hP1, hK1, hD1⟩ := hB
    rw [ht] at hP1
    obtain ⟨hP, hD⟩ := va_join (wr := [(aA, .inl (cA, 8, .inl regs)), (aM, .inr (1, [.ref aW, .ref aT, .int cnt])), (aW, .inl (cW, 2048, .inl words)), (aT, .inl (cT, 400, .inl told)), (aF, .inr (0, [.int fn, .int fz, .int fv, .int fc]))]) (w1 := [(aP, .inr (3, [.ref aR, .ref aF])), (aR, .inr (2, [.ref aM, .ref aA, .ref aB, .int fault2_19]))]) hP hD [0, 1] [2, 3, 4, 5, 6] rfl rfl (by decide) (by decide) hk1 hFc hP1 hD1
    have hP : va_P (dC, dI) vwCl [(aA, .inl (cA, 8, .inl regs)), (aM, .inr (1, [.ref aW, .ref aT, .int cnt])), (aW, .inl (cW, 2048, .inl words)), (aT, .inl (cT, 400, .inl told)), (aF, .inr (0, [.int fn, .int fz, .int fv, .int fc])), (aP, .inr (3, [.ref aR, .ref aF])), (aR, .inr (2, [.ref aM, .ref aA, .ref aB, .int fault2_19]))] H := hP
    have hD : va_D A [(aA, .inl (cA, 8, .inl regs)), (aM, .inr (1, [.ref aW, .ref aT, .int cnt])), (aW, .inl (cW, 2048, .inl words)), (aT, .inl (cT, 400, .inl told)), (aF, .inr (0, [.int fn, .int fz, .int fv, .int fc])), (aP, .inr (3, [.ref aR, .ref aF])), (aR, .inr (2, [.ref aM, .ref aA, .ref aB, .int fault2_19]))] := hD
    refine W.widen (k := 0) (n := 0) (by omega) (by omega) ?_
    try dsimp only at hw_18
    have hP9 := hP.sub (ws' := [(aP, .inr (3, [.ref aR, .ref aF])), (aR, .inr (2, [.ref aM, .ref aA, .ref aB, .int fault2_19])), (aA, .inl (cA, 8, .inl regs)), (aM, .inr (1, [.ref aW, .ref aT, .int cnt])), (aW, .inl (cW, 2048, .inl words)), (aT, .inl (cT, 400, .inl told)), (aF, .inr (0, [.int fn, .int fz, .int fv, .int fc]))]) [5, 6, 0, 1, 2, 3, 4] rfl
    have hD9 := hD.sub (ws' := [(aP, .inr (3, [.ref aR, .ref aF])), (aR, .inr (2, [.ref aM, .ref aA, .ref aB, .int fault2_19])), (aA, .inl (cA, 8, .inl regs)), (aM, .inr (1, [.ref aW, .ref aT, .int cnt])), (aW, .inl (cW, 2048, .inl words)), (aT, .inl (cT, 400, .inl told)), (aF, .inr (0, [.int fn, .int fz, .int fv, .int fc]))]) [5, 6, 0, 1, 2, 3, 4] (by decide) rfl
    have hK9 := hK.sub (tys' := [(cA, .int), (cW, .int), (cT, .int)]) [0, 1, 2] rfl
    exact W.vret hx hb hr (fun t ht hW => ⟨⟨(fault2_19, regs, cnt, words, told, fn, fz, fv, fc), rfl, h4, by rw [ht]; exact hP9, va_K.moved hW.alike hK9, hD9⟩, hS.F ht⟩) hS.2.2 dX3_callPart_11
set_option maxHeartbeats 4000000 in
set_option maxRecDepth 100000 in
theorem s_X3_returnOrSetFlags (l : Launch) (dC : Nat → ClassId) (dI : Nat → Nat → Nat) (sz : Nat) (aP : Nat) (k : Int32) (aR : Nat) (aF : Nat) (aM : Nat) (aA : Nat) (aB : Nat) (fault : Int32) (cA : ClassId) (regs : Nat → Int32) (aW : Nat) (aT : Nat) (cnt : Int32) (cW : ClassId) (words : Nat → Int32) (cT : ClassId) (told : Nat → Int32) (fn : Int32) (fz : Int32) (fv : Int32) (fc : Int32) (h4 : ok4 cnt) : Met l yX3_returnOrSetFlags wsX3_returnOrSetFlags ({ frames := 3, cells := 0, slots := 0, locals := 65 }) (va_Pc [.ref aP, .int k] (q_pre dC dI sz [(aP, .inr (3, [.ref aR, .ref aF])), (aR, .inr (2, [.ref aM, .ref aA, .ref aB, .int fault])), (aA, .inl (cA, 8, .inl regs)), (aM, .inr (1, [.ref aW, .ref aT, .int cnt])), (aW, .inl (cW, 2048, .inl words)), (aT, .inl (cT, 400, .inl told)), (aF, .inr (0, [.int fn, .int fz, .int fv, .int fc]))] [(cA, .int), (cW, .int), (cT, .int)])) (va_Qv (fun (u9 : Int32 × (Nat → Int32) × Int32 × (Nat → Int32) × (Nat → Int32) × Int32 × Int32 × Int32 × Int32) => ok4 u9.2.2.1) (q_at dC dI (va_A [(aP, .inr (3, [.ref aR, .ref aF])), (aR, .inr (2, [.ref aM, .ref aA, .ref aB, .int fault])), (aA, .inl (cA, 8, .inl regs)), (aM, .inr (1, [.ref aW, .ref aT, .int cnt])), (aW, .inl (cW, 2048, .inl words)), (aT, .inl (cT, 400, .inl told)), (aF, .inr (0, [.int fn, .int fz, .int fv, .int fc]))] sz) (fun (u9 : Int32 × (Nat → Int32) × Int32 × (Nat → Int32) × (Nat → Int32) × Int32 × Int32 × Int32 × Int32) => [(cA, .int), (cW, .int), (cT, .int)]) (fun (u9 : Int32 × (Nat → Int32) × Int32 × (Nat → Int32) × (Nat → Int32) × Int32 × Int32 × Int32 × Int32) => [(aP, .inr (3, [.ref aR, .ref aF])), (aR, .inr (2, [.ref aM, .ref aA, .ref aB, .int u9.1])), (aA, .inl (cA, 8, .inl u9.2.1)), (aM, .inr (1, [.ref aW, .ref aT, .int u9.2.2.1])), (aW, .inl (cW, 2048, .inl u9.2.2.2.1)), (aT, .inl (cT, 400, .inl u9.2.2.2.2.1)), (aF, .inr (0, [.int u9.2.2.2.2.2.1, .int u9.2.2.2.2.2.2.1, .int u9.2.2.2.2.2.2.2.1, .int u9.2.2.2.2.2.2.2.2]))])) (va_A [(aP, .inr (3, [.ref aR, .ref aF])), (aR, .inr (2, [.ref aM, .ref aA, .ref aB, .int fault])), (aA, .inl (cA, 8, .inl regs)), (aM, .inr (1, [.ref aW, .ref aT, .int cnt])), (aW, .inl (cW, 2048, .inl words)), (aT, .inl (cT, 400, .inl told)), (aF, .inr (0, [.int fn, .int fz, .int fv, .int fc]))] sz)) 0 0 (va_A [(aP, .inr (3, [.ref aR, .ref aF])), (aR, .inr (2, [.ref aM, .ref aA, .ref aB, .int fault])), (aA, .inl (cA, 8, .inl regs)), (aM, .inr (1, [.ref aW, .ref aT, .int cnt])), (aW, .inl (cW, 2048, .inl words)), (aT, .inl (cT, 400, .inl told)), (aF, .inr (0, [.int fn, .int fz, .int fv, .int fc]))] sz) := by
  refine Met.ofW (cc := cX3_returnOrSetFlags) (maxL := 4) (ret := none) (by decide) rfl ?_
  intro p e s m args below meth c s₁ B hml hv
  obtain ⟨rfl, hsz, hP, hK, hD0, hN⟩ := hv
  have hx := B.exec
  have hb := B.bytes
  have hr := B.returns
  have hts := atoms_spec (ws := wsX3_returnOrSetFlags) B.pre
  have hown : s.vm.findClass RX3 = some m.cls := findClass_of_methodNamed B.named
  have hlocks := B.notSynchronized
  subst hsz
  have hD := hD0.self (sz := s.heap.size)
  generalize hAe : va_A [(aP, .inr (3, [.ref aR, .ref aF])), (aR, .inr (2, [.ref aM, .ref aA, .ref aB, .int fault])), (aA, .inl (cA, 8, .inl regs)), (aM, .inr (1, [.ref aW, .ref aT, .int cnt])), (aW, .inl (cW, 2048, .inl words)), (aT, .inl (cT, 400, .inl told)), (aF, .inr (0, [.int fn, .int fz, .int fv, .int fc]))] s.heap.size = A at hD ⊢
  have hA : ∀ q : Nat, s.heap.size ≤ q → A q := fun q h => by rw [← hAe]; exact Or.inr h
  have hS : va_S A s.heap s.heap [] := va_S.rf
  have hP : va_P (dC, dI) vwCl [(aP, .inr (3, [.ref aR, .ref aF])), (aR, .inr (2, [.ref aM, .ref aA, .ref aB, .int fault])), (aA, .inl (cA, 8, .inl regs)), (aM, .inr (1, [.ref aW, .ref aT, .int cnt])), (aW, .inl (cW, 2048, .inl words)), (aT, .inl (cT, 400, .inl told)), (aF, .inr (0, [.int fn, .int fz, .int fv, .int fc]))] s.heap := hP
  have hl := lv_entry ([.ref aP, .int k]) (n := 4) (Nat.le_of_ble_eq_true rfl)
  rw [lg_entry_eq]
  generalize (lg_sl ([.ref aP, .int k]) ++ List.replicate (4 - (lg_sl ([.ref aP, .int k])).length) Slot.unset).toArray = ls at hl ⊢
  have hl : lv_has ls 4 [(0, .ref aP), (1, .int k)] := hl
  refine lv_iload_n hx hb dX3_returnOrSetFlags_0 rfl (lv_at hl 1 rfl) ?_
  refine lv_bipush (v := 63) hx hb dX3_returnOrSetFlags_1 (by decide) ?_
  refine lv_iand hx hb dX3_returnOrSetFlags_3 ?_
  refine lv_istore_n (lv' := [(2, .int (k &&& 63)), (0, .ref aP), (1, .int k)]) hx hb dX3_returnOrSetFlags_4 rfl hl (by decide) rfl (fun ls hl => ?_)
  refine lv_iload_n hx hb dX3_returnOrSetFlags_5 rfl (lv_at hl 2 rfl) ?_
  refine lv_bipush (v := 15) hx hb dX3_returnOrSetFlags_6 (by decide) ?_
  refine lv_iand hx hb dX3_returnOrSetFlags_8 ?_
  refine lv_istore_n (lv' := [(3, .int (k &&& 15)), (2, .int (k &&& 63)), (0, .ref aP), (1, .int k)]) hx hb dX3_returnOrSetFlags_9 rfl hl (by decide) rfl (fun ls hl => ?_)
  refine lv_iload_n hx hb dX3_returnOrSetFlags_10 rfl (lv_at hl 1 rfl) ?_
  refine lv_bipush (v := 8) hx hb dX3_returnOrSetFlags_11 (by decide) ?_
  refine lv_icmp_ge (tgt := 54) hx hb dX3_returnOrSetFlags_13 (by decide) (fun c_1 => ?_) (fun c_1 => ?_)
  · refine lv_iload_n hx hb dX3_returnOrSetFlags_54 rfl (lv_at hl 1 rfl) ?_
    refine lv_bipush (v := 32) hx hb dX3_returnOrSetFlags_55 (by decide) ?_
    refine lv_icmp_ge (tgt := 67) hx hb dX3_returnOrSetFlags_57 (by decide) (fun c_2 => ?_) (fun c_2 => ?_)
    · refine lv_iload_n hx hb dX3_returnOrSetFlags_67 rfl (lv_at hl 1 rfl) ?_
      refine lv_bipush (v := 48) hx hb dX3_returnOrSetFlags_68 (by decide) ?_
      refine lv_icmp_ge (tgt := 94) hx hb dX3_returnOrSetFlags_70 (by decide) (fun c_3 => ?_) (fun c_3 => ?_)
      · refine lv_aload_n hx hb dX3_returnOrSetFlags_94 rfl (lv_at hl 2 rfl) ?_
        refine va_get (D := (dC, dI)) (ci := 3) (v := .ref aF) (C := RX3) (T := TX3) (N := 2) hx hb hts (by decide +kernel) hown hK hP 0 rfl rfl 1 (by decide) (hts (.fieldLink RX3 12 "WordGuest$Processor" "conditions" "LWordGuest$Flags;") (by decide +kernel)) (fun _ h9 => h9) rfl dX3_returnOrSetFlags_95 ?_
        refine lv_aload_n hx hb dX3_returnOrSetFlags_98 rfl (lv_at hl 2 rfl) ?_
        refine va_get (D := (dC, dI)) (ci := 3) (v := .ref aF) (C := RX3) (T := TX3) (N := 2) hx hb hts (by decide +kernel) hown hK hP 0 rfl rfl 1 (by decide) (hts (.fieldLink RX3 12 "WordGuest$Processor" "conditions" "LWordGuest$Flags;") (by decide +kernel)) (fun _ h9 => h9) rfl dX3_returnOrSetFlags_99 ?_
        have hPc := hP.sub (ws' := [(aF, .inr (0, [.int fn, .int fz, .int fv, .int fc]))]) [6] rfl
        have hDc := hD.sub (ws' := [(aF, .inr (0, [.int fn, .int fz, .int fv, .int fc]))]) [6] (by decide) rfl
        have hKc := hK.sub (tys' := []) [] rfl
        have hFc := va_free (wc := [(aF, .inr (0, [.int fn, .int fz, .int fv, .int fc]))]) hD hS hA [6] rfl
        refine va_calli (va_runV (C := RX0) (b := aF) (As := []) (rest := [.ref aF]) ⟨hx, hb, hml, hown, hts⟩ (s_X0_number l dC dI s.heap.size aF fn fz fv fc) (cwV 0 hts gX3_returnOrSetFlags_X0_number rfl rfl rfl (by decide +kernel) ⟨Nat.le_of_ble_eq_true rfl, Nat.le_of_ble_eq_true rfl⟩) ⟨q_blind, va_recv hK hP (ci := 0) (q0 := 6) rfl rfl, fun U hU hW => ⟨rfl, q_pay hU hW hPc hKc hDc hN⟩⟩ rfl rfl hl.1 rfl (lv_room (Nat.le_of_ble_eq_true rfl)) dX3_returnOrSetFlags_102 ⟨show 0 + 0 ≤ 0 from by omega, show 0 + 0 ≤ 0 from by omega⟩) hS (fun q _ h => hFc q h) hFc (fun r_4 u9 t H locs ht hvm hw_5 hB hz1 hk1 hS => ?_)
        obtain ⟨hP1, hK1, hD1⟩ := hB
        rw [ht] at hP1
        obtain ⟨hP, hD⟩ := va_join (wr := [(aP, .inr (3, [.ref aR, .ref aF])), (aR, .inr (2, [.ref aM, .ref aA, .ref aB, .int fault])), (aA, .inl (cA, 8, .inl regs)), (aM, .inr (1, [.ref aW, .ref aT, .int cnt])), (aW, .inl (cW, 2048, .inl words)), (aT, .inl (cT, 400, .inl told))]) (w1 := [(aF, .inr (0, [.int fn, .int fz, .int fv, .int fc]))]) hP hD [6] [0, 1, 2, 3, 4, 5] rfl rfl (by decide) (by decide) hk1 hFc hP1 hD1
        have hP : va_P (dC, dI) vwCl [(aP, .inr (3, [.ref aR, .ref aF])), (aR, .inr (2, [.ref aM, .ref aA, .ref aB, .int fault])), (aA, .inl (cA, 8, .inl regs)), (aM, .inr (1, [.ref aW, .ref aT, .int cnt])), (aW, .inl (cW, 2048, .inl words)), (aT, .inl (cT, 400, .inl told)), (aF, .inr (0, [.int fn, .int fz, .int fv, .int fc]))] H := hP
        have hD : va_D A [(aP, .inr (3, [.ref aR, .ref aF])), (aR, .inr (2, [.ref aM, .ref aA, .ref aB, .int fault])), (aA, .inl (cA, 8, .inl regs)), (aM, .inr (1, [.ref aW, .ref aT, .int cnt])), (aW, .inl (cW, 2048, .inl words)), (aT, .inl (cT, 400, .inl told)), (aF, .inr (0, [.int fn, .int fz, .int fv, .int fc]))] := hD
        refine W.widen (k := 0) (n := 0) (by omega) (by omega) ?_
        try dsimp only at hw_5
        refine lv_iload_n hx hb dX3_returnOrSetFlags_105 rfl (lv_at hl 0 rfl) ?_
        refine lv_ior hx hb dX3_returnOrSetFlags_106 ?_
        have hPc := hP.sub (ws' := [(aF, .inr (0, [.int fn, .int fz, .int fv, .int fc]))]) [6] rfl
        have hDc := hD.sub (ws' := [(aF, .inr (0, [.int fn, .int fz, .int fv, .int fc]))]) [6] (by decide) rfl
        have hKc := hK.sub (tys' := []) [] rfl
        have hFc := va_free (wc := [(aF, .inr (0, [.int fn, .int fz, .int fv, .int fc]))]) hD hS hA [6] rfl
        refine va_callv (va_runV (C := RX0) (b := aF) (As := [.int (r_4 ||| (k &&& 15))]) (rest := []) ⟨hx, hb, hml, hown, hts⟩ (s_X0_become l dC dI H.size aF (r_4 ||| (k &&& 15)) fn fz fv fc) (cwV 1 hts gX3_returnOrSetFlags_X0_become rfl rfl rfl (by decide +kernel) ⟨Nat.le_of_ble_eq_true rfl, Nat.le_of_ble_eq_true rfl⟩) ⟨q_blind, va_recv hK hP (ci := 0) (q0 := 6) rfl rfl, fun U hU hW => ⟨rfl, q_pay hU hW hPc hKc hDc hN⟩⟩ rfl rfl hl.1 rfl (lv_room (Nat.le_of_ble_eq_true rfl)) dX3_returnOrSetFlags_107 ⟨show 0 + 0 ≤ 0 from by omega, show 0 + 0 ≤ 0 from by omega⟩) hS (fun q _ h => hFc q h) hFc (fun u9 t H locs ht hvm hw_7 hB hz1 hk1 hS => ?_)
        obtain ⟨fn2_8, fz2_9, fv2_10, fc2_11⟩ := u9
        obtain ⟨hP1, hK1, hD1⟩ := hB
        rw [ht] at hP1
        obtain ⟨hP, hD⟩ := va_join (wr := [(aP, .inr (3, [.ref aR, .ref aF])), (aR, .inr (2, [.ref aM, .ref aA, .ref aB, .int fault])), (aA, .inl (cA, 8, .inl regs)), (aM, .inr (1, [.ref aW, .ref aT, .int cnt])), (aW, .inl (cW, 2048, .inl words)), (aT, .inl (cT, 400, .inl told))]) (w1 := [(aF, .inr (0, [.int fn2_8, .int fz2_9, .int fv2_10, .int fc2_11]))]) hP hD [6] [0, 1, 2, 3, 4, 5] rfl rfl (by decide) (by decide) hk1 hFc hP1 hD1
        have hP : va_P (dC, dI) vwCl [(aP, .inr (3, [.ref aR, .ref aF])), (aR, .inr (2, [.ref aM, .ref aA, .ref aB, .int fault])), (aA, .inl (cA, 8, .inl regs)), (aM, .inr (1, [.ref aW, .ref aT, .int cnt])), (aW, .inl (cW, 2048, .inl words)), (aT, .inl (cT, 400, .inl told)), (aF, .inr (0, [.int fn2_8, .int fz2_9, .int fv2_10, .int fc2_11]))] H := hP
        have hD : va_D A [(aP, .inr (3, [.ref aR, .ref aF])), (aR, .inr (2, [.ref aM, .ref aA, .ref aB, .int fault])), (aA, .inl (cA, 8, .inl regs)), (aM, .inr (1, [.ref aW, .ref aT, .int cnt])), (aW, .inl (cW, 2048, .inl words)), (aT, .inl (cT, 400, .inl told)), (aF, .inr (0, [.int fn2_8, .int fz2_9, .int fv2_10, .int fc2_11]))] := hD
        refine W.widen (k := 0) (n := 0) (by omega) (by omega) ?_
        try dsimp only at hw_7
        have hP9 := hP.sub (ws' := [(aP, .inr (3, [.ref aR, .ref aF])), (aR, .inr (2, [.ref aM, .ref aA, .ref aB, .int fault])), (aA, .inl (cA, 8, .inl regs)), (aM, .inr (1, [.ref aW, .ref aT, .int cnt])), (aW, .inl (cW, 2048, .inl words)), (aT, .inl (cT, 400, .inl told)), (aF, .inr (0, [.int fn2_8, .int fz2_9, .int fv2_10, .int fc2_11]))]) [0, 1, 2, 3, 4, 5, 6] rfl
        have hD9 := hD.sub (ws' := [(aP, .inr (3, [.ref aR, .ref aF])), (aR, .inr (2, [.ref aM, .ref aA, .ref aB, .int fault])), (aA, .inl (cA, 8, .inl regs)), (aM, .inr (1, [.ref aW, .ref aT, .int cnt])), (aW, .inl (cW, 2048, .inl words)), (aT, .inl (cT, 400, .inl told)), (aF, .inr (0, [.int fn2_8, .int fz2_9, .int fv2_10, .int fc2_11]))]) [0, 1, 2, 3, 4, 5, 6] (by decide) rfl
        have hK9 := hK.sub (tys' := [(cA, .int), (cW, .int), (cT, .int)]) [0, 1, 2] rfl
        exact W.vret hx hb hr (fun t ht hW => ⟨⟨(fault, regs, cnt, words, told, fn2_8, fz2_9, fv2_10, fc2_11), rfl, h4, by rw [ht]; exact hP9, va_K.moved hW.alike hK9, hD9⟩, hS.F ht⟩) hS.2.2 dX3_returnOrSetFlags_110
      · refine lv_aload_n hx hb dX3_returnOrSetFlags_73 rfl (lv_at hl 2 rfl) ?_
        refine va_get (D := (dC, dI)) (ci := 3) (v := .ref aF) (C := RX3) (T := TX3) (N := 2) hx hb hts (by decide +kernel) hown hK hP 0 rfl rfl 1 (by decide) (hts (.fieldLink RX3 12 "WordGuest$Processor" "conditions" "LWordGuest$Flags;") (by decide +kernel)) (fun _ h9 => h9) rfl dX3_returnOrSetFlags_74 ?_
        refine lv_aload_n hx hb dX3_returnOrSetFlags_77 rfl (lv_at hl 2 rfl) ?_
        refine va_get (D := (dC, dI)) (ci := 3) (v := .ref aF) (C := RX3) (T := TX3) (N := 2) hx hb hts (by decide +kernel) hown hK hP 0 rfl rfl 1 (by decide) (hts (.fieldLink RX3 12 "WordGuest$Processor" "conditions" "LWordGuest$Flags;") (by decide +kernel)) (fun _ h9 => h9) rfl dX3_returnOrSetFlags_78 ?_
        have hPc := hP.sub (ws' := [(aF, .inr (0, [.int fn, .int fz, .int fv, .int fc]))]) [6] rfl
        have hDc := hD.sub (ws' := [(aF, .inr (0, [.int fn, .int fz, .int fv, .int fc]))]) [6] (by decide) rfl
        have hKc := hK.sub (tys' := []) [] rfl
        have hFc := va_free (wc := [(aF, .inr (0, [.int fn, .int fz, .int fv, .int fc]))]) hD hS hA [6] rfl
        refine va_calli (va_runV (C := RX0) (b := aF) (As := []) (rest := [.ref aF]) ⟨hx, hb, hml, hown, hts⟩ (s_X0_number l dC dI s.heap.size aF fn fz fv fc) (cwV 0 hts gX3_returnOrSetFlags_X0_number rfl rfl rfl (by decide +kernel) ⟨Nat.le_of_ble_eq_true rfl, Nat.le_of_ble_eq_true rfl⟩) ⟨q_blind, va_recv hK hP (ci := 0) (q0 := 6) rfl rfl, fun U hU hW => ⟨rfl, q_pay hU hW hPc hKc hDc hN⟩⟩ rfl rfl hl.1 rfl (lv_room (Nat.le_of_ble_eq_true rfl)) dX3_returnOrSetFlags_81 ⟨show 0 + 0 ≤ 0 from by omega, show 0 + 0 ≤ 0 from by omega⟩) hS (fun q _ h => hFc q h) hFc (fun r_12 u9 t H locs ht hvm hw_13 hB hz1 hk1 hS => ?_)
        obtain ⟨hP1, hK1, hD1⟩ := hB
        rw [ht] at hP1
        obtain ⟨hP, hD⟩ := va_join (wr := [(aP, .inr (3, [.ref aR, .ref aF])), (aR, .inr (2, [.ref aM, .ref aA, .ref aB, .int fault])), (aA, .inl (cA, 8, .inl regs)), (aM, .inr (1, [.ref aW, .ref aT, .int cnt])), (aW, .inl (cW, 2048, .inl words)), (aT, .inl (cT, 400, .inl told))]) (w1 := [(aF, .inr (0, [.int fn, .int fz, .int fv, .int fc]))]) hP hD [6] [0, 1, 2, 3, 4, 5] rfl rfl (by decide) (by decide) hk1 hFc hP1 hD1
        have hP : va_P (dC, dI) vwCl [(aP, .inr (3, [.ref aR, .ref aF])), (aR, .inr (2, [.ref aM, .ref aA, .ref aB, .int fault])), (aA, .inl (cA, 8, .inl regs)), (aM, .inr (1, [.ref aW, .ref aT, .int cnt])), (aW, .inl (cW, 2048, .inl words)), (aT, .inl (cT, 400, .inl told)), (aF, .inr (0, [.int fn, .int fz, .int fv, .int fc]))] H := hP
        have hD : va_D A [(aP, .inr (3, [.ref aR, .ref aF])), (aR, .inr (2, [.ref aM, .ref aA, .ref aB, .int fault])), (aA, .inl (cA, 8, .inl regs)), (aM, .inr (1, [.ref aW, .ref aT, .int cnt])), (aW, .inl (cW, 2048, .inl words)), (aT, .inl (cT, 400, .inl told)), (aF, .inr (0, [.int fn, .int fz, .int fv, .int fc]))] := hD
        refine W.widen (k := 0) (n := 0) (by omega) (by omega) ?_
        try dsimp only at hw_13
        refine lv_iload_n hx hb dX3_returnOrSetFlags_84 rfl (lv_at hl 0 rfl) ?_
        refine lv_iconst (v := (-1)) hx hb dX3_returnOrSetFlags_85 (by decide) ?_
        refine lv_ixor hx hb dX3_returnOrSetFlags_86 ?_
        refine lv_iand hx hb dX3_returnOrSetFlags_87 ?_
        have hPc := hP.sub (ws' := [(aF, .inr (0, [.int fn, .int fz, .int fv, .int fc]))]) [6] rfl
        have hDc := hD.sub (ws' := [(aF, .inr (0, [.int fn, .int fz, .int fv, .int fc]))]) [6] (by decide) rfl
        have hKc := hK.sub (tys' := []) [] rfl
        have hFc := va_free (wc := [(aF, .inr (0, [.int fn, .int fz, .int fv, .int fc]))]) hD hS hA [6] rfl
        refine va_callv (va_runV (C := RX0) (b := aF) (As := [.int (r_12 &&& ((k &&& 15) ^^^ (-1)))]) (rest := []) ⟨hx, hb, hml, hown, hts⟩ (s_X0_become l dC dI H.size aF (r_12 &&& ((k &&& 15) ^^^ (-1))) fn fz fv fc) (cwV 1 hts gX3_returnOrSetFlags_X0_become rfl rfl rfl (by decide +kernel) ⟨Nat.le_of_ble_eq_true rfl, Nat.le_of_ble_eq_true rfl⟩) ⟨q_blind, va_recv hK hP (ci := 0) (q0 := 6) rfl rfl, fun U hU hW => ⟨rfl, q_pay hU hW hPc hKc hDc hN⟩⟩ rfl rfl hl.1 rfl (lv_room (Nat.le_of_ble_eq_true rfl)) dX3_returnOrSetFlags_88 ⟨show 0 + 0 ≤ 0 from by omega, show 0 + 0 ≤ 0 from by omega⟩) hS (fun q _ h => hFc q h) hFc (fun u9 t H locs ht hvm hw_15 hB hz1 hk1 hS => ?_)
        obtain ⟨fn2_16, fz2_17, fv2_18, fc2_19⟩ := u9
        obtain ⟨hP1, hK1, hD1⟩ := hB
        rw [ht] at hP1
        obtain ⟨hP, hD⟩ := va_join (wr := [(aP, .inr (3, [.ref aR, .ref aF])), (aR, .inr (2, [.ref aM, .ref aA, .ref aB, .int fault])), (aA, .inl (cA, 8, .inl regs)), (aM, .inr (1, [.ref aW, .ref aT, .int cnt])), (aW, .inl (cW, 2048, .inl words)), (aT, .inl (cT, 400, .inl told))]) (w1 := [(aF, .inr (0, [.int fn2_16, .int fz2_17, .int fv2_18, .int fc2_19]))]) hP hD [6] [0, 1, 2, 3, 4, 5] rfl rfl (by decide) (by decide) hk1 hFc hP1 hD1
        have hP : va_P (dC, dI) vwCl [(aP, .inr (3, [.ref aR, .ref aF])), (aR, .inr (2, [.ref aM, .ref aA, .ref aB, .int fault])), (aA, .inl (cA, 8, .inl regs)), (aM, .inr (1, [.ref aW, .ref aT, .int cnt])), (aW, .inl (cW, 2048, .inl words)), (aT, .inl (cT, 400, .inl told)), (aF, .inr (0, [.int fn2_16, .int fz2_17, .int fv2_18, .int fc2_19]))] H := hP
        have hD : va_D A [(aP, .inr (3, [.ref aR, .ref aF])), (aR, .inr (2, [.ref aM, .ref aA, .ref aB, .int fault])), (aA, .inl (cA, 8, .inl regs)), (aM, .inr (1, [.ref aW, .ref aT, .int cnt])), (aW, .inl (cW, 2048, .inl words)), (aT, .inl (cT, 400, .inl told)), (aF, .inr (0, [.int fn2_16, .int fz2_17, .int fv2_18, .int fc2_19]))] := hD
        refine W.widen (k := 0) (n := 0) (by omega) (by omega) ?_
        try dsimp only at hw_15
        refine lv_goto (tgt := 110) hx hb dX3_returnOrSetFlags_91 (by decide) ?_
        have hP9 := hP.sub (ws' := [(aP, .inr (3, [.ref aR, .ref aF])), (aR, .inr (2, [.ref aM, .ref aA, .ref aB, .int fault])), (aA, .inl (cA, 8, .inl regs)), (aM, .inr (1, [.ref aW, .ref aT, .int cnt])), (aW, .inl (cW, 2048, .inl words)), (aT, .inl (cT, 400, .inl told)), (aF, .inr (0, [.int fn2_16, .int fz2_17, .int fv2_18, .int fc2_19]))]) [0, 1, 2, 3, 4, 5, 6] rfl
        have hD9 := hD.sub (ws' := [(aP, .inr (3, [.ref aR, .ref aF])), (aR, .inr (2, [.ref aM, .ref aA, .ref aB, .int fault])), (aA, .inl (cA, 8, .inl regs)), (aM, .inr (1, [.ref aW, .ref aT, .int cnt])), (aW, .inl (cW, 2048, .inl words)), (aT, .inl (cT, 400, .inl told)), (aF, .inr (0, [.int fn2_16, .int fz2_17, .int fv2_18, .int fc2_19]))]) [0, 1, 2, 3, 4, 5, 6] (by decide) rfl
        have hK9 := hK.sub (tys' := [(cA, .int), (cW, .int), (cT, .int)]) [0, 1, 2] rfl
        exact W.vret hx hb hr (fun t ht hW => ⟨⟨(fault, regs, cnt, words, told, fn2_16, fz2_17, fv2_18, fc2_19), rfl, h4, by rw [ht]; exact hP9, va_K.moved hW.alike hK9, hD9⟩, hS.F ht⟩) hS.2.2 dX3_returnOrSetFlags_110
    · refine lv_aload_n hx hb dX3_returnOrSetFlags_60 rfl (lv_at hl 2 rfl) ?_
      have hPc := hP.sub (ws' := [(aP, .inr (3, [.ref aR, .ref aF])), (aR, .inr (2, [.ref aM, .ref aA, .ref aB, .int fault]))]) [0, 1] rfl
      have hDc := hD.sub (ws' := [(aP, .inr (3, [.ref aR, .ref aF])), (aR, .inr (2, [.ref aM, .ref aA, .ref aB, .int fault]))]) [0, 1] (by decide) rfl
      have hKc := hK.sub (tys' := []) [] rfl
      have hFc := va_free (wc := [(aP, .inr (3, [.ref aR, .ref aF])), (aR, .inr (2, [.ref aM, .ref aA, .ref aB, .int fault]))]) hD hS hA [0, 1] rfl
      refine va_callv (va_runV (C := RX3) (b := aP) (As := []) (rest := []) ⟨hx, hb, hml, hown, hts⟩ (s_X3_refuse l dC dI s.heap.size aP aR aF aM aA aB fault) (cwV 0 hts gX3_returnOrSetFlags_X3_refuse rfl rfl rfl (by decide +kernel) ⟨Nat.le_of_ble_eq_true rfl, Nat.le_of_ble_eq_true rfl⟩) ⟨q_blind, va_recv hK hP (ci := 3) (q0 := 0) rfl rfl, fun U hU hW => ⟨rfl, q_pay hU hW hPc hKc hDc hN⟩⟩ rfl rfl hl.1 rfl (lv_room (Nat.le_of_ble_eq_true rfl)) dX3_returnOrSetFlags_61 ⟨show 0 + 0 ≤ 0 from by omega, show 0 + 0 ≤ 0 from by omega⟩) hS (fun q _ h => hFc q h) hFc (fun u9 t H locs ht hvm hw_21 hB hz1 hk1 hS => ?_)
      obtain ⟨fault2_22, rfl⟩ : ∃ z, z = u9 := ⟨_, rfl⟩
      obtain ⟨hP1, hK1, hD1⟩ := hB
      rw [ht] at hP1
      obtain ⟨hP, hD⟩ := va_join (wr := [(aA, .inl (cA, 8, .inl regs)), (aM, .inr (1, [.ref aW, .ref aT, .int cnt])), (aW, .inl (cW, 2048, .inl words)), (aT, .inl (cT, 400, .inl told)), (aF, .inr (0, [.int fn, .int fz, .int fv, .int fc]))]) (w1 := [(aP, .inr (3, [.ref aR, .ref aF])), (aR, .inr (2, [.ref aM, .ref aA, .ref aB, .int fault2_22]))]) hP hD [0, 1] [2, 3, 4, 5, 6] rfl rfl (by decide) (by decide) hk1 hFc hP1 hD1
      have hP : va_P (dC, dI) vwCl [(aA, .inl (cA, 8, .inl regs)), (aM, .inr (1, [.ref aW, .ref aT, .int cnt])), (aW, .inl (cW, 2048, .inl words)), (aT, .inl (cT, 400, .inl told)), (aF, .inr (0, [.int fn, .int fz, .int fv, .int fc])), (aP, .inr (3, [.ref aR, .ref aF])), (aR, .inr (2, [.ref aM, .ref aA, .ref aB, .int fault2_22]))] H := hP
      have hD : va_D A [(aA, .inl (cA, 8, .inl regs)), (aM, .inr (1, [.ref aW, .ref aT, .int cnt])), (aW, .inl (cW, 2048, .inl words)), (aT, .inl (cT, 400, .inl told)), (aF, .inr (0, [.int fn, .int fz, .int fv, .int fc])), (aP, .inr (3, [.ref aR, .ref aF])), (aR, .inr (2, [.ref aM, .ref aA, .ref aB, .int fault2_22]))] := hD
      refine W.widen (k := 0) (n := 0) (by omega) (by omega) ?_
      try dsimp only at hw_21
      refine lv_goto (tgt := 110) hx hb dX3_returnOrSetFlags_64 (by decide) ?_
      have hP9 := hP.sub (ws' := [(aP, .inr (3, [.ref aR, .ref aF])), (aR, .inr (2, [.ref aM, .ref aA, .ref aB, .int fault2_22])), (aA, .inl (cA, 8, .inl regs)), (aM, .inr (1, [.ref aW, .ref aT, .int cnt])), (aW, .inl (cW, 2048, .inl words)), (aT, .inl (cT, 400, .inl told)), (aF, .inr (0, [.int fn, .int fz, .int fv, .int fc]))]) [5, 6, 0, 1, 2, 3, 4] rfl
      have hD9 := hD.sub (ws' := [(aP, .inr (3, [.ref aR, .ref aF])), (aR, .inr (2, [.ref aM, .ref aA, .ref aB, .int fault2_22])), (aA, .inl (cA, 8, .inl regs)), (aM, .inr (1, [.ref aW, .ref aT, .int cnt])), (aW, .inl (cW, 2048, .inl words)), (aT, .inl (cT, 400, .inl told)), (aF, .inr (0, [.int fn, .int fz, .int fv, .int fc]))]) [5, 6, 0, 1, 2, 3, 4] (by decide) rfl
      have hK9 := hK.sub (tys' := [(cA, .int), (cW, .int), (cT, .int)]) [0, 1, 2] rfl
      exact W.vret hx hb hr (fun t ht hW => ⟨⟨(fault2_22, regs, cnt, words, told, fn, fz, fv, fc), rfl, h4, by rw [ht]; exact hP9, va_K.moved hW.alike hK9, hD9⟩, hS.F ht⟩) hS.2.2 dX3_returnOrSetFlags_110
  · refine lv_aload_n hx hb dX3_returnOrSetFlags_16 rfl (lv_at hl 2 rfl) ?_
    refine va_get (D := (dC, dI)) (ci := 3) (v := .ref aR) (C := RX3) (T := TX3) (N := 2) hx hb hts (by decide +kernel) hown hK hP 0 rfl rfl 0 (by decide) (hts (.fieldLink RX3 23 "WordGuest$Processor" "parts" "LWordGuest$Parts;") (by decide +kernel)) (fun _ h9 => h9) rfl dX3_returnOrSetFlags_17 ?_
    refine va_getN (D := (dC, dI)) (ci := 2) (v := .ref aA) (C := RX2) (T := TX2) (N := 4) hx hb hts (by decide +kernel) hown hK hP 1 rfl rfl 1 (by decide) ((va_Nw.use rfl (hN _ (List.mem_of_getElem? (i := 9) rfl)))) (fun _ h9 => h9) rfl dX3_returnOrSetFlags_20 ?_
    refine lv_bipush (v := 7) hx hb dX3_returnOrSetFlags_23 (by decide) ?_
    refine lv_aload_n hx hb dX3_returnOrSetFlags_25 rfl (lv_at hl 2 rfl) ?_
    refine va_get (D := (dC, dI)) (ci := 3) (v := .ref aR) (C := RX3) (T := TX3) (N := 2) hx hb hts (by decide +kernel) hown hK hP 0 rfl rfl 0 (by decide) (hts (.fieldLink RX3 23 "WordGuest$Processor" "parts" "LWordGuest$Parts;") (by decide +kernel)) (fun _ h9 => h9) rfl dX3_returnOrSetFlags_26 ?_
    refine va_getN (D := (dC, dI)) (ci := 2) (v := .ref aA) (C := RX2) (T := TX2) (N := 4) hx hb hts (by decide +kernel) hown hK hP 1 rfl rfl 1 (by decide) ((va_Nw.use rfl (hN _ (List.mem_of_getElem? (i := 9) rfl)))) (fun _ h9 => h9) rfl dX3_returnOrSetFlags_29 ?_
    refine lv_iload_n hx hb dX3_returnOrSetFlags_32 rfl (lv_at hl 1 rfl) ?_
    refine va_iald hx hb hK hP 2 0 rfl rfl (q_lt8 c_1) dX3_returnOrSetFlags_33 ?_
    refine va_iast hx hb hK hP hD hS 2 0 rfl rfl (by unfold vp_in; decide) dX3_returnOrSetFlags_34 (fun H locs hP hD hS => ?_)
    have hP : va_P (dC, dI) vwCl [(aP, .inr (3, [.ref aR, .ref aF])), (aR, .inr (2, [.ref aM, .ref aA, .ref aB, .int fault])), (aA, .inl (cA, 8, .inl (upd regs (7 : Int32).toNatClampNeg (regs (k &&& 63).toNatClampNeg)))), (aM, .inr (1, [.ref aW, .ref aT, .int cnt])), (aW, .inl (cW, 2048, .inl words)), (aT, .inl (cT, 400, .inl told)), (aF, .inr (0, [.int fn, .int fz, .int fv, .int fc]))] H := hP
    have hD : va_D A [(aP, .inr (3, [.ref aR, .ref aF])), (aR, .inr (2, [.ref aM, .ref aA, .ref aB, .int fault])), (aA, .inl (cA, 8, .inl (upd regs (7 : Int32).toNatClampNeg (regs (k &&& 63).toNatClampNeg)))), (aM, .inr (1, [.ref aW, .ref aT, .int cnt])), (aW, .inl (cW, 2048, .inl words)), (aT, .inl (cT, 400, .inl told)), (aF, .inr (0, [.int fn, .int fz, .int fv, .int fc]))] := hD
    generalize (upd regs (7 : Int32).toNatClampNeg (regs (k &&& 63).toNatClampNeg)) = g_23 at hP hD
    refine lv_aload_n hx hb dX3_returnOrSetFlags_35 rfl (lv_at hl 2 rfl) ?_
    refine va_get (D := (dC, dI)) (ci := 3) (v := .ref aR) (C := RX3) (T := TX3) (N := 2) hx hb hts (by decide +kernel) hown hK hP 0 rfl rfl 0 (by decide) (hts (.fieldLink RX3 23 "WordGuest$Processor" "parts" "LWordGuest$Parts;") (by decide +kernel)) (fun _ h9 => h9) rfl dX3_returnOrSetFlags_36 ?_
    refine va_getN (D := (dC, dI)) (ci := 2) (v := .ref aA) (C := RX2) (T := TX2) (N := 4) hx hb hts (by decide +kernel) hown hK hP 1 rfl rfl 1 (by decide) ((va_Nw.use rfl (hN _ (List.mem_of_getElem? (i := 9) rfl)))) (fun _ h9 => h9) rfl dX3_returnOrSetFlags_39 ?_
    refine lv_iload_n hx hb dX3_returnOrSetFlags_42 rfl (lv_at hl 1 rfl) ?_
    refine lv_aload_n hx hb dX3_returnOrSetFlags_43 rfl (lv_at hl 2 rfl) ?_
    refine va_get (D := (dC, dI)) (ci := 3) (v := .ref aR) (C := RX3) (T := TX3) (N := 2) hx hb hts (by decide +kernel) hown hK hP 0 rfl rfl 0 (by decide) (hts (.fieldLink RX3 23 "WordGuest$Processor" "parts" "LWordGuest$Parts;") (by decide +kernel)) (fun _ h9 => h9) rfl dX3_returnOrSetFlags_44 ?_
    have hPc := hP.sub (ws' := [(aR, .inr (2, [.ref aM, .ref aA, .ref aB, .int fault])), (aA, .inl (cA, 8, .inl g_23)), (aM, .inr (1, [.ref aW, .ref aT, .int cnt])), (aW, .inl (cW, 2048, .inl words))]) [1, 2, 3, 4] rfl
    have hDc := hD.sub (ws' := [(aR, .inr (2, [.ref aM, .ref aA, .ref aB, .int fault])), (aA, .inl (cA, 8, .inl g_23)), (aM, .inr (1, [.ref aW, .ref aT, .int cnt])), (aW, .inl (cW, 2048, .inl words))]) [1, 2, 3, 4] (by decide) rfl
    have hKc := hK.sub (tys' := [(cA, .int), (cW, .int)]) [0, 1] rfl
    have hFc := va_free (wc := [(aR, .inr (2, [.ref aM, .ref aA, .ref aB, .int fault])), (aA, .inl (cA, 8, .inl g_23)), (aM, .inr (1, [.ref aW, .ref aT, .int cnt])), (aW, .inl (cW, 2048, .inl words))]) hD hS hA [1, 2, 3, 4] rfl
    refine va_calli (va_runV (C := RX2) (b := aR) (As := []) (rest := [.int (k &&& 63), .ref aA]) ⟨hx, hb, hml, hown, hts⟩ (s_X2_pop l dC dI H.size aR aM aA aB fault cA g_23 aW aT cnt cW words) (cwV 0 hts gX3_returnOrSetFlags_X2_pop rfl rfl rfl (by decide +kernel) ⟨Nat.le_of_ble_eq_true rfl, Nat.le_of_ble_eq_true rfl⟩) ⟨q_blind, va_recv hK hP (ci := 2) (q0 := 1) rfl rfl, fun U hU hW => ⟨rfl, q_pay hU hW hPc hKc hDc hN⟩⟩ rfl rfl hl.1 rfl (lv_room (Nat.le_of_ble_eq_true rfl)) dX3_returnOrSetFlags_47 ⟨show 0 + 0 ≤ 0 from by omega, show 0 + 0 ≤ 0 from by omega⟩) hS (fun q _ h => hFc q h) hFc (fun r_24 u9 t H locs ht hvm hw_25 hB hz1 hk1 hS => ?_)
    obtain ⟨fault2_26, regs2_27⟩ := u9
    obtain ⟨hP1, hK1, hD1⟩ := hB
    rw [ht] at hP1
    obtain ⟨hP, hD⟩ := va_join (wr := [(aP, .inr (3, [.ref aR, .ref aF])), (aT, .inl (cT, 400, .inl told)), (aF, .inr (0, [.int fn, .int fz, .int fv, .int fc]))]) (w1 := [(aR, .inr (2, [.ref aM, .ref aA, .ref aB, .int fault2_26])), (aA, .inl (cA, 8, .inl regs2_27)), (aM, .inr (1, [.ref aW, .ref aT, .int cnt])), (aW, .inl (cW, 2048, .inl words))]) hP hD [1, 2, 3, 4] [0, 5, 6] rfl rfl (by decide) (by decide) hk1 hFc hP1 hD1
    have hP : va_P (dC, dI) vwCl [(aP, .inr (3, [.ref aR, .ref aF])), (aT, .inl (cT, 400, .inl told)), (aF, .inr (0, [.int fn, .int fz, .int fv, .int fc])), (aR, .inr (2, [.ref aM, .ref aA, .ref aB, .int fault2_26])), (aA, .inl (cA, 8, .inl regs2_27)), (aM, .inr (1, [.ref aW, .ref aT, .int cnt])), (aW, .inl (cW, 2048, .inl words))] H := hP
    have hD : va_D A [(aP, .inr (3, [.ref aR, .ref aF])), (aT, .inl (cT, 400, .inl told)), (aF, .inr (0, [.int fn, .int fz, .int fv, .int fc])), (aR, .inr (2, [.ref aM, .ref aA, .ref aB, .int fault2_26])), (aA, .inl (cA, 8, .inl regs2_27)), (aM, .inr (1, [.ref aW, .ref aT, .int cnt])), (aW, .inl (cW, 2048, .inl words))] := hD
    refine W.widen (k := 0) (n := 0) (by omega) (by omega) ?_
    try dsimp only at hw_25
    refine va_iast hx hb hK hP hD hS 4 0 rfl rfl (q_lt8 c_1) dX3_returnOrSetFlags_50 (fun H locs hP hD hS => ?_)
    have hP : va_P (dC, dI) vwCl [(aP, .inr (3, [.ref aR, .ref aF])), (aT, .inl (cT, 400, .inl told)), (aF, .inr (0, [.int fn, .int fz, .int fv, .int fc])), (aR, .inr (2, [.ref aM, .ref aA, .ref aB, .int fault2_26])), (aA, .inl (cA, 8, .inl (upd regs2_27 (k &&& 63).toNatClampNeg r_24))), (aM, .inr (1, [.ref aW, .ref aT, .int cnt])), (aW, .inl (cW, 2048, .inl words))] H := hP
    have hD : va_D A [(aP, .inr (3, [.ref aR, .ref aF])), (aT, .inl (cT, 400, .inl told)), (aF, .inr (0, [.int fn, .int fz, .int fv, .int fc])), (aR, .inr (2, [.ref aM, .ref aA, .ref aB, .int fault2_26])), (aA, .inl (cA, 8, .inl (upd regs2_27 (k &&& 63).toNatClampNeg r_24))), (aM, .inr (1, [.ref aW, .ref aT, .int cnt])), (aW, .inl (cW, 2048, .inl words))] := hD
    generalize (upd regs2_27 (k &&& 63).toNatClampNeg r_24) = g_28 at hP hD
    refine lv_goto (tgt := 110) hx hb dX3_returnOrSetFlags_51 (by decide) ?_
    have hP9 := hP.sub (ws' := [(aP, .inr (3, [.ref aR, .ref aF])), (aR, .inr (2, [.ref aM, .ref aA, .ref aB, .int fault2_26])), (aA, .inl (cA, 8, .inl g_28)), (aM, .inr (1, [.ref aW, .ref aT, .int cnt])), (aW, .inl (cW, 2048, .inl words)), (aT, .inl (cT, 400, .inl told)), (aF, .inr (0, [.int fn, .int fz, .int fv, .int fc]))]) [0, 3, 4, 5, 6, 1, 2] rfl
    have hD9 := hD.sub (ws' := [(aP, .inr (3, [.ref aR, .ref aF])), (aR, .inr (2, [.ref aM, .ref aA, .ref aB, .int fault2_26])), (aA, .inl (cA, 8, .inl g_28)), (aM, .inr (1, [.ref aW, .ref aT, .int cnt])), (aW, .inl (cW, 2048, .inl words)), (aT, .inl (cT, 400, .inl told)), (aF, .inr (0, [.int fn, .int fz, .int fv, .int fc]))]) [0, 3, 4, 5, 6, 1, 2] (by decide) rfl
    have hK9 := hK.sub (tys' := [(cA, .int), (cW, .int), (cT, .int)]) [0, 1, 2] rfl
    exact W.vret hx hb hr (fun t ht hW => ⟨⟨(fault2_26, g_28, cnt, words, told, fn, fz, fv, fc), rfl, h4, by rw [ht]; exact hP9, va_K.moved hW.alike hK9, hD9⟩, hS.F ht⟩) hS.2.2 dX3_returnOrSetFlags_110
set_option maxHeartbeats 4000000 in
set_option maxRecDepth 100000 in
theorem s_X3_performWithRegister (l : Launch) (dC : Nat → ClassId) (dI : Nat → Nat → Nat) (sz : Nat) (aP : Nat) (k : Int32) (aR : Nat) (aF : Nat) (aM : Nat) (aA : Nat) (aB : Nat) (fault : Int32) (cA : ClassId) (regs : Nat → Int32) (aW : Nat) (aT : Nat) (cnt : Int32) (cW : ClassId) (words : Nat → Int32) (cT : ClassId) (told : Nat → Int32) (fn : Int32) (fz : Int32) (fv : Int32) (fc : Int32) (h4 : ok4 cnt) : Met l yX3_performWithRegister wsX3_performWithRegister ({ frames := 4, cells := 0, slots := 0, locals := 97 }) (va_Pc [.ref aP, .int k] (q_pre dC dI sz [(aP, .inr (3, [.ref aR, .ref aF])), (aR, .inr (2, [.ref aM, .ref aA, .ref aB, .int fault])), (aA, .inl (cA, 8, .inl regs)), (aM, .inr (1, [.ref aW, .ref aT, .int cnt])), (aW, .inl (cW, 2048, .inl words)), (aT, .inl (cT, 400, .inl told)), (aF, .inr (0, [.int fn, .int fz, .int fv, .int fc]))] [(cA, .int), (cW, .int), (cT, .int)])) (va_Qv (fun (u9 : Int32 × (Nat → Int32) × Int32 × (Nat → Int32) × (Nat → Int32) × Int32 × Int32 × Int32 × Int32) => ok4 u9.2.2.1) (q_at dC dI (va_A [(aP, .inr (3, [.ref aR, .ref aF])), (aR, .inr (2, [.ref aM, .ref aA, .ref aB, .int fault])), (aA, .inl (cA, 8, .inl regs)), (aM, .inr (1, [.ref aW, .ref aT, .int cnt])), (aW, .inl (cW, 2048, .inl words)), (aT, .inl (cT, 400, .inl told)), (aF, .inr (0, [.int fn, .int fz, .int fv, .int fc]))] sz) (fun (u9 : Int32 × (Nat → Int32) × Int32 × (Nat → Int32) × (Nat → Int32) × Int32 × Int32 × Int32 × Int32) => [(cA, .int), (cW, .int), (cT, .int)]) (fun (u9 : Int32 × (Nat → Int32) × Int32 × (Nat → Int32) × (Nat → Int32) × Int32 × Int32 × Int32 × Int32) => [(aP, .inr (3, [.ref aR, .ref aF])), (aR, .inr (2, [.ref aM, .ref aA, .ref aB, .int u9.1])), (aA, .inl (cA, 8, .inl u9.2.1)), (aM, .inr (1, [.ref aW, .ref aT, .int u9.2.2.1])), (aW, .inl (cW, 2048, .inl u9.2.2.2.1)), (aT, .inl (cT, 400, .inl u9.2.2.2.2.1)), (aF, .inr (0, [.int u9.2.2.2.2.2.1, .int u9.2.2.2.2.2.2.1, .int u9.2.2.2.2.2.2.2.1, .int u9.2.2.2.2.2.2.2.2]))])) (va_A [(aP, .inr (3, [.ref aR, .ref aF])), (aR, .inr (2, [.ref aM, .ref aA, .ref aB, .int fault])), (aA, .inl (cA, 8, .inl regs)), (aM, .inr (1, [.ref aW, .ref aT, .int cnt])), (aW, .inl (cW, 2048, .inl words)), (aT, .inl (cT, 400, .inl told)), (aF, .inr (0, [.int fn, .int fz, .int fv, .int fc]))] sz)) 0 0 (va_A [(aP, .inr (3, [.ref aR, .ref aF])), (aR, .inr (2, [.ref aM, .ref aA, .ref aB, .int fault])), (aA, .inl (cA, 8, .inl regs)), (aM, .inr (1, [.ref aW, .ref aT, .int cnt])), (aW, .inl (cW, 2048, .inl words)), (aT, .inl (cT, 400, .inl told)), (aF, .inr (0, [.int fn, .int fz, .int fv, .int fc]))] sz) := by
  refine Met.ofW (cc := cX3_performWithRegister) (maxL := 3) (ret := none) (by decide) rfl ?_
  intro p e s m args below meth c s₁ B hml hv
  obtain ⟨rfl, hsz, hP, hK, hD0, hN⟩ := hv
  have hx := B.exec
  have hb := B.bytes
  have hr := B.returns
  have hts := atoms_spec (ws := wsX3_performWithRegister) B.pre
  have hown : s.vm.findClass RX3 = some m.cls := findClass_of_methodNamed B.named
  have hlocks := B.notSynchronized
  subst hsz
  have hD := hD0.self (sz := s.heap.size)
  generalize hAe : va_A [(aP, .inr (3, [.ref aR, .ref aF])), (aR, .inr (2, [.ref aM, .ref aA, .ref aB, .int fault])), (aA, .inl (cA, 8, .inl regs)), (aM, .inr (1, [.ref aW, .ref aT, .int cnt])), (aW, .inl (cW, 2048, .inl words)), (aT, .inl (cT, 400, .inl told)), (aF, .inr (0, [.int fn, .int fz, .int fv, .int fc]))] s.heap.size = A at hD ⊢
  have hA : ∀ q : Nat, s.heap.size ≤ q → A q := fun q h => by rw [← hAe]; exact Or.inr h
  have hS : va_S A s.heap s.heap [] := va_S.rf
  have hP : va_P (dC, dI) vwCl [(aP, .inr (3, [.ref aR, .ref aF])), (aR, .inr (2, [.ref aM, .ref aA, .ref aB, .int fault])), (aA, .inl (cA, 8, .inl regs)), (aM, .inr (1, [.ref aW, .ref aT, .int cnt])), (aW, .inl (cW, 2048, .inl words)), (aT, .inl (cT, 400, .inl told)), (aF, .inr (0, [.int fn, .int fz, .int fv, .int fc]))] s.heap := hP
  have hl := lv_entry ([.ref aP, .int k]) (n := 3) (Nat.le_of_ble_eq_true rfl)
  rw [lg_entry_eq]
  generalize (lg_sl ([.ref aP, .int k]) ++ List.replicate (3 - (lg_sl ([.ref aP, .int k])).length) Slot.unset).toArray = ls at hl ⊢
  have hl : lv_has ls 3 [(0, .ref aP), (1, .int k)] := hl
  refine lv_iload_n hx hb dX3_performWithRegister_0 rfl (lv_at hl 1 rfl) ?_
  have hPc := hP.sub (ws' := []) [] rfl
  have hDc := hD.sub (ws' := []) [] (by decide) rfl
  have hKc := hK.sub (tys' := []) [] rfl
  have hFc := va_free (wc := []) hD hS hA [] rfl
  refine va_calli (va_runS (As := [.int k]) (rest := []) ⟨hx, hb, hml, hown, hts⟩ (s_X3_hasHighestBit l dC dI s.heap.size k) (va_cwS 1 hts gX3_performWithRegister_X3_hasHighestBit rfl rfl rfl (by decide +kernel) ⟨Nat.le_of_ble_eq_true rfl, Nat.le_of_ble_eq_true rfl⟩) ⟨q_blind, fun U hU hW => ⟨rfl, q_pay hU hW hPc hKc hDc hN⟩⟩ rfl rfl hl.1 rfl (lv_room (Nat.le_of_ble_eq_true rfl)) dX3_performWithRegister_1 ⟨show 0 + 0 ≤ 0 from by omega, show 0 + 0 ≤ 0 from by omega⟩) hS (fun q _ h => hFc q h) hFc (fun r_1 u9 t H locs ht hvm hw_2 hB hz1 hk1 hS => ?_)
  obtain ⟨hP1, hK1, hD1⟩ := hB
  rw [ht] at hP1
  obtain ⟨hP, hD⟩ := va_join (wr := [(aP, .inr (3, [.ref aR, .ref aF])), (aR, .inr (2, [.ref aM, .ref aA, .ref aB, .int fault])), (aA, .inl (cA, 8, .inl regs)), (aM, .inr (1, [.ref aW, .ref aT, .int cnt])), (aW, .inl (cW, 2048, .inl words)), (aT, .inl (cT, 400, .inl told)), (aF, .inr (0, [.int fn, .int fz, .int fv, .int fc]))]) (w1 := []) hP hD [] [0, 1, 2, 3, 4, 5, 6] rfl rfl (by decide) (by decide) hk1 hFc hP1 hD1
  have hP : va_P (dC, dI) vwCl [(aP, .inr (3, [.ref aR, .ref aF])), (aR, .inr (2, [.ref aM, .ref aA, .ref aB, .int fault])), (aA, .inl (cA, 8, .inl regs)), (aM, .inr (1, [.ref aW, .ref aT, .int cnt])), (aW, .inl (cW, 2048, .inl words)), (aT, .inl (cT, 400, .inl told)), (aF, .inr (0, [.int fn, .int fz, .int fv, .int fc]))] H := hP
  have hD : va_D A [(aP, .inr (3, [.ref aR, .ref aF])), (aR, .inr (2, [.ref aM, .ref aA, .ref aB, .int fault])), (aA, .inl (cA, 8, .inl regs)), (aM, .inr (1, [.ref aW, .ref aT, .int cnt])), (aW, .inl (cW, 2048, .inl words)), (aT, .inl (cT, 400, .inl told)), (aF, .inr (0, [.int fn, .int fz, .int fv, .int fc]))] := hD
  refine W.widen (k := 0) (n := 0) (by omega) (by omega) ?_
  try dsimp only at hw_2
  refine lv_if_eq (tgt := 12) hx hb dX3_performWithRegister_4 (by decide) (fun c_3 => ?_) (fun c_3 => ?_)
  · refine lv_iload_n hx hb dX3_performWithRegister_12 rfl (lv_at hl 1 rfl) ?_
    refine lv_bipush (v := 6) hx hb dX3_performWithRegister_13 (by decide) ?_
    refine lv_ishr hx hb dX3_performWithRegister_15 ?_
    refine lv_bipush (v := 7) hx hb dX3_performWithRegister_16 (by decide) ?_
    refine lv_iand hx hb dX3_performWithRegister_18 ?_
    refine lv_istore_n (lv' := [(2, .int ((k >>> (6 &&& 31)) &&& 7)), (0, .ref aP), (1, .int k)]) hx hb dX3_performWithRegister_19 rfl hl (by decide) rfl (fun ls hl => ?_)
    refine lv_iload_n hx hb dX3_performWithRegister_20 rfl (lv_at hl 2 rfl) ?_
    refine lv_bipush (v := 9) hx hb dX3_performWithRegister_21 (by decide) ?_
    refine lv_ishr hx hb dX3_performWithRegister_23 ?_
    refine lv_bipush (v := 7) hx hb dX3_performWithRegister_24 (by decide) ?_
    refine lv_iand hx hb dX3_performWithRegister_26 ?_
    by_cases hs_4 : ((k >>> (9 &&& 31)) &&& 7) = 0
    · refine q_toc (y := 0) hs_4 ?_
      refine lv_tableIn (off := 45) (tgt := 72) hx hb dX3_performWithRegister_27 (by decide) (by decide) (by decide) (by decide) ?_
      refine lv_aload_n hx hb dX3_performWithRegister_72 rfl (lv_at hl 1 rfl) ?_
      refine lv_iload_n hx hb dX3_performWithRegister_73 rfl (lv_at hl 0 rfl) ?_
      refine lv_iload_n hx hb dX3_performWithRegister_74 rfl (lv_at hl 2 rfl) ?_
      have hPc := hP.sub (ws' := [(aP, .inr (3, [.ref aR, .ref aF])), (aR, .inr (2, [.ref aM, .ref aA, .ref aB, .int fault])), (aA, .inl (cA, 8, .inl regs)), (aM, .inr (1, [.ref aW, .ref aT, .int cnt])), (aW, .inl (cW, 2048, .inl words)), (aT, .inl (cT, 400, .inl told)), (aF, .inr (0, [.int fn, .int fz, .int fv, .int fc]))]) [0, 1, 2, 3, 4, 5, 6] rfl
      have hDc := hD.sub (ws' := [(aP, .inr (3, [.ref aR, .ref aF])), (aR, .inr (2, [.ref aM, .ref aA, .ref aB, .int fault])), (aA, .inl (cA, 8, .inl regs)), (aM, .inr (1, [.ref aW, .ref aT, .int cnt])), (aW, .inl (cW, 2048, .inl words)), (aT, .inl (cT, 400, .inl told)), (aF, .inr (0, [.int fn, .int fz, .int fv, .int fc]))]) [0, 1, 2, 3, 4, 5, 6] (by decide) rfl
      have hKc := hK.sub (tys' := [(cA, .int), (cW, .int), (cT, .int)]) [0, 1, 2] rfl
      have hFc := va_free (wc := [(aP, .inr (3, [.ref aR, .ref aF])), (aR, .inr (2, [.ref aM, .ref aA, .ref aB, .int fault])), (aA, .inl (cA, 8, .inl regs)), (aM, .inr (1, [.ref aW, .ref aT, .int cnt])), (aW, .inl (cW, 2048, .inl words)), (aT, .inl (cT, 400, .inl told)), (aF, .inr (0, [.int fn, .int fz, .int fv, .int fc]))]) hD hS hA [0, 1, 2, 3, 4, 5, 6] rfl
      refine va_callv (va_runV (C := RX3) (b := aP) (As := [.int ((k >>> (6 &&& 31)) &&& 7), .int k]) (rest := []) ⟨hx, hb, hml, hown, hts⟩ (s_X3_multiply l dC dI H.size aP ((k >>> (6 &&& 31)) &&& 7) k aR aF aM aA aB fault cA regs aW aT cnt cW words cT told fn fz fv fc h4 (pk_andIn _ 3 (by decide) (by decide))) (cwV 2 hts gX3_performWithRegister_X3_multiply rfl rfl rfl (by decide +kernel) ⟨Nat.le_of_ble_eq_true rfl, Nat.le_of_ble_eq_true rfl⟩) ⟨q_blind, va_recv hK hP (ci := 3) (q0 := 0) rfl rfl, fun U hU hW => ⟨rfl, q_pay hU hW hPc hKc hDc hN⟩⟩ rfl rfl hl.1 rfl (lv_room (Nat.le_of_ble_eq_true rfl)) dX3_performWithRegister_75 ⟨show 0 + 0 ≤ 0 from by omega, show 0 + 0 ≤ 0 from by omega⟩) hS (fun q _ h => hFc q h) hFc (fun u9 t H locs ht hvm hw_6 hB hz1 hk1 hS => ?_)
      obtain ⟨fault2_7, regs2_8, cnt2_9, words2_10, told2_11, fn2_12, fz2_13, fv2_14, fc2_15⟩ := u9
      obtain ⟨hP1, hK1, hD1⟩ := hB
      rw [ht] at hP1
      obtain ⟨hP, hD⟩ := va_join (wr := []) (w1 := [(aP, .inr (3, [.ref aR, .ref aF])), (aR, .inr (2, [.ref aM, .ref aA, .ref aB, .int fault2_7])), (aA, .inl (cA, 8, .inl regs2_8)), (aM, .inr (1, [.ref aW, .ref aT, .int cnt2_9])), (aW, .inl (cW, 2048, .inl words2_10)), (aT, .inl (cT, 400, .inl told2_11)), (aF, .inr (0, [.int fn2_12, .int fz2_13, .int fv2_14, .int fc2_15]))]) hP hD [0, 1, 2, 3, 4, 5, 6] [] rfl rfl (by decide) (by decide) hk1 hFc hP1 hD1
      have hP : va_P (dC, dI) vwCl [(aP, .inr (3, [.ref aR, .ref aF])), (aR, .inr (2, [.ref aM, .ref aA, .ref aB, .int fault2_7])), (aA, .inl (cA, 8, .inl regs2_8)), (aM, .inr (1, [.ref aW, .ref aT, .int cnt2_9])), (aW, .inl (cW, 2048, .inl words2_10)), (aT, .inl (cT, 400, .inl told2_11)), (aF, .inr (0, [.int fn2_12, .int fz2_13, .int fv2_14, .int fc2_15]))] H := hP
      have hD : va_D A [(aP, .inr (3, [.ref aR, .ref aF])), (aR, .inr (2, [.ref aM, .ref aA, .ref aB, .int fault2_7])), (aA, .inl (cA, 8, .inl regs2_8)), (aM, .inr (1, [.ref aW, .ref aT, .int cnt2_9])), (aW, .inl (cW, 2048, .inl words2_10)), (aT, .inl (cT, 400, .inl told2_11)), (aF, .inr (0, [.int fn2_12, .int fz2_13, .int fv2_14, .int fc2_15]))] := hD
      refine W.widen (k := 0) (n := 0) (by omega) (by omega) ?_
      try dsimp only at hw_6
      refine lv_goto (tgt := 124) hx hb dX3_performWithRegister_78 (by decide) ?_
      have hP9 := hP.sub (ws' := [(aP, .inr (3, [.ref aR, .ref aF])), (aR, .inr (2, [.ref aM, .ref aA, .ref aB, .int fault2_7])), (aA, .inl (cA, 8, .inl regs2_8)), (aM, .inr (1, [.ref aW, .ref aT, .int cnt2_9])), (aW, .inl (cW, 2048, .inl words2_10)), (aT, .inl (cT, 400, .inl told2_11)), (aF, .inr (0, [.int fn2_12, .int fz2_13, .int fv2_14, .int fc2_15]))]) [0, 1, 2, 3, 4, 5, 6] rfl
      have hD9 := hD.sub (ws' := [(aP, .inr (3, [.ref aR, .ref aF])), (aR, .inr (2, [.ref aM, .ref aA, .ref aB, .int fault2_7])), (aA, .inl (cA, 8, .inl regs2_8)), (aM, .inr (1, [.ref aW, .ref aT, .int cnt2_9])), (aW, .inl (cW, 2048, .inl words2_10)), (aT, .inl (cT, 400, .inl told2_11)), (aF, .inr (0, [.int fn2_12, .int fz2_13, .int fv2_14, .int fc2_15]))]) [0, 1, 2, 3, 4, 5, 6] (by decide) rfl
      have hK9 := hK.sub (tys' := [(cA, .int), (cW, .int), (cT, .int)]) [0, 1, 2] rfl
      exact W.vret hx hb hr (fun t ht hW => ⟨⟨(fault2_7, regs2_8, cnt2_9, words2_10, told2_11, fn2_12, fz2_13, fv2_14, fc2_15), rfl, hw_6, by rw [ht]; exact hP9, va_K.moved hW.alike hK9, hD9⟩, hS.F ht⟩) hS.2.2 dX3_performWithRegister_124
    by_cases hs_16 : ((k >>> (9 &&& 31)) &&& 7) = 1
    · refine q_toc (y := 1) hs_16 ?_
      refine lv_tableIn (off := 54) (tgt := 81) hx hb dX3_performWithRegister_27 (by decide) (by decide) (by decide) (by decide) ?_
      refine lv_aload_n hx hb dX3_performWithRegister_81 rfl (lv_at hl 1 rfl) ?_
      refine lv_iload_n hx hb dX3_performWithRegister_82 rfl (lv_at hl 0 rfl) ?_
      refine lv_iload_n hx hb dX3_performWithRegister_83 rfl (lv_at hl 2 rfl) ?_
      have hPc := hP.sub (ws' := [(aP, .inr (3, [.ref aR, .ref aF])), (aR, .inr (2, [.ref aM, .ref aA, .ref aB, .int fault])), (aA, .inl (cA, 8, .inl regs)), (aM, .inr (1, [.ref aW, .ref aT, .int cnt])), (aW, .inl (cW, 2048, .inl words)), (aT, .inl (cT, 400, .inl told)), (aF, .inr (0, [.int fn, .int fz, .int fv, .int fc]))]) [0, 1, 2, 3, 4, 5, 6] rfl
      have hDc := hD.sub (ws' := [(aP, .inr (3, [.ref aR, .ref aF])), (aR, .inr (2, [.ref aM, .ref aA, .ref aB, .int fault])), (aA, .inl (cA, 8, .inl regs)), (aM, .inr (1, [.ref aW, .ref aT, .int cnt])), (aW, .inl (cW, 2048, .inl words)), (aT, .inl (cT, 400, .inl told)), (aF, .inr (0, [.int fn, .int fz, .int fv, .int fc]))]) [0, 1, 2, 3, 4, 5, 6] (by decide) rfl
      have hKc := hK.sub (tys' := [(cA, .int), (cW, .int), (cT, .int)]) [0, 1, 2] rfl
      have hFc := va_free (wc := [(aP, .inr (3, [.ref aR, .ref aF])), (aR, .inr (2, [.ref aM, .ref aA, .ref aB, .int fault])), (aA, .inl (cA, 8, .inl regs)), (aM, .inr (1, [.ref aW, .ref aT, .int cnt])), (aW, .inl (cW, 2048, .inl words)), (aT, .inl (cT, 400, .inl told)), (aF, .inr (0, [.int fn, .int fz, .int fv, .int fc]))]) hD hS hA [0, 1, 2, 3, 4, 5, 6] rfl
      refine va_callv (va_runV (C := RX3) (b := aP) (As := [.int ((k >>> (6 &&& 31)) &&& 7), .int k]) (rest := []) ⟨hx, hb, hml, hown, hts⟩ (s_X3_divide l dC dI H.size aP ((k >>> (6 &&& 31)) &&& 7) k aR aF aM aA aB fault cA regs aW aT cnt cW words cT told fn fz fv fc h4 (pk_andIn _ 3 (by decide) (by decide))) (cwV 2 hts gX3_performWithRegister_X3_divide rfl rfl rfl (by decide +kernel) ⟨Nat.le_of_ble_eq_true rfl, Nat.le_of_ble_eq_true rfl⟩) ⟨q_blind, va_recv hK hP (ci := 3) (q0 := 0) rfl rfl, fun U hU hW => ⟨rfl, q_pay hU hW hPc hKc hDc hN⟩⟩ rfl rfl hl.1 rfl (lv_room (Nat.le_of_ble_eq_true rfl)) dX3_performWithRegister_84 ⟨show 0 + 0 ≤ 0 from by omega, show 0 + 0 ≤ 0 from by omega⟩) hS (fun q _ h => hFc q h) hFc (fun u9 t H locs ht hvm hw_18 hB hz1 hk1 hS => ?_)
      obtain ⟨fault2_19, regs2_20, cnt2_21, words2_22, told2_23, fn2_24, fz2_25, fv2_26, fc2_27⟩ := u9
      obtain ⟨hP1, hK1, hD1⟩ := hB
      rw [ht] at hP1
      obtain ⟨hP, hD⟩ := va_join (wr := []) (w1 := [(aP, .inr (3, [.ref aR, .ref aF])), (aR, .inr (2, [.ref aM, .ref aA, .ref aB, .int fault2_19])), (aA, .inl (cA, 8, .inl regs2_20)), (aM, .inr (1, [.ref aW, .ref aT, .int cnt2_21])), (aW, .inl (cW, 2048, .inl words2_22)), (aT, .inl (cT, 400, .inl told2_23)), (aF, .inr (0, [.int fn2_24, .int fz2_25, .int fv2_26, .int fc2_27]))]) hP hD [0, 1, 2, 3, 4, 5, 6] [] rfl rfl (by decide) (by decide) hk1 hFc hP1 hD1
      have hP : va_P (dC, dI) vwCl [(aP, .inr (3, [.ref aR, .ref aF])), (aR, .inr (2, [.ref aM, .ref aA, .ref aB, .int fault2_19])), (aA, .inl (cA, 8, .inl regs2_20)), (aM, .inr (1, [.ref aW, .ref aT, .int cnt2_21])), (aW, .inl (cW, 2048, .inl words2_22)), (aT, .inl (cT, 400, .inl told2_23)), (aF, .inr (0, [.int fn2_24, .int fz2_25, .int fv2_26, .int fc2_27]))] H := hP
      have hD : va_D A [(aP, .inr (3, [.ref aR, .ref aF])), (aR, .inr (2, [.ref aM, .ref aA, .ref aB, .int fault2_19])), (aA, .inl (cA, 8, .inl regs2_20)), (aM, .inr (1, [.ref aW, .ref aT, .int cnt2_21])), (aW, .inl (cW, 2048, .inl words2_22)), (aT, .inl (cT, 400, .inl told2_23)), (aF, .inr (0, [.int fn2_24, .int fz2_25, .int fv2_26, .int fc2_27]))] := hD
      refine W.widen (k := 0) (n := 0) (by omega) (by omega) ?_
      try dsimp only at hw_18
      refine lv_goto (tgt := 124) hx hb dX3_performWithRegister_87 (by decide) ?_
      have hP9 := hP.sub (ws' := [(aP, .inr (3, [.ref aR, .ref aF])), (aR, .inr (2, [.ref aM, .ref aA, .ref aB, .int fault2_19])), (aA, .inl (cA, 8, .inl regs2_20)), (aM, .inr (1, [.ref aW, .ref aT, .int cnt2_21])), (aW, .inl (cW, 2048, .inl words2_22)), (aT, .inl (cT, 400, .inl told2_23)), (aF, .inr (0, [.int fn2_24, .int fz2_25, .int fv2_26, .int fc2_27]))]) [0, 1, 2, 3, 4, 5, 6] rfl
      have hD9 := hD.sub (ws' := [(aP, .inr (3, [.ref aR, .ref aF])), (aR, .inr (2, [.ref aM, .ref aA, .ref aB, .int fault2_19])), (aA, .inl (cA, 8, .inl regs2_20)), (aM, .inr (1, [.ref aW, .ref aT, .int cnt2_21])), (aW, .inl (cW, 2048, .inl words2_22)), (aT, .inl (cT, 400, .inl told2_23)), (aF, .inr (0, [.int fn2_24, .int fz2_25, .int fv2_26, .int fc2_27]))]) [0, 1, 2, 3, 4, 5, 6] (by decide) rfl
      have hK9 := hK.sub (tys' := [(cA, .int), (cW, .int), (cT, .int)]) [0, 1, 2] rfl
      exact W.vret hx hb hr (fun t ht hW => ⟨⟨(fault2_19, regs2_20, cnt2_21, words2_22, told2_23, fn2_24, fz2_25, fv2_26, fc2_27), rfl, hw_18, by rw [ht]; exact hP9, va_K.moved hW.alike hK9, hD9⟩, hS.F ht⟩) hS.2.2 dX3_performWithRegister_124
    by_cases hs_28 : ((k >>> (9 &&& 31)) &&& 7) = 2
    · refine q_toc (y := 2) hs_28 ?_
      refine lv_tableIn (off := 63) (tgt := 90) hx hb dX3_performWithRegister_27 (by decide) (by decide) (by decide) (by decide) ?_
      refine lv_aload_n hx hb dX3_performWithRegister_90 rfl (lv_at hl 1 rfl) ?_
      refine lv_iload_n hx hb dX3_performWithRegister_91 rfl (lv_at hl 0 rfl) ?_
      refine lv_iload_n hx hb dX3_performWithRegister_92 rfl (lv_at hl 2 rfl) ?_
      have hPc := hP.sub (ws' := [(aP, .inr (3, [.ref aR, .ref aF])), (aR, .inr (2, [.ref aM, .ref aA, .ref aB, .int fault])), (aA, .inl (cA, 8, .inl regs)), (aM, .inr (1, [.ref aW, .ref aT, .int cnt])), (aW, .inl (cW, 2048, .inl words)), (aT, .inl (cT, 400, .inl told)), (aF, .inr (0, [.int fn, .int fz, .int fv, .int fc]))]) [0, 1, 2, 3, 4, 5, 6] rfl
      have hDc := hD.sub (ws' := [(aP, .inr (3, [.ref aR, .ref aF])), (aR, .inr (2, [.ref aM, .ref aA, .ref aB, .int fault])), (aA, .inl (cA, 8, .inl regs)), (aM, .inr (1, [.ref aW, .ref aT, .int cnt])), (aW, .inl (cW, 2048, .inl words)), (aT, .inl (cT, 400, .inl told)), (aF, .inr (0, [.int fn, .int fz, .int fv, .int fc]))]) [0, 1, 2, 3, 4, 5, 6] (by decide) rfl
      have hKc := hK.sub (tys' := [(cA, .int), (cW, .int), (cT, .int)]) [0, 1, 2] rfl
      have hFc := va_free (wc := [(aP, .inr (3, [.ref aR, .ref aF])), (aR, .inr (2, [.ref aM, .ref aA, .ref aB, .int fault])), (aA, .inl (cA, 8, .inl regs)), (aM, .inr (1, [.ref aW, .ref aT, .int cnt])), (aW, .inl (cW, 2048, .inl words)), (aT, .inl (cT, 400, .inl told)), (aF, .inr (0, [.int fn, .int fz, .int fv, .int fc]))]) hD hS hA [0, 1, 2, 3, 4, 5, 6] rfl
      refine va_callv (va_runV (C := RX3) (b := aP) (As := [.int ((k >>> (6 &&& 31)) &&& 7), .int k]) (rest := []) ⟨hx, hb, hml, hown, hts⟩ (s_X3_shift l dC dI H.size aP ((k >>> (6 &&& 31)) &&& 7) k aR aF aM aA aB fault cA regs aW aT cnt cW words cT told fn fz fv fc h4 (pk_andIn _ 3 (by decide) (by decide))) (cwV 2 hts gX3_performWithRegister_X3_shift rfl rfl rfl (by decide +kernel) ⟨Nat.le_of_ble_eq_true rfl, Nat.le_of_ble_eq_true rfl⟩) ⟨q_blind, va_recv hK hP (ci := 3) (q0 := 0) rfl rfl, fun U hU hW => ⟨rfl, q_pay hU hW hPc hKc hDc hN⟩⟩ rfl rfl hl.1 rfl (lv_room (Nat.le_of_ble_eq_true rfl)) dX3_performWithRegister_93 ⟨show 0 + 0 ≤ 0 from by omega, show 0 + 0 ≤ 0 from by omega⟩) hS (fun q _ h => hFc q h) hFc (fun u9 t H locs ht hvm hw_30 hB hz1 hk1 hS => ?_)
      obtain ⟨fault2_31, regs2_32, cnt2_33, words2_34, told2_35, fn2_36, fz2_37, fv2_38, fc2_39⟩ := u9
      obtain ⟨hP1, hK1, hD1⟩ := hB
      rw [ht] at hP1
      obtain ⟨hP, hD⟩ := va_join (wr := []) (w1 := [(aP, .inr (3, [.ref aR, .ref aF])), (aR, .inr (2, [.ref aM, .ref aA, .ref aB, .int fault2_31])), (aA, .inl (cA, 8, .inl regs2_32)), (aM, .inr (1, [.ref aW, .ref aT, .int cnt2_33])), (aW, .inl (cW, 2048, .inl words2_34)), (aT, .inl (cT, 400, .inl told2_35)), (aF, .inr (0, [.int fn2_36, .int fz2_37, .int fv2_38, .int fc2_39]))]) hP hD [0, 1, 2, 3, 4, 5, 6] [] rfl rfl (by decide) (by decide) hk1 hFc hP1 hD1
      have hP : va_P (dC, dI) vwCl [(aP, .inr (3, [.ref aR, .ref aF])), (aR, .inr (2, [.ref aM, .ref aA, .ref aB, .int fault2_31])), (aA, .inl (cA, 8, .inl regs2_32)), (aM, .inr (1, [.ref aW, .ref aT, .int cnt2_33])), (aW, .inl (cW, 2048, .inl words2_34)), (aT, .inl (cT, 400, .inl told2_35)), (aF, .inr (0, [.int fn2_36, .int fz2_37, .int fv2_38, .int fc2_39]))] H := hP
      have hD : va_D A [(aP, .inr (3, [.ref aR, .ref aF])), (aR, .inr (2, [.ref aM, .ref aA, .ref aB, .int fault2_31])), (aA, .inl (cA, 8, .inl regs2_32)), (aM, .inr (1, [.ref aW, .ref aT, .int cnt2_33])), (aW, .inl (cW, 2048, .inl words2_34)), (aT, .inl (cT, 400, .inl told2_35)), (aF, .inr (0, [.int fn2_36, .int fz2_37, .int fv2_38, .int fc2_39]))] := hD
      refine W.widen (k := 0) (n := 0) (by omega) (by omega) ?_
      try dsimp only at hw_30
      refine lv_goto (tgt := 124) hx hb dX3_performWithRegister_96 (by decide) ?_
      have hP9 := hP.sub (ws' := [(aP, .inr (3, [.ref aR, .ref aF])), (aR, .inr (2, [.ref aM, .ref aA, .ref aB, .int fault2_31])), (aA, .inl (cA, 8, .inl regs2_32)), (aM, .inr (1, [.ref aW, .ref aT, .int cnt2_33])), (aW, .inl (cW, 2048, .inl words2_34)), (aT, .inl (cT, 400, .inl told2_35)), (aF, .inr (0, [.int fn2_36, .int fz2_37, .int fv2_38, .int fc2_39]))]) [0, 1, 2, 3, 4, 5, 6] rfl
      have hD9 := hD.sub (ws' := [(aP, .inr (3, [.ref aR, .ref aF])), (aR, .inr (2, [.ref aM, .ref aA, .ref aB, .int fault2_31])), (aA, .inl (cA, 8, .inl regs2_32)), (aM, .inr (1, [.ref aW, .ref aT, .int cnt2_33])), (aW, .inl (cW, 2048, .inl words2_34)), (aT, .inl (cT, 400, .inl told2_35)), (aF, .inr (0, [.int fn2_36, .int fz2_37, .int fv2_38, .int fc2_39]))]) [0, 1, 2, 3, 4, 5, 6] (by decide) rfl
      have hK9 := hK.sub (tys' := [(cA, .int), (cW, .int), (cT, .int)]) [0, 1, 2] rfl
      exact W.vret hx hb hr (fun t ht hW => ⟨⟨(fault2_31, regs2_32, cnt2_33, words2_34, told2_35, fn2_36, fz2_37, fv2_38, fc2_39), rfl, hw_30, by rw [ht]; exact hP9, va_K.moved hW.alike hK9, hD9⟩, hS.F ht⟩) hS.2.2 dX3_performWithRegister_124
    by_cases hs_40 : ((k >>> (9 &&& 31)) &&& 7) = 3
    · refine q_toc (y := 3) hs_40 ?_
      refine lv_tableIn (off := 93) (tgt := 120) hx hb dX3_performWithRegister_27 (by decide) (by decide) (by decide) (by decide) ?_
      refine lv_aload_n hx hb dX3_performWithRegister_120 rfl (lv_at hl 1 rfl) ?_
      have hPc := hP.sub (ws' := [(aP, .inr (3, [.ref aR, .ref aF])), (aR, .inr (2, [.ref aM, .ref aA, .ref aB, .int fault]))]) [0, 1] rfl
      have hDc := hD.sub (ws' := [(aP, .inr (3, [.ref aR, .ref aF])), (aR, .inr (2, [.ref aM, .ref aA, .ref aB, .int fault]))]) [0, 1] (by decide) rfl
      have hKc := hK.sub (tys' := []) [] rfl
      have hFc := va_free (wc := [(aP, .inr (3, [.ref aR, .ref aF])), (aR, .inr (2, [.ref aM, .ref aA, .ref aB, .int fault]))]) hD hS hA [0, 1] rfl
      refine va_callv (va_runV (C := RX3) (b := aP) (As := []) (rest := []) ⟨hx, hb, hml, hown, hts⟩ (s_X3_refuse l dC dI H.size aP aR aF aM aA aB fault) (cwV 0 hts gX3_performWithRegister_X3_refuse rfl rfl rfl (by decide +kernel) ⟨Nat.le_of_ble_eq_true rfl, Nat.le_of_ble_eq_true rfl⟩) ⟨q_blind, va_recv hK hP (ci := 3) (q0 := 0) rfl rfl, fun U hU hW => ⟨rfl, q_pay hU hW hPc hKc hDc hN⟩⟩ rfl rfl hl.1 rfl (lv_room (Nat.le_of_ble_eq_true rfl)) dX3_performWithRegister_121 ⟨show 0 + 0 ≤ 0 from by omega, show 0 + 0 ≤ 0 from by omega⟩) hS (fun q _ h => hFc q h) hFc (fun u9 t H locs ht hvm hw_42 hB hz1 hk1 hS => ?_)
      obtain ⟨fault2_43, rfl⟩ : ∃ z, z = u9 := ⟨_, rfl⟩
      obtain ⟨hP1, hK1, hD1⟩ := hB
      rw [ht] at hP1
      obtain ⟨hP, hD⟩ := va_join (wr := [(aA, .inl (cA, 8, .inl regs)), (aM, .inr (1, [.ref aW, .ref aT, .int cnt])), (aW, .inl (cW, 2048, .inl words)), (aT, .inl (cT, 400, .inl told)), (aF, .inr (0, [.int fn, .int fz, .int fv, .int fc]))]) (w1 := [(aP, .inr (3, [.ref aR, .ref aF])), (aR, .inr (2, [.ref aM, .ref aA, .ref aB, .int fault2_43]))]) hP hD [0, 1] [2, 3, 4, 5, 6] rfl rfl (by decide) (by decide) hk1 hFc hP1 hD1
      have hP : va_P (dC, dI) vwCl [(aA, .inl (cA, 8, .inl regs)), (aM, .inr (1, [.ref aW, .ref aT, .int cnt])), (aW, .inl (cW, 2048, .inl words)), (aT, .inl (cT, 400, .inl told)), (aF, .inr (0, [.int fn, .int fz, .int fv, .int fc])), (aP, .inr (3, [.ref aR, .ref aF])), (aR, .inr (2, [.ref aM, .ref aA, .ref aB, .int fault2_43]))] H := hP
      have hD : va_D A [(aA, .inl (cA, 8, .inl regs)), (aM, .inr (1, [.ref aW, .ref aT, .int cnt])), (aW, .inl (cW, 2048, .inl words)), (aT, .inl (cT, 400, .inl told)), (aF, .inr (0, [.int fn, .int fz, .int fv, .int fc])), (aP, .inr (3, [.ref aR, .ref aF])), (aR, .inr (2, [.ref aM, .ref aA, .ref aB, .int fault2_43]))] := hD
      refine W.widen (k := 0) (n := 0) (by omega) (by omega) ?_
      try dsimp only at hw_42
      have hP9 := hP.sub (ws' := [(aP, .inr (3, [.ref aR, .ref aF])), (aR, .inr (2, [.ref aM, .ref aA, .ref aB, .int fault2_43])), (aA, .inl (cA, 8, .inl regs)), (aM, .inr (1, [.ref aW, .ref aT, .int cnt])), (aW, .inl (cW, 2048, .inl words)), (aT, .inl (cT, 400, .inl told)), (aF, .inr (0, [.int fn, .int fz, .int fv, .int fc]))]) [5, 6, 0, 1, 2, 3, 4] rfl
      have hD9 := hD.sub (ws' := [(aP, .inr (3, [.ref aR, .ref aF])), (aR, .inr (2, [.ref aM, .ref aA, .ref aB, .int fault2_43])), (aA, .inl (cA, 8, .inl regs)), (aM, .inr (1, [.ref aW, .ref aT, .int cnt])), (aW, .inl (cW, 2048, .inl words)), (aT, .inl (cT, 400, .inl told)), (aF, .inr (0, [.int fn, .int fz, .int fv, .int fc]))]) [5, 6, 0, 1, 2, 3, 4] (by decide) rfl
      have hK9 := hK.sub (tys' := [(cA, .int), (cW, .int), (cT, .int)]) [0, 1, 2] rfl
      exact W.vret hx hb hr (fun t ht hW => ⟨⟨(fault2_43, regs, cnt, words, told, fn, fz, fv, fc), rfl, h4, by rw [ht]; exact hP9, va_K.moved hW.alike hK9, hD9⟩, hS.F ht⟩) hS.2.2 dX3_performWithRegister_124
    by_cases hs_44 : ((k >>> (9 &&& 31)) &&& 7) = 4
    · refine q_toc (y := 4) hs_44 ?_
      refine lv_tableIn (off := 72) (tgt := 99) hx hb dX3_performWithRegister_27 (by decide) (by decide) (by decide) (by decide) ?_
      refine lv_aload_n hx hb dX3_performWithRegister_99 rfl (lv_at hl 1 rfl) ?_
      refine lv_iload_n hx hb dX3_performWithRegister_100 rfl (lv_at hl 0 rfl) ?_
      refine lv_iload_n hx hb dX3_performWithRegister_101 rfl (lv_at hl 2 rfl) ?_
      have hPc := hP.sub (ws' := [(aP, .inr (3, [.ref aR, .ref aF])), (aR, .inr (2, [.ref aM, .ref aA, .ref aB, .int fault])), (aA, .inl (cA, 8, .inl regs)), (aM, .inr (1, [.ref aW, .ref aT, .int cnt])), (aW, .inl (cW, 2048, .inl words)), (aT, .inl (cT, 400, .inl told)), (aF, .inr (0, [.int fn, .int fz, .int fv, .int fc]))]) [0, 1, 2, 3, 4, 5, 6] rfl
      have hDc := hD.sub (ws' := [(aP, .inr (3, [.ref aR, .ref aF])), (aR, .inr (2, [.ref aM, .ref aA, .ref aB, .int fault])), (aA, .inl (cA, 8, .inl regs)), (aM, .inr (1, [.ref aW, .ref aT, .int cnt])), (aW, .inl (cW, 2048, .inl words)), (aT, .inl (cT, 400, .inl told)), (aF, .inr (0, [.int fn, .int fz, .int fv, .int fc]))]) [0, 1, 2, 3, 4, 5, 6] (by decide) rfl
      have hKc := hK.sub (tys' := [(cA, .int), (cW, .int), (cT, .int)]) [0, 1, 2] rfl
      have hFc := va_free (wc := [(aP, .inr (3, [.ref aR, .ref aF])), (aR, .inr (2, [.ref aM, .ref aA, .ref aB, .int fault])), (aA, .inl (cA, 8, .inl regs)), (aM, .inr (1, [.ref aW, .ref aT, .int cnt])), (aW, .inl (cW, 2048, .inl words)), (aT, .inl (cT, 400, .inl told)), (aF, .inr (0, [.int fn, .int fz, .int fv, .int fc]))]) hD hS hA [0, 1, 2, 3, 4, 5, 6] rfl
      refine va_callv (va_runV (C := RX3) (b := aP) (As := [.int ((k >>> (6 &&& 31)) &&& 7), .int k]) (rest := []) ⟨hx, hb, hml, hown, hts⟩ (s_X3_exclude l dC dI H.size aP ((k >>> (6 &&& 31)) &&& 7) k aR aF aM aA aB fault cA regs aW aT cnt cW words cT told fn fz fv fc h4 (pk_andIn _ 3 (by decide) (by decide))) (cwV 2 hts gX3_performWithRegister_X3_exclude rfl rfl rfl (by decide +kernel) ⟨Nat.le_of_ble_eq_true rfl, Nat.le_of_ble_eq_true rfl⟩) ⟨q_blind, va_recv hK hP (ci := 3) (q0 := 0) rfl rfl, fun U hU hW => ⟨rfl, q_pay hU hW hPc hKc hDc hN⟩⟩ rfl rfl hl.1 rfl (lv_room (Nat.le_of_ble_eq_true rfl)) dX3_performWithRegister_102 ⟨show 0 + 0 ≤ 0 from by omega, show 0 + 0 ≤ 0 from by omega⟩) hS (fun q _ h => hFc q h) hFc (fun u9 t H locs ht hvm hw_46 hB hz1 hk1 hS => ?_)
      obtain ⟨fault2_47, regs2_48, cnt2_49, words2_50, told2_51, fn2_52, fz2_53, fv2_54, fc2_55⟩ := u9
      obtain ⟨hP1, hK1, hD1⟩ := hB
      rw [ht] at hP1
      obtain ⟨hP, hD⟩ := va_join (wr := []) (w1 := [(aP, .inr (3, [.ref aR, .ref aF])), (aR, .inr (2, [.ref aM, .ref aA, .ref aB, .int fault2_47])), (aA, .inl (cA, 8, .inl regs2_48)), (aM, .inr (1, [.ref aW, .ref aT, .int cnt2_49])), (aW, .inl (cW, 2048, .inl words2_50)), (aT, .inl (cT, 400, .inl told2_51)), (aF, .inr (0, [.int fn2_52, .int fz2_53, .int fv2_54, .int fc2_55]))]) hP hD [0, 1, 2, 3, 4, 5, 6] [] rfl rfl (by decide) (by decide) hk1 hFc hP1 hD1
      have hP : va_P (dC, dI) vwCl [(aP, .inr (3, [.ref aR, .ref aF])), (aR, .inr (2, [.ref aM, .ref aA, .ref aB, .int fault2_47])), (aA, .inl (cA, 8, .inl regs2_48)), (aM, .inr (1, [.ref aW, .ref aT, .int cnt2_49])), (aW, .inl (cW, 2048, .inl words2_50)), (aT, .inl (cT, 400, .inl told2_51)), (aF, .inr (0, [.int fn2_52, .int fz2_53, .int fv2_54, .int fc2_55]))] H := hP
      have hD : va_D A [(aP, .inr (3, [.ref aR, .ref aF])), (aR, .inr (2, [.ref aM, .ref aA, .ref aB, .int fault2_47])), (aA, .inl (cA, 8, .inl regs2_48)), (aM, .inr (1, [.ref aW, .ref aT, .int cnt2_49])), (aW, .inl (cW, 2048, .inl words2_50)), (aT, .inl (cT, 400, .inl told2_51)), (aF, .inr (0, [.int fn2_52, .int fz2_53, .int fv2_54, .int fc2_55]))] := hD
      refine W.widen (k := 0) (n := 0) (by omega) (by omega) ?_
      try dsimp only at hw_46
      refine lv_goto (tgt := 124) hx hb dX3_performWithRegister_105 (by decide) ?_
      have hP9 := hP.sub (ws' := [(aP, .inr (3, [.ref aR, .ref aF])), (aR, .inr (2, [.ref aM, .ref aA, .ref aB, .int fault2_47])), (aA, .inl (cA, 8, .inl regs2_48)), (aM, .inr (1, [.ref aW, .ref aT, .int cnt2_49])), (aW, .inl (cW, 2048, .inl words2_50)), (aT, .inl (cT, 400, .inl told2_51)), (aF, .inr (0, [.int fn2_52, .int fz2_53, .int fv2_54, .int fc2_55]))]) [0, 1, 2, 3, 4, 5, 6] rfl
      have hD9 := hD.sub (ws' := [(aP, .inr (3, [.ref aR, .ref aF])), (aR, .inr (2, [.ref aM, .ref aA, .ref aB, .int fault2_47])), (aA, .inl (cA, 8, .inl regs2_48)), (aM, .inr (1, [.ref aW, .ref aT, .int cnt2_49])), (aW, .inl (cW, 2048, .inl words2_50)), (aT, .inl (cT, 400, .inl told2_51)), (aF, .inr (0, [.int fn2_52, .int fz2_53, .int fv2_54, .int fc2_55]))]) [0, 1, 2, 3, 4, 5, 6] (by decide) rfl
      have hK9 := hK.sub (tys' := [(cA, .int), (cW, .int), (cT, .int)]) [0, 1, 2] rfl
      exact W.vret hx hb hr (fun t ht hW => ⟨⟨(fault2_47, regs2_48, cnt2_49, words2_50, told2_51, fn2_52, fz2_53, fv2_54, fc2_55), rfl, hw_46, by rw [ht]; exact hP9, va_K.moved hW.alike hK9, hD9⟩, hS.F ht⟩) hS.2.2 dX3_performWithRegister_124
    by_cases hs_56 : ((k >>> (9 &&& 31)) &&& 7) = 5
    · refine q_toc (y := 5) hs_56 ?_
      refine lv_tableIn (off := 93) (tgt := 120) hx hb dX3_performWithRegister_27 (by decide) (by decide) (by decide) (by decide) ?_
      refine lv_aload_n hx hb dX3_performWithRegister_120 rfl (lv_at hl 1 rfl) ?_
      have hPc := hP.sub (ws' := [(aP, .inr (3, [.ref aR, .ref aF])), (aR, .inr (2, [.ref aM, .ref aA, .ref aB, .int fault]))]) [0, 1] rfl
      have hDc := hD.sub (ws' := [(aP, .inr (3, [.ref aR, .ref aF])), (aR, .inr (2, [.ref aM, .ref aA, .ref aB, .int fault]))]) [0, 1] (by decide) rfl
      have hKc := hK.sub (tys' := []) [] rfl
      have hFc := va_free (wc := [(aP, .inr (3, [.ref aR, .ref aF])), (aR, .inr (2, [.ref aM, .ref aA, .ref aB, .int fault]))]) hD hS hA [0, 1] rfl
      refine va_callv (va_runV (C := RX3) (b := aP) (As := []) (rest := []) ⟨hx, hb, hml, hown, hts⟩ (s_X3_refuse l dC dI H.size aP aR aF aM aA aB fault) (cwV 0 hts gX3_performWithRegister_X3_refuse rfl rfl rfl (by decide +kernel) ⟨Nat.le_of_ble_eq_true rfl, Nat.le_of_ble_eq_true rfl⟩) ⟨q_blind, va_recv hK hP (ci := 3) (q0 := 0) rfl rfl, fun U hU hW => ⟨rfl, q_pay hU hW hPc hKc hDc hN⟩⟩ rfl rfl hl.1 rfl (lv_room (Nat.le_of_ble_eq_true rfl)) dX3_performWithRegister_121 ⟨show 0 + 0 ≤ 0 from by omega, show 0 + 0 ≤ 0 from by omega⟩) hS (fun q _ h => hFc q h) hFc (fun u9 t H locs ht hvm hw_58 hB hz1 hk1 hS => ?_)
      obtain ⟨fault2_59, rfl⟩ : ∃ z, z = u9 := ⟨_, rfl⟩
      obtain ⟨hP1, hK1, hD1⟩ := hB
      rw [ht] at hP1
      obtain ⟨hP, hD⟩ := va_join (wr := [(aA, .inl (cA, 8, .inl regs)), (aM, .inr (1, [.ref aW, .ref aT, .int cnt])), (aW, .inl (cW, 2048, .inl words)), (aT, .inl (cT, 400, .inl told)), (aF, .inr (0, [.int fn, .int fz, .int fv, .int fc]))]) (w1 := [(aP, .inr (3, [.ref aR, .ref aF])), (aR, .inr (2, [.ref aM, .ref aA, .ref aB, .int fault2_59]))]) hP hD [0, 1] [2, 3, 4, 5, 6] rfl rfl (by decide) (by decide) hk1 hFc hP1 hD1
      have hP : va_P (dC, dI) vwCl [(aA, .inl (cA, 8, .inl regs)), (aM, .inr (1, [.ref aW, .ref aT, .int cnt])), (aW, .inl (cW, 2048, .inl words)), (aT, .inl (cT, 400, .inl told)), (aF, .inr (0, [.int fn, .int fz, .int fv, .int fc])), (aP, .inr (3, [.ref aR, .ref aF])), (aR, .inr (2, [.ref aM, .ref aA, .ref aB, .int fault2_59]))] H := hP
      have hD : va_D A [(aA, .inl (cA, 8, .inl regs)), (aM, .inr (1, [.ref aW, .ref aT, .int cnt])), (aW, .inl (cW, 2048, .inl words)), (aT, .inl (cT, 400, .inl told)), (aF, .inr (0, [.int fn, .int fz, .int fv, .int fc])), (aP, .inr (3, [.ref aR, .ref aF])), (aR, .inr (2, [.ref aM, .ref aA, .ref aB, .int fault2_59]))] := hD
      refine W.widen (k := 0) (n := 0) (by omega) (by omega) ?_
      try dsimp only at hw_58
      have hP9 := hP.sub (ws' := [(aP, .inr (3, [.ref aR, .ref aF])), (aR, .inr (2, [.ref aM, .ref aA, .ref aB, .int fault2_59])), (aA, .inl (cA, 8, .inl regs)), (aM, .inr (1, [.ref aW, .ref aT, .int cnt])), (aW, .inl (cW, 2048, .inl words)), (aT, .inl (cT, 400, .inl told)), (aF, .inr (0, [.int fn, .int fz, .int fv, .int fc]))]) [5, 6, 0, 1, 2, 3, 4] rfl
      have hD9 := hD.sub (ws' := [(aP, .inr (3, [.ref aR, .ref aF])), (aR, .inr (2, [.ref aM, .ref aA, .ref aB, .int fault2_59])), (aA, .inl (cA, 8, .inl regs)), (aM, .inr (1, [.ref aW, .ref aT, .int cnt])), (aW, .inl (cW, 2048, .inl words)), (aT, .inl (cT, 400, .inl told)), (aF, .inr (0, [.int fn, .int fz, .int fv, .int fc]))]) [5, 6, 0, 1, 2, 3, 4] (by decide) rfl
      have hK9 := hK.sub (tys' := [(cA, .int), (cW, .int), (cT, .int)]) [0, 1, 2] rfl
      exact W.vret hx hb hr (fun t ht hW => ⟨⟨(fault2_59, regs, cnt, words, told, fn, fz, fv, fc), rfl, h4, by rw [ht]; exact hP9, va_K.moved hW.alike hK9, hD9⟩, hS.F ht⟩) hS.2.2 dX3_performWithRegister_124
    by_cases hs_60 : ((k >>> (9 &&& 31)) &&& 7) = 6
    · refine q_toc (y := 6) hs_60 ?_
      refine lv_tableIn (off := 93) (tgt := 120) hx hb dX3_performWithRegister_27 (by decide) (by decide) (by decide) (by decide) ?_
      refine lv_aload_n hx hb dX3_performWithRegister_120 rfl (lv_at hl 1 rfl) ?_
      have hPc := hP.sub (ws' := [(aP, .inr (3, [.ref aR, .ref aF])), (aR, .inr (2, [.ref aM, .ref aA, .ref aB, .int fault]))]) [0, 1] rfl
      have hDc := hD.sub (ws' := [(aP, .inr (3, [.ref aR, .ref aF])), (aR, .inr (2, [.ref aM, .ref aA, .ref aB, .int fault]))]) [0, 1] (by decide) rfl
      have hKc := hK.sub (tys' := []) [] rfl
      have hFc := va_free (wc := [(aP, .inr (3, [.ref aR, .ref aF])), (aR, .inr (2, [.ref aM, .ref aA, .ref aB, .int fault]))]) hD hS hA [0, 1] rfl
      refine va_callv (va_runV (C := RX3) (b := aP) (As := []) (rest := []) ⟨hx, hb, hml, hown, hts⟩ (s_X3_refuse l dC dI H.size aP aR aF aM aA aB fault) (cwV 0 hts gX3_performWithRegister_X3_refuse rfl rfl rfl (by decide +kernel) ⟨Nat.le_of_ble_eq_true rfl, Nat.le_of_ble_eq_true rfl⟩) ⟨q_blind, va_recv hK hP (ci := 3) (q0 := 0) rfl rfl, fun U hU hW => ⟨rfl, q_pay hU hW hPc hKc hDc hN⟩⟩ rfl rfl hl.1 rfl (lv_room (Nat.le_of_ble_eq_true rfl)) dX3_performWithRegister_121 ⟨show 0 + 0 ≤ 0 from by omega, show 0 + 0 ≤ 0 from by omega⟩) hS (fun q _ h => hFc q h) hFc (fun u9 t H locs ht hvm hw_62 hB hz1 hk1 hS => ?_)
      obtain ⟨fault2_63, rfl⟩ : ∃ z, z = u9 := ⟨_, rfl⟩
      obtain ⟨hP1, hK1, hD1⟩ := hB
      rw [ht] at hP1
      obtain ⟨hP, hD⟩ := va_join (wr := [(aA, .inl (cA, 8, .inl regs)), (aM, .inr (1, [.ref aW, .ref aT, .int cnt])), (aW, .inl (cW, 2048, .inl words)), (aT, .inl (cT, 400, .inl told)), (aF, .inr (0, [.int fn, .int fz, .int fv, .int fc]))]) (w1 := [(aP, .inr (3, [.ref aR, .ref aF])), (aR, .inr (2, [.ref aM, .ref aA, .ref aB, .int fault2_63]))]) hP hD [0, 1] [2, 3, 4, 5, 6] rfl rfl (by decide) (by decide) hk1 hFc hP1 hD1
      have hP : va_P (dC, dI) vwCl [(aA, .inl (cA, 8, .inl regs)), (aM, .inr (1, [.ref aW, .ref aT, .int cnt])), (aW, .inl (cW, 2048, .inl words)), (aT, .inl (cT, 400, .inl told)), (aF, .inr (0, [.int fn, .int fz, .int fv, .int fc])), (aP, .inr (3, [.ref aR, .ref aF])), (aR, .inr (2, [.ref aM, .ref aA, .ref aB, .int fault2_63]))] H := hP
      have hD : va_D A [(aA, .inl (cA, 8, .inl regs)), (aM, .inr (1, [.ref aW, .ref aT, .int cnt])), (aW, .inl (cW, 2048, .inl words)), (aT, .inl (cT, 400, .inl told)), (aF, .inr (0, [.int fn, .int fz, .int fv, .int fc])), (aP, .inr (3, [.ref aR, .ref aF])), (aR, .inr (2, [.ref aM, .ref aA, .ref aB, .int fault2_63]))] := hD
      refine W.widen (k := 0) (n := 0) (by omega) (by omega) ?_
      try dsimp only at hw_62
      have hP9 := hP.sub (ws' := [(aP, .inr (3, [.ref aR, .ref aF])), (aR, .inr (2, [.ref aM, .ref aA, .ref aB, .int fault2_63])), (aA, .inl (cA, 8, .inl regs)), (aM, .inr (1, [.ref aW, .ref aT, .int cnt])), (aW, .inl (cW, 2048, .inl words)), (aT, .inl (cT, 400, .inl told)), (aF, .inr (0, [.int fn, .int fz, .int fv, .int fc]))]) [5, 6, 0, 1, 2, 3, 4] rfl
      have hD9 := hD.sub (ws' := [(aP, .inr (3, [.ref aR, .ref aF])), (aR, .inr (2, [.ref aM, .ref aA, .ref aB, .int fault2_63])), (aA, .inl (cA, 8, .inl regs)), (aM, .inr (1, [.ref aW, .ref aT, .int cnt])), (aW, .inl (cW, 2048, .inl words)), (aT, .inl (cT, 400, .inl told)), (aF, .inr (0, [.int fn, .int fz, .int fv, .int fc]))]) [5, 6, 0, 1, 2, 3, 4] (by decide) rfl
      have hK9 := hK.sub (tys' := [(cA, .int), (cW, .int), (cT, .int)]) [0, 1, 2] rfl
      exact W.vret hx hb hr (fun t ht hW => ⟨⟨(fault2_63, regs, cnt, words, told, fn, fz, fv, fc), rfl, h4, by rw [ht]; exact hP9, va_K.moved hW.alike hK9, hD9⟩, hS.F ht⟩) hS.2.2 dX3_performWithRegister_124
    by_cases hs_64 : ((k >>> (9 &&& 31)) &&& 7) = 7
    · refine q_toc (y := 7) hs_64 ?_
      refine lv_tableIn (off := 81) (tgt := 108) hx hb dX3_performWithRegister_27 (by decide) (by decide) (by decide) (by decide) ?_
      refine lv_aload_n hx hb dX3_performWithRegister_108 rfl (lv_at hl 1 rfl) ?_
      refine lv_iload_n hx hb dX3_performWithRegister_109 rfl (lv_at hl 0 rfl) ?_
      refine lv_iload_n hx hb dX3_performWithRegister_110 rfl (lv_at hl 2 rfl) ?_
      refine lv_bipush (v := 63) hx hb dX3_performWithRegister_111 (by decide) ?_
      refine lv_iand hx hb dX3_performWithRegister_113 ?_
      have hPc := hP.sub (ws' := [(aP, .inr (3, [.ref aR, .ref aF])), (aR, .inr (2, [.ref aM, .ref aA, .ref aB, .int fault])), (aA, .inl (cA, 8, .inl regs)), (aM, .inr (1, [.ref aW, .ref aT, .int cnt])), (aW, .inl (cW, 2048, .inl words)), (aT, .inl (cT, 400, .inl told)), (aF, .inr (0, [.int fn, .int fz, .int fv, .int fc]))]) [0, 1, 2, 3, 4, 5, 6] rfl
      have hDc := hD.sub (ws' := [(aP, .inr (3, [.ref aR, .ref aF])), (aR, .inr (2, [.ref aM, .ref aA, .ref aB, .int fault])), (aA, .inl (cA, 8, .inl regs)), (aM, .inr (1, [.ref aW, .ref aT, .int cnt])), (aW, .inl (cW, 2048, .inl words)), (aT, .inl (cT, 400, .inl told)), (aF, .inr (0, [.int fn, .int fz, .int fv, .int fc]))]) [0, 1, 2, 3, 4, 5, 6] (by decide) rfl
      have hKc := hK.sub (tys' := [(cA, .int), (cW, .int), (cT, .int)]) [0, 1, 2] rfl
      have hFc := va_free (wc := [(aP, .inr (3, [.ref aR, .ref aF])), (aR, .inr (2, [.ref aM, .ref aA, .ref aB, .int fault])), (aA, .inl (cA, 8, .inl regs)), (aM, .inr (1, [.ref aW, .ref aT, .int cnt])), (aW, .inl (cW, 2048, .inl words)), (aT, .inl (cT, 400, .inl told)), (aF, .inr (0, [.int fn, .int fz, .int fv, .int fc]))]) hD hS hA [0, 1, 2, 3, 4, 5, 6] rfl
      refine va_callv (va_runV (C := RX3) (b := aP) (As := [.int ((k >>> (6 &&& 31)) &&& 7), .int (k &&& 63)]) (rest := []) ⟨hx, hb, hml, hown, hts⟩ (s_X3_countDown l dC dI H.size aP ((k >>> (6 &&& 31)) &&& 7) (k &&& 63) aR aF aM aA aB fault cA regs aW aT cnt cW words cT told fn fz fv fc h4 (pk_andIn _ 3 (by decide) (by decide))) (cwV 2 hts gX3_performWithRegister_X3_countDown rfl rfl rfl (by decide +kernel) ⟨Nat.le_of_ble_eq_true rfl, Nat.le_of_ble_eq_true rfl⟩) ⟨q_blind, va_recv hK hP (ci := 3) (q0 := 0) rfl rfl, fun U hU hW => ⟨rfl, q_pay hU hW hPc hKc hDc hN⟩⟩ rfl rfl hl.1 rfl (lv_room (Nat.le_of_ble_eq_true rfl)) dX3_performWithRegister_114 ⟨show 0 + 0 ≤ 0 from by omega, show 0 + 0 ≤ 0 from by omega⟩) hS (fun q _ h => hFc q h) hFc (fun u9 t H locs ht hvm hw_66 hB hz1 hk1 hS => ?_)
      obtain ⟨fault2_67, regs2_68, cnt2_69, words2_70, told2_71, fn2_72, fz2_73, fv2_74, fc2_75⟩ := u9
      obtain ⟨hP1, hK1, hD1⟩ := hB
      rw [ht] at hP1
      obtain ⟨hP, hD⟩ := va_join (wr := []) (w1 := [(aP, .inr (3, [.ref aR, .ref aF])), (aR, .inr (2, [.ref aM, .ref aA, .ref aB, .int fault2_67])), (aA, .inl (cA, 8, .inl regs2_68)), (aM, .inr (1, [.ref aW, .ref aT, .int cnt2_69])), (aW, .inl (cW, 2048, .inl words2_70)), (aT, .inl (cT, 400, .inl told2_71)), (aF, .inr (0, [.int fn2_72, .int fz2_73, .int fv2_74, .int fc2_75]))]) hP hD [0, 1, 2, 3, 4, 5, 6] [] rfl rfl (by decide) (by decide) hk1 hFc hP1 hD1
      have hP : va_P (dC, dI) vwCl [(aP, .inr (3, [.ref aR, .ref aF])), (aR, .inr (2, [.ref aM, .ref aA, .ref aB, .int fault2_67])), (aA, .inl (cA, 8, .inl regs2_68)), (aM, .inr (1, [.ref aW, .ref aT, .int cnt2_69])), (aW, .inl (cW, 2048, .inl words2_70)), (aT, .inl (cT, 400, .inl told2_71)), (aF, .inr (0, [.int fn2_72, .int fz2_73, .int fv2_74, .int fc2_75]))] H := hP
      have hD : va_D A [(aP, .inr (3, [.ref aR, .ref aF])), (aR, .inr (2, [.ref aM, .ref aA, .ref aB, .int fault2_67])), (aA, .inl (cA, 8, .inl regs2_68)), (aM, .inr (1, [.ref aW, .ref aT, .int cnt2_69])), (aW, .inl (cW, 2048, .inl words2_70)), (aT, .inl (cT, 400, .inl told2_71)), (aF, .inr (0, [.int fn2_72, .int fz2_73, .int fv2_74, .int fc2_75]))] := hD
      refine W.widen (k := 0) (n := 0) (by omega) (by omega) ?_
      try dsimp only at hw_66
      refine lv_goto (tgt := 124) hx hb dX3_performWithRegister_117 (by decide) ?_
      have hP9 := hP.sub (ws' := [(aP, .inr (3, [.ref aR, .ref aF])), (aR, .inr (2, [.ref aM, .ref aA, .ref aB, .int fault2_67])), (aA, .inl (cA, 8, .inl regs2_68)), (aM, .inr (1, [.ref aW, .ref aT, .int cnt2_69])), (aW, .inl (cW, 2048, .inl words2_70)), (aT, .inl (cT, 400, .inl told2_71)), (aF, .inr (0, [.int fn2_72, .int fz2_73, .int fv2_74, .int fc2_75]))]) [0, 1, 2, 3, 4, 5, 6] rfl
      have hD9 := hD.sub (ws' := [(aP, .inr (3, [.ref aR, .ref aF])), (aR, .inr (2, [.ref aM, .ref aA, .ref aB, .int fault2_67])), (aA, .inl (cA, 8, .inl regs2_68)), (aM, .inr (1, [.ref aW, .ref aT, .int cnt2_69])), (aW, .inl (cW, 2048, .inl words2_70)), (aT, .inl (cT, 400, .inl told2_71)), (aF, .inr (0, [.int fn2_72, .int fz2_73, .int fv2_74, .int fc2_75]))]) [0, 1, 2, 3, 4, 5, 6] (by decide) rfl
      have hK9 := hK.sub (tys' := [(cA, .int), (cW, .int), (cT, .int)]) [0, 1, 2] rfl
      exact W.vret hx hb hr (fun t ht hW => ⟨⟨(fault2_67, regs2_68, cnt2_69, words2_70, told2_71, fn2_72, fz2_73, fv2_74, fc2_75), rfl, hw_66, by rw [ht]; exact hP9, va_K.moved hW.alike hK9, hD9⟩, hS.F ht⟩) hS.2.2 dX3_performWithRegister_124
    refine lv_tableOut (tgt := 120) hx hb dX3_performWithRegister_27 (by have n0 := lv_neT hs_4 (show (0 : Int32).toInt = 0 from rfl); have n1 := lv_neT hs_16 (show (1 : Int32).toInt = 1 from rfl); have n2 := lv_neT hs_28 (show (2 : Int32).toInt = 2 from rfl); have n3 := lv_neT hs_40 (show (3 : Int32).toInt = 3 from rfl); have n4 := lv_neT hs_44 (show (4 : Int32).toInt = 4 from rfl); have n5 := lv_neT hs_56 (show (5 : Int32).toInt = 5 from rfl); have n6 := lv_neT hs_60 (show (6 : Int32).toInt = 6 from rfl); have n7 := lv_neT hs_64 (show (7 : Int32).toInt = 7 from rfl); omega) (by decide) ?_
    refine lv_aload_n hx hb dX3_performWithRegister_120 rfl (lv_at hl 1 rfl) ?_
    have hPc := hP.sub (ws' := [(aP, .inr (3, [.ref aR, .ref aF])), (aR, .inr (2, [.ref aM, .ref aA, .ref aB, .int fault]))]) [0, 1] rfl
    have hDc := hD.sub (ws' := [(aP, .inr (3, [.ref aR, .ref aF])), (aR, .inr (2, [.ref aM, .ref aA, .ref aB, .int fault]))]) [0, 1] (by decide) rfl
    have hKc := hK.sub (tys' := []) [] rfl
    have hFc := va_free (wc := [(aP, .inr (3, [.ref aR, .ref aF])), (aR, .inr (2, [.ref aM, .ref aA, .ref aB, .int fault]))]) hD hS hA [0, 1] rfl
    refine va_callv (va_runV (C := RX3) (b := aP) (As := []) (rest := []) ⟨hx, hb, hml, hown, hts⟩ (s_X3_refuse l dC dI H.size aP aR aF aM aA aB fault) (cwV 0 hts gX3_performWithRegister_X3_refuse rfl rfl rfl (by decide +kernel) ⟨Nat.le_of_ble_eq_true rfl, Nat.le_of_ble_eq_true rfl⟩) ⟨q_blind, va_recv hK hP (ci := 3) (q0 := 0) rfl rfl, fun U hU hW => ⟨rfl, q_pay hU hW hPc hKc hDc hN⟩⟩ rfl rfl hl.1 rfl (lv_room (Nat.le_of_ble_eq_true rfl)) dX3_performWithRegister_121 ⟨show 0 + 0 ≤ 0 from by omega, show 0 + 0 ≤ 0 from by omega⟩) hS (fun q _ h => hFc q h) hFc (fun u9 t H locs ht hvm hw_77 hB hz1 hk1 hS => ?_)
    obtain ⟨fault2_78, rfl⟩ : ∃ z, z = u9 := ⟨_, rfl⟩
    obtain ⟨hP1, hK1, hD1⟩ := hB
    rw [ht] at hP1
    obtain ⟨hP, hD⟩ := va_join (wr := [(aA, .inl (cA, 8, .inl regs)), (aM, .inr (1, [.ref aW, .ref aT, .int cnt])), (aW, .inl (cW, 2048, .inl words)), (aT, .inl (cT, 400, .inl told)), (aF, .inr (0, [.int fn, .int fz, .int fv, .int fc]))]) (w1 := [(aP, .inr (3, [.ref aR, .ref aF])), (aR, .inr (2, [.ref aM, .ref aA, .ref aB, .int fault2_78]))]) hP hD [0, 1] [2, 3, 4, 5, 6] rfl rfl (by decide) (by decide) hk1 hFc hP1 hD1
    have hP : va_P (dC, dI) vwCl [(aA, .inl (cA, 8, .inl regs)), (aM, .inr (1, [.ref aW, .ref aT, .int cnt])), (aW, .inl (cW, 2048, .inl words)), (aT, .inl (cT, 400, .inl told)), (aF, .inr (0, [.int fn, .int fz, .int fv, .int fc])), (aP, .inr (3, [.ref aR, .ref aF])), (aR, .inr (2, [.ref aM, .ref aA, .ref aB, .int fault2_78]))] H := hP
    have hD : va_D A [(aA, .inl (cA, 8, .inl regs)), (aM, .inr (1, [.ref aW, .ref aT, .int cnt])), (aW, .inl (cW, 2048, .inl words)), (aT, .inl (cT, 400, .inl told)), (aF, .inr (0, [.int fn, .int fz, .int fv, .int fc])), (aP, .inr (3, [.ref aR, .ref aF])), (aR, .inr (2, [.ref aM, .ref aA, .ref aB, .int fault2_78]))] := hD
    refine W.widen (k := 0) (n := 0) (by omega) (by omega) ?_
    try dsimp only at hw_77
    have hP9 := hP.sub (ws' := [(aP, .inr (3, [.ref aR, .ref aF])), (aR, .inr (2, [.ref aM, .ref aA, .ref aB, .int fault2_78])), (aA, .inl (cA, 8, .inl regs)), (aM, .inr (1, [.ref aW, .ref aT, .int cnt])), (aW, .inl (cW, 2048, .inl words)), (aT, .inl (cT, 400, .inl told)), (aF, .inr (0, [.int fn, .int fz, .int fv, .int fc]))]) [5, 6, 0, 1, 2, 3, 4] rfl
    have hD9 := hD.sub (ws' := [(aP, .inr (3, [.ref aR, .ref aF])), (aR, .inr (2, [.ref aM, .ref aA, .ref aB, .int fault2_78])), (aA, .inl (cA, 8, .inl regs)), (aM, .inr (1, [.ref aW, .ref aT, .int cnt])), (aW, .inl (cW, 2048, .inl words)), (aT, .inl (cT, 400, .inl told)), (aF, .inr (0, [.int fn, .int fz, .int fv, .int fc]))]) [5, 6, 0, 1, 2, 3, 4] (by decide) rfl
    have hK9 := hK.sub (tys' := [(cA, .int), (cW, .int), (cT, .int)]) [0, 1, 2] rfl
    exact W.vret hx hb hr (fun t ht hW => ⟨⟨(fault2_78, regs, cnt, words, told, fn, fz, fv, fc), rfl, h4, by rw [ht]; exact hP9, va_K.moved hW.alike hK9, hD9⟩, hS.F ht⟩) hS.2.2 dX3_performWithRegister_124
  · refine lv_aload_n hx hb dX3_performWithRegister_7 rfl (lv_at hl 0 rfl) ?_
    have hPc := hP.sub (ws' := [(aP, .inr (3, [.ref aR, .ref aF])), (aR, .inr (2, [.ref aM, .ref aA, .ref aB, .int fault]))]) [0, 1] rfl
    have hDc := hD.sub (ws' := [(aP, .inr (3, [.ref aR, .ref aF])), (aR, .inr (2, [.ref aM, .ref aA, .ref aB, .int fault]))]) [0, 1] (by decide) rfl
    have hKc := hK.sub (tys' := []) [] rfl
    have hFc := va_free (wc := [(aP, .inr (3, [.ref aR, .ref aF])), (aR, .inr (2, [.ref aM, .ref aA, .ref aB, .int fault]))]) hD hS hA [0, 1] rfl
    refine va_callv (va_runV (C := RX3) (b := aP) (As := []) (rest := []) ⟨hx, hb, hml, hown, hts⟩ (s_X3_refuse l dC dI H.size aP aR aF aM aA aB fault) (cwV 0 hts gX3_performWithRegister_X3_refuse rfl rfl rfl (by decide +kernel) ⟨Nat.le_of_ble_eq_true rfl, Nat.le_of_ble_eq_true rfl⟩) ⟨q_blind, va_recv hK hP (ci := 3) (q0 := 0) rfl rfl, fun U hU hW => ⟨rfl, q_pay hU hW hPc hKc hDc hN⟩⟩ rfl rfl hl.1 rfl (lv_room (Nat.le_of_ble_eq_true rfl)) dX3_performWithRegister_8 ⟨show 0 + 0 ≤ 0 from by omega, show 0 + 0 ≤ 0 from by omega⟩) hS (fun q _ h => hFc q h) hFc (fun u9 t H locs ht hvm hw_80 hB hz1 hk1 hS => ?_)
    obtain ⟨fault2_81, rfl⟩ : ∃ z, z = u9 := ⟨_, rfl⟩
    obtain ⟨hP1, hK1, hD1⟩ := hB
    rw [ht] at hP1
    obtain ⟨hP, hD⟩ := va_join (wr := [(aA, .inl (cA, 8, .inl regs)), (aM, .inr (1, [.ref aW, .ref aT, .int cnt])), (aW, .inl (cW, 2048, .inl words)), (aT, .inl (cT, 400, .inl told)), (aF, .inr (0, [.int fn, .int fz, .int fv, .int fc]))]) (w1 := [(aP, .inr (3, [.ref aR, .ref aF])), (aR, .inr (2, [.ref aM, .ref aA, .ref aB, .int fault2_81]))]) hP hD [0, 1] [2, 3, 4, 5, 6] rfl rfl (by decide) (by decide) hk1 hFc hP1 hD1
    have hP : va_P (dC, dI) vwCl [(aA, .inl (cA, 8, .inl regs)), (aM, .inr (1, [.ref aW, .ref aT, .int cnt])), (aW, .inl (cW, 2048, .inl words)), (aT, .inl (cT, 400, .inl told)), (aF, .inr (0, [.int fn, .int fz, .int fv, .int fc])), (aP, .inr (3, [.ref aR, .ref aF])), (aR, .inr (2, [.ref aM, .ref aA, .ref aB, .int fault2_81]))] H := hP
    have hD : va_D A [(aA, .inl (cA, 8, .inl regs)), (aM, .inr (1, [.ref aW, .ref aT, .int cnt])), (aW, .inl (cW, 2048, .inl words)), (aT, .inl (cT, 400, .inl told)), (aF, .inr (0, [.int fn, .int fz, .int fv, .int fc])), (aP, .inr (3, [.ref aR, .ref aF])), (aR, .inr (2, [.ref aM, .ref aA, .ref aB, .int fault2_81]))] := hD
    refine W.widen (k := 0) (n := 0) (by omega) (by omega) ?_
    try dsimp only at hw_80
    have hP9 := hP.sub (ws' := [(aP, .inr (3, [.ref aR, .ref aF])), (aR, .inr (2, [.ref aM, .ref aA, .ref aB, .int fault2_81])), (aA, .inl (cA, 8, .inl regs)), (aM, .inr (1, [.ref aW, .ref aT, .int cnt])), (aW, .inl (cW, 2048, .inl words)), (aT, .inl (cT, 400, .inl told)), (aF, .inr (0, [.int fn, .int fz, .int fv, .int fc]))]) [5, 6, 0, 1, 2, 3, 4] rfl
    have hD9 := hD.sub (ws' := [(aP, .inr (3, [.ref aR, .ref aF])), (aR, .inr (2, [.ref aM, .ref aA, .ref aB, .int fault2_81])), (aA, .inl (cA, 8, .inl regs)), (aM, .inr (1, [.ref aW, .ref aT, .int cnt])), (aW, .inl (cW, 2048, .inl words)), (aT, .inl (cT, 400, .inl told)), (aF, .inr (0, [.int fn, .int fz, .int fv, .int fc]))]) [5, 6, 0, 1, 2, 3, 4] (by decide) rfl
    have hK9 := hK.sub (tys' := [(cA, .int), (cW, .int), (cT, .int)]) [0, 1, 2] rfl
    exact W.vret hx hb hr (fun t ht hW => ⟨⟨(fault2_81, regs, cnt, words, told, fn, fz, fv, fc), rfl, h4, by rw [ht]; exact hP9, va_K.moved hW.alike hK9, hD9⟩, hS.F ht⟩) hS.2.2 dX3_performWithRegister_11
