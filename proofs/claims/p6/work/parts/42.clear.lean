set_option maxHeartbeats 4000000 in
set_option maxRecDepth 100000 in
theorem c_J7_fill_53178 (l : Launch) (dC : Nat → ClassId) (dI : Nat → Nat → Nat) (sz : Nat) (a0 : Nat) (cF : ClassId) (n : Nat) (f : Nat → Int32) (v : Int32) (hn9 : n < 2 ^ 31) : Met l yJ7_fill_53178 wsJ7_fill_53178 ({ frames := 0, cells := 0, slots := 0, locals := 0 }) (va_Pc [.ref a0, .int v] (q_pre dC dI sz [(a0, .inl (cF, n, .inl f))] [(cF, .int)])) (va_Qv (fun (u9 : (Nat → Int32)) => True) (q_at dC dI (va_A [(a0, .inl (cF, n, .inl f))] sz) (fun (u9 : (Nat → Int32)) => [(cF, .int)]) (fun (u9 : (Nat → Int32)) => [(a0, .inl (cF, n, .inl u9))])) (va_A [(a0, .inl (cF, n, .inl f))] sz)) 0 0 (va_A [(a0, .inl (cF, n, .inl f))] sz) := by
  refine Met.ofW (cc := cJ7_fill_53178) (maxL := 4) (ret := none) (by decide) rfl ?_
  intro p e s m args below meth c s₁ B hml hv
  obtain ⟨rfl, hsz, hP, hK, hD0, hN⟩ := hv
  have hx := B.exec
  have hb := B.bytes
  have hr := B.returns
  have hts := atoms_spec (ws := wsJ7_fill_53178) B.pre
  have hown : s.vm.findClass RJ7 = some m.cls := findClass_of_methodNamed B.named
  have hlocks := B.notSynchronized
  subst hsz
  have hD := hD0.self (sz := s.heap.size)
  generalize hAe : va_A [(a0, .inl (cF, n, .inl f))] s.heap.size = A at hD ⊢
  have hA : ∀ q : Nat, s.heap.size ≤ q → A q := fun q h => by rw [← hAe]; exact Or.inr h
  have hS : va_S A s.heap s.heap [] := va_S.rf
  have hP : va_P (dC, dI) vwCl [(a0, .inl (cF, n, .inl f))] s.heap := hP
  have hl := lv_entry ([.ref a0, .int v]) (n := 4) (Nat.le_of_ble_eq_true rfl)
  rw [lg_entry_eq]
  generalize (lg_sl ([.ref a0, .int v]) ++ List.replicate (4 - (lg_sl ([.ref a0, .int v])).length) Slot.unset).toArray = ls at hl ⊢
  have hl : lv_has ls 4 [(0, .ref a0), (1, .int v)] := hl
  refine lv_iconst (v := 0) hx hb dJ7_fill_53178_0 (by decide) ?_
  refine lv_istore_n (lv' := [(2, .int 0), (0, .ref a0), (1, .int v)]) hx hb dJ7_fill_53178_1 rfl hl (by decide) rfl (fun ls hl => ?_)
  refine lv_aload_n hx hb dJ7_fill_53178_2 rfl (lv_at hl 1 rfl) ?_
  refine va_alen (v := nI n) hx hb hK hP 0 0 rfl rfl rfl dJ7_fill_53178_3 ?_
  refine lv_istore_n (lv' := [(3, .int (nI n)), (2, .int 0), (0, .ref a0), (1, .int v)]) hx hb dJ7_fill_53178_4 rfl hl (by decide) rfl (fun ls hl => ?_)
  refine q_loop (fun n_3 H locs ls => ∃ (i_1 : Nat) (g_2 : Nat → Int32), i_1 + n_3 = n ∧ va_P (dC, dI) vwCl [(a0, .inl (cF, n, .inl g_2))] H ∧ va_D A [(a0, .inl (cF, n, .inl g_2))] ∧ va_S A s.heap H locs ∧ lv_has ls 4 [(3, .int (nI n)), (2, .int (nI i_1)), (0, .ref a0), (1, .int v)]) 5 (fun H locs ls hJ => ?_) (fun n_3 ih H locs ls hJ => ?_) n _ _ _ ⟨0, f, Nat.zero_add _, hP, hD, hS, hl⟩
  · obtain ⟨i_1, g_2, he9, hP, hD, hS, hl⟩ := hJ
    have hi_4 : i_1 = n := by omega
    refine lv_iload_n hx hb dJ7_fill_53178_5 rfl (lv_at hl 1 rfl) ?_
    refine lv_iload_n hx hb dJ7_fill_53178_6 rfl (lv_at hl 0 rfl) ?_
    refine lv_icmp_ge (tgt := 20) hx hb dJ7_fill_53178_7 (by decide) (fun c_5 => ?_) (fun c9 => absurd (by rw [hi_4]; exact Int32.le_refl _) c9)
    have hP9 := hP.sub (ws' := [(a0, .inl (cF, n, .inl g_2))]) [0] rfl
    have hD9 := hD.sub (ws' := [(a0, .inl (cF, n, .inl g_2))]) [0] (by decide) rfl
    have hK9 := hK.sub (tys' := [(cF, .int)]) [0] rfl
    exact W.vret hx hb hr (fun t ht hW => ⟨⟨g_2, rfl, trivial, by rw [ht]; exact hP9, va_K.moved hW.alike hK9, hD9⟩, hS.F ht⟩) hS.2.2 dJ7_fill_53178_20
  · obtain ⟨i_1, g_2, he9, hP, hD, hS, hl⟩ := hJ
    have hi_4 : i_1 < n := by omega
    refine lv_iload_n hx hb dJ7_fill_53178_5 rfl (lv_at hl 1 rfl) ?_
    refine lv_iload_n hx hb dJ7_fill_53178_6 rfl (lv_at hl 0 rfl) ?_
    refine lv_icmp_ge (tgt := 20) hx hb dJ7_fill_53178_7 (by decide) (fun c9 => absurd c9 (nI_ge (b := n) hi_4 hn9)) (fun c_6 => ?_)
    refine lv_aload_n hx hb dJ7_fill_53178_10 rfl (lv_at hl 2 rfl) ?_
    refine lv_iload_n hx hb dJ7_fill_53178_11 rfl (lv_at hl 1 rfl) ?_
    refine lv_iload_n hx hb dJ7_fill_53178_12 rfl (lv_at hl 3 rfl) ?_
    refine va_iast hx hb hK hP hD hS 0 0 rfl rfl (vp_in_nI hi_4 hn9) dJ7_fill_53178_13 (fun H locs hP hD hS => ?_)
    have hP : va_P (dC, dI) vwCl [(a0, .inl (cF, n, .inl (upd g_2 (nI i_1).toNatClampNeg v)))] H := hP
    have hD : va_D A [(a0, .inl (cF, n, .inl (upd g_2 (nI i_1).toNatClampNeg v)))] := hD
    refine lv_iinc (v := nI (i_1 + 1)) (lv' := [(2, .int (nI (i_1 + 1))), (3, .int (nI n)), (0, .ref a0), (1, .int v)]) hx hb dJ7_fill_53178_14 hl (k := 1) rfl (nI_1 i_1) (by decide) rfl (fun ls hl => ?_)
    refine lv_goto (tgt := 5) hx hb dJ7_fill_53178_17 (by decide) ?_
    exact ih _ _ _ ⟨i_1 + 1, _, by omega, hP, hD, hS, lv_sub hl [1, 0, 2, 3] rfl⟩
set_option maxHeartbeats 4000000 in
set_option maxRecDepth 100000 in
theorem s_X1_empty (l : Launch) (dC : Nat → ClassId) (dI : Nat → Nat → Nat) (sz : Nat) (aM : Nat) (aW : Nat) (aT : Nat) (cnt : Int32) (cW : ClassId) (words : Nat → Int32)  : Met l yX1_empty wsX1_empty ({ frames := 1, cells := 0, slots := 0, locals := 23 }) (va_Pc [.ref aM] (q_pre dC dI sz [(aM, .inr (1, [.ref aW, .ref aT, .int cnt])), (aW, .inl (cW, 2048, .inl words))] [(cW, .int)])) (va_Qv (fun (u9 : (Nat → Int32)) => True) (q_at dC dI (va_A [(aM, .inr (1, [.ref aW, .ref aT, .int cnt])), (aW, .inl (cW, 2048, .inl words))] sz) (fun (u9 : (Nat → Int32)) => [(cW, .int)]) (fun (u9 : (Nat → Int32)) => [(aM, .inr (1, [.ref aW, .ref aT, .int 0])), (aW, .inl (cW, 2048, .inl u9))])) (va_A [(aM, .inr (1, [.ref aW, .ref aT, .int cnt])), (aW, .inl (cW, 2048, .inl words))] sz)) 0 0 (va_A [(aM, .inr (1, [.ref aW, .ref aT, .int cnt])), (aW, .inl (cW, 2048, .inl words))] sz) := by
  refine Met.ofW (cc := cX1_empty) (maxL := 1) (ret := none) (by decide) rfl ?_
  intro p e s m args below meth c s₁ B hml hv
  obtain ⟨rfl, hsz, hP, hK, hD0, hN⟩ := hv
  have hx := B.exec
  have hb := B.bytes
  have hr := B.returns
  have hts := atoms_spec (ws := wsX1_empty) B.pre
  have hown : s.vm.findClass RX1 = some m.cls := findClass_of_methodNamed B.named
  have hlocks := B.notSynchronized
  subst hsz
  have hD := hD0.self (sz := s.heap.size)
  generalize hAe : va_A [(aM, .inr (1, [.ref aW, .ref aT, .int cnt])), (aW, .inl (cW, 2048, .inl words))] s.heap.size = A at hD ⊢
  have hA : ∀ q : Nat, s.heap.size ≤ q → A q := fun q h => by rw [← hAe]; exact Or.inr h
  have hS : va_S A s.heap s.heap [] := va_S.rf
  have hP : va_P (dC, dI) vwCl [(aM, .inr (1, [.ref aW, .ref aT, .int cnt])), (aW, .inl (cW, 2048, .inl words))] s.heap := hP
  have hl := lv_entry ([.ref aM]) (n := 1) (Nat.le_of_ble_eq_true rfl)
  rw [lg_entry_eq]
  generalize (lg_sl ([.ref aM]) ++ List.replicate (1 - (lg_sl ([.ref aM])).length) Slot.unset).toArray = ls at hl ⊢
  have hl : lv_has ls 1 [(0, .ref aM)] := hl
  refine lv_aload_n hx hb dX1_empty_0 rfl (lv_at hl 0 rfl) ?_
  refine va_get (D := (dC, dI)) (ci := 1) (v := .ref aW) (C := RX1) (T := TX1) (N := 3) hx hb hts (by decide +kernel) hown hK hP 0 rfl rfl 0 (by decide) (hts (.fieldLink RX1 9 "WordGuest$Memory" "words" "[I") (by decide +kernel)) (fun _ h9 => h9) rfl dX1_empty_1 ?_
  refine lv_iconst (v := 0) hx hb dX1_empty_4 (by decide) ?_
  have hPc := hP.sub (ws' := [(aW, .inl (cW, 2048, .inl words))]) [1] rfl
  have hDc := hD.sub (ws' := [(aW, .inl (cW, 2048, .inl words))]) [1] (by decide) rfl
  have hKc := hK.sub (tys' := [(cW, .int)]) [0] rfl
  have hFc := va_free (wc := [(aW, .inl (cW, 2048, .inl words))]) hD hS hA [1] rfl
  refine va_callv (va_runS (As := [.ref aW, .int 0]) (rest := []) ⟨hx, hb, hml, hown, hts⟩ (c_J7_fill_53178 l dC dI s.heap.size aW cW 2048 words (0 : Int32) (by decide)) (va_cwS 2 hts gX1_empty_J7_fill_53178 rfl rfl rfl (by decide +kernel) ⟨Nat.le_of_ble_eq_true rfl, Nat.le_of_ble_eq_true rfl⟩) ⟨q_blind, fun U hU hW => ⟨rfl, q_pay hU hW hPc hKc hDc hN⟩⟩ rfl rfl hl.1 rfl (lv_room (Nat.le_of_ble_eq_true rfl)) dX1_empty_5 ⟨show 0 + 0 ≤ 0 from by omega, show 0 + 0 ≤ 0 from by omega⟩) hS (fun q _ h => hFc q h) hFc (fun u9 t H locs ht hvm hw_2 hB hz1 hk1 hS => ?_)
  obtain ⟨f2_3, rfl⟩ : ∃ z, z = u9 := ⟨_, rfl⟩
  obtain ⟨hP1, hK1, hD1⟩ := hB
  rw [ht] at hP1
  obtain ⟨hP, hD⟩ := va_join (wr := [(aM, .inr (1, [.ref aW, .ref aT, .int cnt]))]) (w1 := [(aW, .inl (cW, 2048, .inl f2_3))]) hP hD [1] [0] rfl rfl (by decide) (by decide) hk1 hFc hP1 hD1
  have hP : va_P (dC, dI) vwCl [(aM, .inr (1, [.ref aW, .ref aT, .int cnt])), (aW, .inl (cW, 2048, .inl f2_3))] H := hP
  have hD : va_D A [(aM, .inr (1, [.ref aW, .ref aT, .int cnt])), (aW, .inl (cW, 2048, .inl f2_3))] := hD
  refine W.widen (k := 0) (n := 0) (by omega) (by omega) ?_
  try dsimp only at hw_2
  refine lv_aload_n hx hb dX1_empty_8 rfl (lv_at hl 0 rfl) ?_
  refine lv_iconst (v := 0) hx hb dX1_empty_9 (by decide) ?_
  refine va_put (D := (dC, dI)) (ci := 1) (v := .int 0) (ty := .int) (C := RX1) (T := TX1) (N := 3) hx hb hts (by decide +kernel) tyX1 tyX1_ok nmX1 hown hK hP hD hS 0 rfl rfl 2 (by decide) (hts (.fieldLink RX1 23 "WordGuest$Memory" "toldCount" "I") (by decide +kernel)) (fun _ h9 => h9) rfl (by decide +kernel) rfl rfl (Nat.le_of_ble_eq_true rfl) dX1_empty_10 (fun H locs hP hD hS => ?_)
  have hP : va_P (dC, dI) vwCl [(aM, .inr (1, [.ref aW, .ref aT, .int 0])), (aW, .inl (cW, 2048, .inl f2_3))] H := hP
  have hD : va_D A [(aM, .inr (1, [.ref aW, .ref aT, .int 0])), (aW, .inl (cW, 2048, .inl f2_3))] := hD
  have hP9 := hP.sub (ws' := [(aM, .inr (1, [.ref aW, .ref aT, .int 0])), (aW, .inl (cW, 2048, .inl f2_3))]) [0, 1] rfl
  have hD9 := hD.sub (ws' := [(aM, .inr (1, [.ref aW, .ref aT, .int 0])), (aW, .inl (cW, 2048, .inl f2_3))]) [0, 1] (by decide) rfl
  have hK9 := hK.sub (tys' := [(cW, .int)]) [0] rfl
  exact W.vret hx hb hr (fun t ht hW => ⟨⟨f2_3, rfl, trivial, by rw [ht]; exact hP9, va_K.moved hW.alike hK9, hD9⟩, hS.F ht⟩) hS.2.2 dX1_empty_13
set_option maxHeartbeats 4000000 in
set_option maxRecDepth 100000 in
theorem s_X2_empty (l : Launch) (dC : Nat → ClassId) (dI : Nat → Nat → Nat) (sz : Nat) (aR : Nat) (aM : Nat) (aA : Nat) (aB : Nat) (fault : Int32) (cA : ClassId) (regs : Nat → Int32)  : Met l yX2_empty wsX2_empty ({ frames := 1, cells := 0, slots := 0, locals := 23 }) (va_Pc [.ref aR] (q_pre dC dI sz [(aR, .inr (2, [.ref aM, .ref aA, .ref aB, .int fault])), (aA, .inl (cA, 8, .inl regs))] [(cA, .int)])) (va_Qv (fun (u9 : (Nat → Int32)) => True) (q_at dC dI (va_A [(aR, .inr (2, [.ref aM, .ref aA, .ref aB, .int fault])), (aA, .inl (cA, 8, .inl regs))] sz) (fun (u9 : (Nat → Int32)) => [(cA, .int)]) (fun (u9 : (Nat → Int32)) => [(aR, .inr (2, [.ref aM, .ref aA, .ref aB, .int fault])), (aA, .inl (cA, 8, .inl u9))])) (va_A [(aR, .inr (2, [.ref aM, .ref aA, .ref aB, .int fault])), (aA, .inl (cA, 8, .inl regs))] sz)) 0 0 (va_A [(aR, .inr (2, [.ref aM, .ref aA, .ref aB, .int fault])), (aA, .inl (cA, 8, .inl regs))] sz) := by
  refine Met.ofW (cc := cX2_empty) (maxL := 1) (ret := none) (by decide) rfl ?_
  intro p e s m args below meth c s₁ B hml hv
  obtain ⟨rfl, hsz, hP, hK, hD0, hN⟩ := hv
  have hx := B.exec
  have hb := B.bytes
  have hr := B.returns
  have hts := atoms_spec (ws := wsX2_empty) B.pre
  have hown : s.vm.findClass RX2 = some m.cls := findClass_of_methodNamed B.named
  have hlocks := B.notSynchronized
  subst hsz
  have hD := hD0.self (sz := s.heap.size)
  generalize hAe : va_A [(aR, .inr (2, [.ref aM, .ref aA, .ref aB, .int fault])), (aA, .inl (cA, 8, .inl regs))] s.heap.size = A at hD ⊢
  have hA : ∀ q : Nat, s.heap.size ≤ q → A q := fun q h => by rw [← hAe]; exact Or.inr h
  have hS : va_S A s.heap s.heap [] := va_S.rf
  have hP : va_P (dC, dI) vwCl [(aR, .inr (2, [.ref aM, .ref aA, .ref aB, .int fault])), (aA, .inl (cA, 8, .inl regs))] s.heap := hP
  have hl := lv_entry ([.ref aR]) (n := 1) (Nat.le_of_ble_eq_true rfl)
  rw [lg_entry_eq]
  generalize (lg_sl ([.ref aR]) ++ List.replicate (1 - (lg_sl ([.ref aR])).length) Slot.unset).toArray = ls at hl ⊢
  have hl : lv_has ls 1 [(0, .ref aR)] := hl
  refine lv_aload_n hx hb dX2_empty_0 rfl (lv_at hl 0 rfl) ?_
  refine va_get (D := (dC, dI)) (ci := 2) (v := .ref aA) (C := RX2) (T := TX2) (N := 4) hx hb hts (by decide +kernel) hown hK hP 0 rfl rfl 1 (by decide) (hts (.fieldLink RX2 9 "WordGuest$Parts" "registers" "[I") (by decide +kernel)) (fun _ h9 => h9) rfl dX2_empty_1 ?_
  refine lv_iconst (v := 0) hx hb dX2_empty_4 (by decide) ?_
  have hPc := hP.sub (ws' := [(aA, .inl (cA, 8, .inl regs))]) [1] rfl
  have hDc := hD.sub (ws' := [(aA, .inl (cA, 8, .inl regs))]) [1] (by decide) rfl
  have hKc := hK.sub (tys' := [(cA, .int)]) [0] rfl
  have hFc := va_free (wc := [(aA, .inl (cA, 8, .inl regs))]) hD hS hA [1] rfl
  refine va_callv (va_runS (As := [.ref aA, .int 0]) (rest := []) ⟨hx, hb, hml, hown, hts⟩ (c_J7_fill_53178 l dC dI s.heap.size aA cA 8 regs (0 : Int32) (by decide)) (va_cwS 2 hts gX2_empty_J7_fill_53178 rfl rfl rfl (by decide +kernel) ⟨Nat.le_of_ble_eq_true rfl, Nat.le_of_ble_eq_true rfl⟩) ⟨q_blind, fun U hU hW => ⟨rfl, q_pay hU hW hPc hKc hDc hN⟩⟩ rfl rfl hl.1 rfl (lv_room (Nat.le_of_ble_eq_true rfl)) dX2_empty_5 ⟨show 0 + 0 ≤ 0 from by omega, show 0 + 0 ≤ 0 from by omega⟩) hS (fun q _ h => hFc q h) hFc (fun u9 t H locs ht hvm hw_2 hB hz1 hk1 hS => ?_)
  obtain ⟨f2_3, rfl⟩ : ∃ z, z = u9 := ⟨_, rfl⟩
  obtain ⟨hP1, hK1, hD1⟩ := hB
  rw [ht] at hP1
  obtain ⟨hP, hD⟩ := va_join (wr := [(aR, .inr (2, [.ref aM, .ref aA, .ref aB, .int fault]))]) (w1 := [(aA, .inl (cA, 8, .inl f2_3))]) hP hD [1] [0] rfl rfl (by decide) (by decide) hk1 hFc hP1 hD1
  have hP : va_P (dC, dI) vwCl [(aR, .inr (2, [.ref aM, .ref aA, .ref aB, .int fault])), (aA, .inl (cA, 8, .inl f2_3))] H := hP
  have hD : va_D A [(aR, .inr (2, [.ref aM, .ref aA, .ref aB, .int fault])), (aA, .inl (cA, 8, .inl f2_3))] := hD
  refine W.widen (k := 0) (n := 0) (by omega) (by omega) ?_
  try dsimp only at hw_2
  have hP9 := hP.sub (ws' := [(aR, .inr (2, [.ref aM, .ref aA, .ref aB, .int fault])), (aA, .inl (cA, 8, .inl f2_3))]) [0, 1] rfl
  have hD9 := hD.sub (ws' := [(aR, .inr (2, [.ref aM, .ref aA, .ref aB, .int fault])), (aA, .inl (cA, 8, .inl f2_3))]) [0, 1] (by decide) rfl
  have hK9 := hK.sub (tys' := [(cA, .int)]) [0] rfl
  exact W.vret hx hb hr (fun t ht hW => ⟨⟨f2_3, rfl, trivial, by rw [ht]; exact hP9, va_K.moved hW.alike hK9, hD9⟩, hS.F ht⟩) hS.2.2 dX2_empty_8
set_option maxHeartbeats 4000000 in
set_option maxRecDepth 100000 in
theorem s_X3_empty (l : Launch) (dC : Nat → ClassId) (dI : Nat → Nat → Nat) (sz : Nat) (aP : Nat) (aR : Nat) (aF : Nat) (aM : Nat) (aA : Nat) (aB : Nat) (fault : Int32) (cA : ClassId) (regs : Nat → Int32) (fn : Int32) (fz : Int32) (fv : Int32) (fc : Int32)  : Met l yX3_empty wsX3_empty ({ frames := 2, cells := 0, slots := 0, locals := 43 }) (va_Pc [.ref aP] (q_pre dC dI sz [(aP, .inr (3, [.ref aR, .ref aF])), (aR, .inr (2, [.ref aM, .ref aA, .ref aB, .int fault])), (aA, .inl (cA, 8, .inl regs)), (aF, .inr (0, [.int fn, .int fz, .int fv, .int fc]))] [(cA, .int)])) (va_Qv (fun (u9 : (Nat → Int32) × Int32 × Int32 × Int32 × Int32) => True) (q_at dC dI (va_A [(aP, .inr (3, [.ref aR, .ref aF])), (aR, .inr (2, [.ref aM, .ref aA, .ref aB, .int fault])), (aA, .inl (cA, 8, .inl regs)), (aF, .inr (0, [.int fn, .int fz, .int fv, .int fc]))] sz) (fun (u9 : (Nat → Int32) × Int32 × Int32 × Int32 × Int32) => [(cA, .int)]) (fun (u9 : (Nat → Int32) × Int32 × Int32 × Int32 × Int32) => [(aP, .inr (3, [.ref aR, .ref aF])), (aR, .inr (2, [.ref aM, .ref aA, .ref aB, .int fault])), (aA, .inl (cA, 8, .inl u9.1)), (aF, .inr (0, [.int u9.2.1, .int u9.2.2.1, .int u9.2.2.2.1, .int u9.2.2.2.2]))])) (va_A [(aP, .inr (3, [.ref aR, .ref aF])), (aR, .inr (2, [.ref aM, .ref aA, .ref aB, .int fault])), (aA, .inl (cA, 8, .inl regs)), (aF, .inr (0, [.int fn, .int fz, .int fv, .int fc]))] sz)) 0 0 (va_A [(aP, .inr (3, [.ref aR, .ref aF])), (aR, .inr (2, [.ref aM, .ref aA, .ref aB, .int fault])), (aA, .inl (cA, 8, .inl regs)), (aF, .inr (0, [.int fn, .int fz, .int fv, .int fc]))] sz) := by
  refine Met.ofW (cc := cX3_empty) (maxL := 1) (ret := none) (by decide) rfl ?_
  intro p e s m args below meth c s₁ B hml hv
  obtain ⟨rfl, hsz, hP, hK, hD0, hN⟩ := hv
  have hx := B.exec
  have hb := B.bytes
  have hr := B.returns
  have hts := atoms_spec (ws := wsX3_empty) B.pre
  have hown : s.vm.findClass RX3 = some m.cls := findClass_of_methodNamed B.named
  have hlocks := B.notSynchronized
  subst hsz
  have hD := hD0.self (sz := s.heap.size)
  generalize hAe : va_A [(aP, .inr (3, [.ref aR, .ref aF])), (aR, .inr (2, [.ref aM, .ref aA, .ref aB, .int fault])), (aA, .inl (cA, 8, .inl regs)), (aF, .inr (0, [.int fn, .int fz, .int fv, .int fc]))] s.heap.size = A at hD ⊢
  have hA : ∀ q : Nat, s.heap.size ≤ q → A q := fun q h => by rw [← hAe]; exact Or.inr h
  have hS : va_S A s.heap s.heap [] := va_S.rf
  have hP : va_P (dC, dI) vwCl [(aP, .inr (3, [.ref aR, .ref aF])), (aR, .inr (2, [.ref aM, .ref aA, .ref aB, .int fault])), (aA, .inl (cA, 8, .inl regs)), (aF, .inr (0, [.int fn, .int fz, .int fv, .int fc]))] s.heap := hP
  have hl := lv_entry ([.ref aP]) (n := 1) (Nat.le_of_ble_eq_true rfl)
  rw [lg_entry_eq]
  generalize (lg_sl ([.ref aP]) ++ List.replicate (1 - (lg_sl ([.ref aP])).length) Slot.unset).toArray = ls at hl ⊢
  have hl : lv_has ls 1 [(0, .ref aP)] := hl
  refine lv_aload_n hx hb dX3_empty_0 rfl (lv_at hl 0 rfl) ?_
  refine va_get (D := (dC, dI)) (ci := 3) (v := .ref aR) (C := RX3) (T := TX3) (N := 2) hx hb hts (by decide +kernel) hown hK hP 0 rfl rfl 0 (by decide) (hts (.fieldLink RX3 23 "WordGuest$Processor" "parts" "LWordGuest$Parts;") (by decide +kernel)) (fun _ h9 => h9) rfl dX3_empty_1 ?_
  have hPc := hP.sub (ws' := [(aR, .inr (2, [.ref aM, .ref aA, .ref aB, .int fault])), (aA, .inl (cA, 8, .inl regs))]) [1, 2] rfl
  have hDc := hD.sub (ws' := [(aR, .inr (2, [.ref aM, .ref aA, .ref aB, .int fault])), (aA, .inl (cA, 8, .inl regs))]) [1, 2] (by decide) rfl
  have hKc := hK.sub (tys' := [(cA, .int)]) [0] rfl
  have hFc := va_free (wc := [(aR, .inr (2, [.ref aM, .ref aA, .ref aB, .int fault])), (aA, .inl (cA, 8, .inl regs))]) hD hS hA [1, 2] rfl
  refine va_callv (va_runV (C := RX2) (b := aR) (As := []) (rest := []) ⟨hx, hb, hml, hown, hts⟩ (s_X2_empty l dC dI s.heap.size aR aM aA aB fault cA regs) (cwV 0 hts gX3_empty_X2_empty rfl rfl rfl (by decide +kernel) ⟨Nat.le_of_ble_eq_true rfl, Nat.le_of_ble_eq_true rfl⟩) ⟨q_blind, va_recv hK hP (ci := 2) (q0 := 1) rfl rfl, fun U hU hW => ⟨rfl, q_pay hU hW hPc hKc hDc hN⟩⟩ rfl rfl hl.1 rfl (lv_room (Nat.le_of_ble_eq_true rfl)) dX3_empty_4 ⟨show 0 + 0 ≤ 0 from by omega, show 0 + 0 ≤ 0 from by omega⟩) hS (fun q _ h => hFc q h) hFc (fun u9 t H locs ht hvm hw_2 hB hz1 hk1 hS => ?_)
  obtain ⟨regs2_3, rfl⟩ : ∃ z, z = u9 := ⟨_, rfl⟩
  obtain ⟨hP1, hK1, hD1⟩ := hB
  rw [ht] at hP1
  obtain ⟨hP, hD⟩ := va_join (wr := [(aP, .inr (3, [.ref aR, .ref aF])), (aF, .inr (0, [.int fn, .int fz, .int fv, .int fc]))]) (w1 := [(aR, .inr (2, [.ref aM, .ref aA, .ref aB, .int fault])), (aA, .inl (cA, 8, .inl regs2_3))]) hP hD [1, 2] [0, 3] rfl rfl (by decide) (by decide) hk1 hFc hP1 hD1
  have hP : va_P (dC, dI) vwCl [(aP, .inr (3, [.ref aR, .ref aF])), (aF, .inr (0, [.int fn, .int fz, .int fv, .int fc])), (aR, .inr (2, [.ref aM, .ref aA, .ref aB, .int fault])), (aA, .inl (cA, 8, .inl regs2_3))] H := hP
  have hD : va_D A [(aP, .inr (3, [.ref aR, .ref aF])), (aF, .inr (0, [.int fn, .int fz, .int fv, .int fc])), (aR, .inr (2, [.ref aM, .ref aA, .ref aB, .int fault])), (aA, .inl (cA, 8, .inl regs2_3))] := hD
  refine W.widen (k := 0) (n := 0) (by omega) (by omega) ?_
  try dsimp only at hw_2
  refine lv_aload_n hx hb dX3_empty_7 rfl (lv_at hl 0 rfl) ?_
  refine va_get (D := (dC, dI)) (ci := 3) (v := .ref aF) (C := RX3) (T := TX3) (N := 2) hx hb hts (by decide +kernel) hown hK hP 0 rfl rfl 1 (by decide) (hts (.fieldLink RX3 12 "WordGuest$Processor" "conditions" "LWordGuest$Flags;") (by decide +kernel)) (fun _ h9 => h9) rfl dX3_empty_8 ?_
  refine lv_iconst (v := 0) hx hb dX3_empty_11 (by decide) ?_
  have hPc := hP.sub (ws' := [(aF, .inr (0, [.int fn, .int fz, .int fv, .int fc]))]) [1] rfl
  have hDc := hD.sub (ws' := [(aF, .inr (0, [.int fn, .int fz, .int fv, .int fc]))]) [1] (by decide) rfl
  have hKc := hK.sub (tys' := []) [] rfl
  have hFc := va_free (wc := [(aF, .inr (0, [.int fn, .int fz, .int fv, .int fc]))]) hD hS hA [1] rfl
  refine va_callv (va_runV (C := RX0) (b := aF) (As := [.int 0]) (rest := []) ⟨hx, hb, hml, hown, hts⟩ (s_X0_become l dC dI H.size aF (0 : Int32) fn fz fv fc) (cwV 1 hts gX3_empty_X0_become rfl rfl rfl (by decide +kernel) ⟨Nat.le_of_ble_eq_true rfl, Nat.le_of_ble_eq_true rfl⟩) ⟨q_blind, va_recv hK hP (ci := 0) (q0 := 1) rfl rfl, fun U hU hW => ⟨rfl, q_pay hU hW hPc hKc hDc hN⟩⟩ rfl rfl hl.1 rfl (lv_room (Nat.le_of_ble_eq_true rfl)) dX3_empty_12 ⟨show 0 + 0 ≤ 0 from by omega, show 0 + 0 ≤ 0 from by omega⟩) hS (fun q _ h => hFc q h) hFc (fun u9 t H locs ht hvm hw_5 hB hz1 hk1 hS => ?_)
  obtain ⟨fn2_6, fz2_7, fv2_8, fc2_9⟩ := u9
  obtain ⟨hP1, hK1, hD1⟩ := hB
  rw [ht] at hP1
  obtain ⟨hP, hD⟩ := va_join (wr := [(aP, .inr (3, [.ref aR, .ref aF])), (aR, .inr (2, [.ref aM, .ref aA, .ref aB, .int fault])), (aA, .inl (cA, 8, .inl regs2_3))]) (w1 := [(aF, .inr (0, [.int fn2_6, .int fz2_7, .int fv2_8, .int fc2_9]))]) hP hD [1] [0, 2, 3] rfl rfl (by decide) (by decide) hk1 hFc hP1 hD1
  have hP : va_P (dC, dI) vwCl [(aP, .inr (3, [.ref aR, .ref aF])), (aR, .inr (2, [.ref aM, .ref aA, .ref aB, .int fault])), (aA, .inl (cA, 8, .inl regs2_3)), (aF, .inr (0, [.int fn2_6, .int fz2_7, .int fv2_8, .int fc2_9]))] H := hP
  have hD : va_D A [(aP, .inr (3, [.ref aR, .ref aF])), (aR, .inr (2, [.ref aM, .ref aA, .ref aB, .int fault])), (aA, .inl (cA, 8, .inl regs2_3)), (aF, .inr (0, [.int fn2_6, .int fz2_7, .int fv2_8, .int fc2_9]))] := hD
  refine W.widen (k := 0) (n := 0) (by omega) (by omega) ?_
  try dsimp only at hw_5
  have hP9 := hP.sub (ws' := [(aP, .inr (3, [.ref aR, .ref aF])), (aR, .inr (2, [.ref aM, .ref aA, .ref aB, .int fault])), (aA, .inl (cA, 8, .inl regs2_3)), (aF, .inr (0, [.int fn2_6, .int fz2_7, .int fv2_8, .int fc2_9]))]) [0, 1, 2, 3] rfl
  have hD9 := hD.sub (ws' := [(aP, .inr (3, [.ref aR, .ref aF])), (aR, .inr (2, [.ref aM, .ref aA, .ref aB, .int fault])), (aA, .inl (cA, 8, .inl regs2_3)), (aF, .inr (0, [.int fn2_6, .int fz2_7, .int fv2_8, .int fc2_9]))]) [0, 1, 2, 3] (by decide) rfl
  have hK9 := hK.sub (tys' := [(cA, .int)]) [0] rfl
  exact W.vret hx hb hr (fun t ht hW => ⟨⟨(regs2_3, fn2_6, fz2_7, fv2_8, fc2_9), rfl, trivial, by rw [ht]; exact hP9, va_K.moved hW.alike hK9, hD9⟩, hS.F ht⟩) hS.2.2 dX3_empty_15
set_option maxHeartbeats 4000000 in
set_option maxRecDepth 100000 in
theorem s_X4_clear (l : Launch) (dC : Nat → ClassId) (dI : Nat → Nat → Nat) (sz : Nat) (g0 : Nat) (aM : Nat) (aP : Nat) (st : Int32) (aW : Nat) (aT : Nat) (cnt : Int32) (cW : ClassId) (words : Nat → Int32) (aR : Nat) (aF : Nat) (aA : Nat) (aB : Nat) (fault : Int32) (cA : ClassId) (regs : Nat → Int32) (fn : Int32) (fz : Int32) (fv : Int32) (fc : Int32)  : Met l yX4_clear wsX4_clear ({ frames := 3, cells := 0, slots := 0, locals := 63 }) (va_Pc [.ref g0] (q_pre dC dI sz [(g0, .inr (4, [.ref aM, .ref aP, .int st])), (aM, .inr (1, [.ref aW, .ref aT, .int cnt])), (aW, .inl (cW, 2048, .inl words)), (aP, .inr (3, [.ref aR, .ref aF])), (aR, .inr (2, [.ref aM, .ref aA, .ref aB, .int fault])), (aA, .inl (cA, 8, .inl regs)), (aF, .inr (0, [.int fn, .int fz, .int fv, .int fc]))] [(cW, .int), (cA, .int)])) (va_Qv (fun (u9 : (Nat → Int32) × (Nat → Int32) × Int32 × Int32 × Int32 × Int32) => True) (q_at dC dI (va_A [(g0, .inr (4, [.ref aM, .ref aP, .int st])), (aM, .inr (1, [.ref aW, .ref aT, .int cnt])), (aW, .inl (cW, 2048, .inl words)), (aP, .inr (3, [.ref aR, .ref aF])), (aR, .inr (2, [.ref aM, .ref aA, .ref aB, .int fault])), (aA, .inl (cA, 8, .inl regs)), (aF, .inr (0, [.int fn, .int fz, .int fv, .int fc]))] sz) (fun (u9 : (Nat → Int32) × (Nat → Int32) × Int32 × Int32 × Int32 × Int32) => [(cW, .int), (cA, .int)]) (fun (u9 : (Nat → Int32) × (Nat → Int32) × Int32 × Int32 × Int32 × Int32) => [(g0, .inr (4, [.ref aM, .ref aP, .int 0])), (aM, .inr (1, [.ref aW, .ref aT, .int 0])), (aW, .inl (cW, 2048, .inl u9.1)), (aP, .inr (3, [.ref aR, .ref aF])), (aR, .inr (2, [.ref aM, .ref aA, .ref aB, .int fault])), (aA, .inl (cA, 8, .inl u9.2.1)), (aF, .inr (0, [.int u9.2.2.1, .int u9.2.2.2.1, .int u9.2.2.2.2.1, .int u9.2.2.2.2.2]))])) (va_A [(g0, .inr (4, [.ref aM, .ref aP, .int st])), (aM, .inr (1, [.ref aW, .ref aT, .int cnt])), (aW, .inl (cW, 2048, .inl words)), (aP, .inr (3, [.ref aR, .ref aF])), (aR, .inr (2, [.ref aM, .ref aA, .ref aB, .int fault])), (aA, .inl (cA, 8, .inl regs)), (aF, .inr (0, [.int fn, .int fz, .int fv, .int fc]))] sz)) 0 0 (va_A [(g0, .inr (4, [.ref aM, .ref aP, .int st])), (aM, .inr (1, [.ref aW, .ref aT, .int cnt])), (aW, .inl (cW, 2048, .inl words)), (aP, .inr (3, [.ref aR, .ref aF])), (aR, .inr (2, [.ref aM, .ref aA, .ref aB, .int fault])), (aA, .inl (cA, 8, .inl regs)), (aF, .inr (0, [.int fn, .int fz, .int fv, .int fc]))] sz) := by
  refine Met.ofW (cc := cX4_clear) (maxL := 1) (ret := none) (by decide) rfl ?_
  intro p e s m args below meth c s₁ B hml hv
  obtain ⟨rfl, hsz, hP, hK, hD0, hN⟩ := hv
  have hx := B.exec
  have hb := B.bytes
  have hr := B.returns
  have hts := atoms_spec (ws := wsX4_clear) B.pre
  have hown : s.vm.findClass RX4 = some m.cls := findClass_of_methodNamed B.named
  have hlocks := B.notSynchronized
  subst hsz
  have hD := hD0.self (sz := s.heap.size)
  generalize hAe : va_A [(g0, .inr (4, [.ref aM, .ref aP, .int st])), (aM, .inr (1, [.ref aW, .ref aT, .int cnt])), (aW, .inl (cW, 2048, .inl words)), (aP, .inr (3, [.ref aR, .ref aF])), (aR, .inr (2, [.ref aM, .ref aA, .ref aB, .int fault])), (aA, .inl (cA, 8, .inl regs)), (aF, .inr (0, [.int fn, .int fz, .int fv, .int fc]))] s.heap.size = A at hD ⊢
  have hA : ∀ q : Nat, s.heap.size ≤ q → A q := fun q h => by rw [← hAe]; exact Or.inr h
  have hS : va_S A s.heap s.heap [] := va_S.rf
  have hP : va_P (dC, dI) vwCl [(g0, .inr (4, [.ref aM, .ref aP, .int st])), (aM, .inr (1, [.ref aW, .ref aT, .int cnt])), (aW, .inl (cW, 2048, .inl words)), (aP, .inr (3, [.ref aR, .ref aF])), (aR, .inr (2, [.ref aM, .ref aA, .ref aB, .int fault])), (aA, .inl (cA, 8, .inl regs)), (aF, .inr (0, [.int fn, .int fz, .int fv, .int fc]))] s.heap := hP
  have hl := lv_entry ([.ref g0]) (n := 1) (Nat.le_of_ble_eq_true rfl)
  rw [lg_entry_eq]
  generalize (lg_sl ([.ref g0]) ++ List.replicate (1 - (lg_sl ([.ref g0])).length) Slot.unset).toArray = ls at hl ⊢
  have hl : lv_has ls 1 [(0, .ref g0)] := hl
  refine lv_aload_n hx hb dX4_clear_0 rfl (lv_at hl 0 rfl) ?_
  refine va_get (D := (dC, dI)) (ci := 4) (v := .ref aM) (C := RX4) (T := TX4) (N := 3) hx hb hts (by decide +kernel) hown hK hP 0 rfl rfl 0 (by decide) (hts (.fieldLink RX4 12 "WordGuest" "memory" "LWordGuest$Memory;") (by decide +kernel)) (fun _ h9 => h9) rfl dX4_clear_1 ?_
  have hPc := hP.sub (ws' := [(aM, .inr (1, [.ref aW, .ref aT, .int cnt])), (aW, .inl (cW, 2048, .inl words))]) [1, 2] rfl
  have hDc := hD.sub (ws' := [(aM, .inr (1, [.ref aW, .ref aT, .int cnt])), (aW, .inl (cW, 2048, .inl words))]) [1, 2] (by decide) rfl
  have hKc := hK.sub (tys' := [(cW, .int)]) [0] rfl
  have hFc := va_free (wc := [(aM, .inr (1, [.ref aW, .ref aT, .int cnt])), (aW, .inl (cW, 2048, .inl words))]) hD hS hA [1, 2] rfl
  refine va_callv (va_runV (C := RX1) (b := aM) (As := []) (rest := []) ⟨hx, hb, hml, hown, hts⟩ (s_X1_empty l dC dI s.heap.size aM aW aT cnt cW words) (cwV 0 hts gX4_clear_X1_empty rfl rfl rfl (by decide +kernel) ⟨Nat.le_of_ble_eq_true rfl, Nat.le_of_ble_eq_true rfl⟩) ⟨q_blind, va_recv hK hP (ci := 1) (q0 := 1) rfl rfl, fun U hU hW => ⟨rfl, q_pay hU hW hPc hKc hDc hN⟩⟩ rfl rfl hl.1 rfl (lv_room (Nat.le_of_ble_eq_true rfl)) dX4_clear_4 ⟨show 0 + 0 ≤ 0 from by omega, show 0 + 0 ≤ 0 from by omega⟩) hS (fun q _ h => hFc q h) hFc (fun u9 t H locs ht hvm hw_2 hB hz1 hk1 hS => ?_)
  obtain ⟨words2_3, rfl⟩ : ∃ z, z = u9 := ⟨_, rfl⟩
  obtain ⟨hP1, hK1, hD1⟩ := hB
  rw [ht] at hP1
  obtain ⟨hP, hD⟩ := va_join (wr := [(g0, .inr (4, [.ref aM, .ref aP, .int st])), (aP, .inr (3, [.ref aR, .ref aF])), (aR, .inr (2, [.ref aM, .ref aA, .ref aB, .int fault])), (aA, .inl (cA, 8, .inl regs)), (aF, .inr (0, [.int fn, .int fz, .int fv, .int fc]))]) (w1 := [(aM, .inr (1, [.ref aW, .ref aT, .int 0])), (aW, .inl (cW, 2048, .inl words2_3))]) hP hD [1, 2] [0, 3, 4, 5, 6] rfl rfl (by decide) (by decide) hk1 hFc hP1 hD1
  have hP : va_P (dC, dI) vwCl [(g0, .inr (4, [.ref aM, .ref aP, .int st])), (aP, .inr (3, [.ref aR, .ref aF])), (aR, .inr (2, [.ref aM, .ref aA, .ref aB, .int fault])), (aA, .inl (cA, 8, .inl regs)), (aF, .inr (0, [.int fn, .int fz, .int fv, .int fc])), (aM, .inr (1, [.ref aW, .ref aT, .int 0])), (aW, .inl (cW, 2048, .inl words2_3))] H := hP
  have hD : va_D A [(g0, .inr (4, [.ref aM, .ref aP, .int st])), (aP, .inr (3, [.ref aR, .ref aF])), (aR, .inr (2, [.ref aM, .ref aA, .ref aB, .int fault])), (aA, .inl (cA, 8, .inl regs)), (aF, .inr (0, [.int fn, .int fz, .int fv, .int fc])), (aM, .inr (1, [.ref aW, .ref aT, .int 0])), (aW, .inl (cW, 2048, .inl words2_3))] := hD
  refine W.widen (k := 0) (n := 0) (by omega) (by omega) ?_
  try dsimp only at hw_2
  refine lv_aload_n hx hb dX4_clear_7 rfl (lv_at hl 0 rfl) ?_
  refine va_get (D := (dC, dI)) (ci := 4) (v := .ref aP) (C := RX4) (T := TX4) (N := 3) hx hb hts (by decide +kernel) hown hK hP 0 rfl rfl 1 (by decide) (hts (.fieldLink RX4 21 "WordGuest" "processor" "LWordGuest$Processor;") (by decide +kernel)) (fun _ h9 => h9) rfl dX4_clear_8 ?_
  have hPc := hP.sub (ws' := [(aP, .inr (3, [.ref aR, .ref aF])), (aR, .inr (2, [.ref aM, .ref aA, .ref aB, .int fault])), (aA, .inl (cA, 8, .inl regs)), (aF, .inr (0, [.int fn, .int fz, .int fv, .int fc]))]) [1, 2, 3, 4] rfl
  have hDc := hD.sub (ws' := [(aP, .inr (3, [.ref aR, .ref aF])), (aR, .inr (2, [.ref aM, .ref aA, .ref aB, .int fault])), (aA, .inl (cA, 8, .inl regs)), (aF, .inr (0, [.int fn, .int fz, .int fv, .int fc]))]) [1, 2, 3, 4] (by decide) rfl
  have hKc := hK.sub (tys' := [(cA, .int)]) [1] rfl
  have hFc := va_free (wc := [(aP, .inr (3, [.ref aR, .ref aF])), (aR, .inr (2, [.ref aM, .ref aA, .ref aB, .int fault])), (aA, .inl (cA, 8, .inl regs)), (aF, .inr (0, [.int fn, .int fz, .int fv, .int fc]))]) hD hS hA [1, 2, 3, 4] rfl
  refine va_callv (va_runV (C := RX3) (b := aP) (As := []) (rest := []) ⟨hx, hb, hml, hown, hts⟩ (s_X3_empty l dC dI H.size aP aR aF aM aA aB fault cA regs fn fz fv fc) (cwV 0 hts gX4_clear_X3_empty rfl rfl rfl (by decide +kernel) ⟨Nat.le_of_ble_eq_true rfl, Nat.le_of_ble_eq_true rfl⟩) ⟨q_blind, va_recv hK hP (ci := 3) (q0 := 1) rfl rfl, fun U hU hW => ⟨rfl, q_pay hU hW hPc hKc hDc hN⟩⟩ rfl rfl hl.1 rfl (lv_room (Nat.le_of_ble_eq_true rfl)) dX4_clear_11 ⟨show 0 + 0 ≤ 0 from by omega, show 0 + 0 ≤ 0 from by omega⟩) hS (fun q _ h => hFc q h) hFc (fun u9 t H locs ht hvm hw_5 hB hz1 hk1 hS => ?_)
  obtain ⟨regs2_6, fn2_7, fz2_8, fv2_9, fc2_10⟩ := u9
  obtain ⟨hP1, hK1, hD1⟩ := hB
  rw [ht] at hP1
  obtain ⟨hP, hD⟩ := va_join (wr := [(g0, .inr (4, [.ref aM, .ref aP, .int st])), (aM, .inr (1, [.ref aW, .ref aT, .int 0])), (aW, .inl (cW, 2048, .inl words2_3))]) (w1 := [(aP, .inr (3, [.ref aR, .ref aF])), (aR, .inr (2, [.ref aM, .ref aA, .ref aB, .int fault])), (aA, .inl (cA, 8, .inl regs2_6)), (aF, .inr (0, [.int fn2_7, .int fz2_8, .int fv2_9, .int fc2_10]))]) hP hD [1, 2, 3, 4] [0, 5, 6] rfl rfl (by decide) (by decide) hk1 hFc hP1 hD1
  have hP : va_P (dC, dI) vwCl [(g0, .inr (4, [.ref aM, .ref aP, .int st])), (aM, .inr (1, [.ref aW, .ref aT, .int 0])), (aW, .inl (cW, 2048, .inl words2_3)), (aP, .inr (3, [.ref aR, .ref aF])), (aR, .inr (2, [.ref aM, .ref aA, .ref aB, .int fault])), (aA, .inl (cA, 8, .inl regs2_6)), (aF, .inr (0, [.int fn2_7, .int fz2_8, .int fv2_9, .int fc2_10]))] H := hP
  have hD : va_D A [(g0, .inr (4, [.ref aM, .ref aP, .int st])), (aM, .inr (1, [.ref aW, .ref aT, .int 0])), (aW, .inl (cW, 2048, .inl words2_3)), (aP, .inr (3, [.ref aR, .ref aF])), (aR, .inr (2, [.ref aM, .ref aA, .ref aB, .int fault])), (aA, .inl (cA, 8, .inl regs2_6)), (aF, .inr (0, [.int fn2_7, .int fz2_8, .int fv2_9, .int fc2_10]))] := hD
  refine W.widen (k := 0) (n := 0) (by omega) (by omega) ?_
  try dsimp only at hw_5
  refine lv_aload_n hx hb dX4_clear_14 rfl (lv_at hl 0 rfl) ?_
  refine lv_iconst (v := 0) hx hb dX4_clear_15 (by decide) ?_
  refine va_put (D := (dC, dI)) (ci := 4) (v := .int 0) (ty := .int) (C := RX4) (T := TX4) (N := 3) hx hb hts (by decide +kernel) tyX4 tyX4_ok nmX4 hown hK hP hD hS 0 rfl rfl 2 (by decide) (hts (.fieldLink RX4 70 "WordGuest" "latestSteps" "I") (by decide +kernel)) (fun _ h9 => h9) rfl (by decide +kernel) rfl rfl (Nat.le_of_ble_eq_true rfl) dX4_clear_16 (fun H locs hP hD hS => ?_)
  have hP : va_P (dC, dI) vwCl [(g0, .inr (4, [.ref aM, .ref aP, .int 0])), (aM, .inr (1, [.ref aW, .ref aT, .int 0])), (aW, .inl (cW, 2048, .inl words2_3)), (aP, .inr (3, [.ref aR, .ref aF])), (aR, .inr (2, [.ref aM, .ref aA, .ref aB, .int fault])), (aA, .inl (cA, 8, .inl regs2_6)), (aF, .inr (0, [.int fn2_7, .int fz2_8, .int fv2_9, .int fc2_10]))] H := hP
  have hD : va_D A [(g0, .inr (4, [.ref aM, .ref aP, .int 0])), (aM, .inr (1, [.ref aW, .ref aT, .int 0])), (aW, .inl (cW, 2048, .inl words2_3)), (aP, .inr (3, [.ref aR, .ref aF])), (aR, .inr (2, [.ref aM, .ref aA, .ref aB, .int fault])), (aA, .inl (cA, 8, .inl regs2_6)), (aF, .inr (0, [.int fn2_7, .int fz2_8, .int fv2_9, .int fc2_10]))] := hD
  have hP9 := hP.sub (ws' := [(g0, .inr (4, [.ref aM, .ref aP, .int 0])), (aM, .inr (1, [.ref aW, .ref aT, .int 0])), (aW, .inl (cW, 2048, .inl words2_3)), (aP, .inr (3, [.ref aR, .ref aF])), (aR, .inr (2, [.ref aM, .ref aA, .ref aB, .int fault])), (aA, .inl (cA, 8, .inl regs2_6)), (aF, .inr (0, [.int fn2_7, .int fz2_8, .int fv2_9, .int fc2_10]))]) [0, 1, 2, 3, 4, 5, 6] rfl
  have hD9 := hD.sub (ws' := [(g0, .inr (4, [.ref aM, .ref aP, .int 0])), (aM, .inr (1, [.ref aW, .ref aT, .int 0])), (aW, .inl (cW, 2048, .inl words2_3)), (aP, .inr (3, [.ref aR, .ref aF])), (aR, .inr (2, [.ref aM, .ref aA, .ref aB, .int fault])), (aA, .inl (cA, 8, .inl regs2_6)), (aF, .inr (0, [.int fn2_7, .int fz2_8, .int fv2_9, .int fc2_10]))]) [0, 1, 2, 3, 4, 5, 6] (by decide) rfl
  have hK9 := hK.sub (tys' := [(cW, .int), (cA, .int)]) [0, 1] rfl
  exact W.vret hx hb hr (fun t ht hW => ⟨⟨(words2_3, regs2_6, fn2_7, fz2_8, fv2_9, fc2_10), rfl, trivial, by rw [ht]; exact hP9, va_K.moved hW.alike hK9, hD9⟩, hS.F ht⟩) hS.2.2 dX4_clear_19
