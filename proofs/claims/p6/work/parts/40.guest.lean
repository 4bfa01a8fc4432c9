theorem q_in8 {k : Int32} (h1 : ¬ k < 0) (h2 : k < 8) : vp_in k 8 := by
  rw [vp_in_iff]
  have a := Int32.not_lt.mp h1
  simp only [Int32.le_iff_toInt_le, Int32.lt_iff_toInt_lt] at a h2
  exact ⟨by simpa using a, by simpa using h2⟩
theorem q_n8a {k : Int32} (h1 : k < 0) : ¬ vp_in k 8 := fun h => h (Or.inl h1)
theorem q_n8b {k : Int32} (h2 : ¬ k < 8) : ¬ vp_in k 8 := by
  rw [vp_in_iff]
  intro h
  apply h2
  simp only [Int32.lt_iff_toInt_lt]
  simpa using h.2
theorem q_nA {sz q : Nat} (h : ¬ sz ≤ q) : ¬ va_A [] sz q := fun h1 => h1.elim (fun ⟨k, e, h2⟩ => by simp at h2) h
theorem q_outin {k c : Int32} (h : ok4 c) (h1 : ¬ k < 0) (h2 : k < c) : vp_in k 400 := by
  obtain ⟨j, hj, rfl⟩ := h
  rw [vp_in_iff]
  have a := Int32.not_lt.mp h1
  simp only [Int32.le_iff_toInt_le, Int32.lt_iff_toInt_lt] at a h2
  rw [nI_toInt (by omega)] at h2
  exact ⟨by simpa using a, by omega⟩
set_option maxHeartbeats 4000000 in
set_option maxRecDepth 100000 in
theorem c_X4_needWordAt (l : Launch) (hl0 : l.stackTraces = false) (dC : Nat → ClassId) (dI : Nat → Nat → Nat) (sz : Nat) (g0 : Nat) (pl : Int32) (aM : Nat) (aP : Nat) (st : Int32) (aW : Nat) (aT : Nat) (cnt : Int32)  : vx_Met l yX4_needWordAt wsX4_needWordAt ({ frames := 6, cells := 1, slots := 6, locals := 89 }) (va_Pc [.ref g0, .int pl] (q_prx dC dI sz [(g0, .inr (4, [.ref aM, .ref aP, .int st])), (aM, .inr (1, [.ref aW, .ref aT, .int cnt]))] [])) (va_Qv (fun (u9 : Unit) => fa pl 65535 = 0) (q_at dC dI (va_A [(g0, .inr (4, [.ref aM, .ref aP, .int st])), (aM, .inr (1, [.ref aW, .ref aT, .int cnt]))] sz) (fun (u9 : Unit) => []) (fun (u9 : Unit) => [(g0, .inr (4, [.ref aM, .ref aP, .int st])), (aM, .inr (1, [.ref aW, .ref aT, .int cnt]))])) (va_A [(g0, .inr (4, [.ref aM, .ref aP, .int st])), (aM, .inr (1, [.ref aW, .ref aT, .int cnt]))] sz)) (vx_X (fun (_ : Unit) => ¬ fa pl 65535 = 0) (fun E9 _ _ => E9 = "java/lang/IndexOutOfBoundsException") (fun q => sz ≤ q)) 1 6 (va_A [(g0, .inr (4, [.ref aM, .ref aP, .int st])), (aM, .inr (1, [.ref aW, .ref aT, .int cnt]))] sz) := by
  refine vx_ofW (cc := cX4_needWordAt) (maxL := 2) (ret := none) (by decide) rfl ?_
  intro p e s m args below meth c s₁ B hml htab hv
  obtain ⟨rfl, ⟨hsz, hP, hK, hD0, hN⟩, hT⟩ := hv
  have hx := B.exec
  have hb := B.bytes
  have hr := B.returns
  have hts := atoms_spec (ws := wsX4_needWordAt) B.pre
  have hown : s.vm.findClass RX4 = some m.cls := findClass_of_methodNamed B.named
  have hlocks := B.notSynchronized
  subst hsz
  have hD := hD0.self (sz := s.heap.size)
  generalize hAe : va_A [(g0, .inr (4, [.ref aM, .ref aP, .int st])), (aM, .inr (1, [.ref aW, .ref aT, .int cnt]))] s.heap.size = A at hD hT ⊢
  have hA : ∀ q : Nat, s.heap.size ≤ q → A q := fun q h => by rw [← hAe]; exact Or.inr h
  have hS : va_S A s.heap s.heap [] := va_S.rf
  have hP : va_P (dC, dI) vwCl [(g0, .inr (4, [.ref aM, .ref aP, .int st])), (aM, .inr (1, [.ref aW, .ref aT, .int cnt]))] s.heap := hP
  have hl := lv_entry ([.ref g0, .int pl]) (n := 2) (Nat.le_of_ble_eq_true rfl)
  rw [lg_entry_eq]
  generalize (lg_sl ([.ref g0, .int pl]) ++ List.replicate (2 - (lg_sl ([.ref g0, .int pl])).length) Slot.unset).toArray = ls at hl ⊢
  have hl : lv_has ls 2 [(0, .ref g0), (1, .int pl)] := hl
  refine lv_aload_n hx hb dX4_needWordAt_0 rfl (lv_at hl 0 rfl) ?_
  refine va_get (D := (dC, dI)) (ci := 4) (v := .ref aM) (C := RX4) (T := TX4) (N := 3) hx hb hts (by decide +kernel) hown hK hP 0 rfl rfl 0 (by decide) (hts (.fieldLink RX4 12 "WordGuest" "memory" "LWordGuest$Memory;") (by decide +kernel)) (fun _ h9 => h9) rfl dX4_needWordAt_1 ?_
  refine lv_iload_n hx hb dX4_needWordAt_4 rfl (lv_at hl 1 rfl) ?_
  refine lv_ldc (v := 65535) hx hb hown (hts (.constant RX4 33 (65535)) (by decide +kernel)) dX4_needWordAt_5 ?_
  have hPc := hP.sub (ws' := []) [] rfl
  have hDc := hD.sub (ws' := []) [] (by decide) rfl
  have hKc := hK.sub (tys' := []) [] rfl
  have hFc := va_free (wc := []) hD hS hA [] rfl
  refine va_calli (va_runV (C := RX1) (b := aM) (As := [.int pl, .int 65535]) (rest := []) ⟨hx, hb, hml, hown, hts⟩ (c_X1_faultAt l dC dI s.heap.size aM pl (65535 : Int32)) (cwV 2 hts gX4_needWordAt_X1_faultAt rfl rfl rfl (by decide +kernel) ⟨Nat.le_of_ble_eq_true rfl, Nat.le_of_ble_eq_true rfl⟩) ⟨q_blind, va_recv hK hP (ci := 1) (q0 := 1) rfl rfl, fun U hU hW => ⟨rfl, q_pay hU hW hPc hKc hDc hN⟩⟩ rfl rfl hl.1 rfl (lv_room (Nat.le_of_ble_eq_true rfl)) dX4_needWordAt_7 ⟨show 0 + 0 ≤ 1 from by omega, show 0 + 0 ≤ 6 from by omega⟩) hS (fun q _ h => hFc q h) hFc (fun r_1 u9 t H locs ht hvm hw_2 hB hz1 hk1 hS => ?_)
  obtain ⟨hP1, hK1, hD1⟩ := hB
  rw [ht] at hP1
  obtain ⟨hP, hD⟩ := va_join (wr := [(g0, .inr (4, [.ref aM, .ref aP, .int st])), (aM, .inr (1, [.ref aW, .ref aT, .int cnt]))]) (w1 := []) hP hD [] [0, 1] rfl rfl (by decide) (by decide) hk1 hFc hP1 hD1
  have hP : va_P (dC, dI) vwCl [(g0, .inr (4, [.ref aM, .ref aP, .int st])), (aM, .inr (1, [.ref aW, .ref aT, .int cnt]))] H := hP
  have hD : va_D A [(g0, .inr (4, [.ref aM, .ref aP, .int st])), (aM, .inr (1, [.ref aW, .ref aT, .int cnt]))] := hD
  refine W.widen (k := 0) (n := 0) (by omega) (by omega) ?_
  try dsimp only at hw_2
  obtain rfl := hw_2
  refine lv_if_eq (tgt := 21) hx hb dX4_needWordAt_10 (by decide) (fun c_3 => ?_) (fun c_3 => ?_)
  · have hP9 := hP.sub (ws' := [(g0, .inr (4, [.ref aM, .ref aP, .int st])), (aM, .inr (1, [.ref aW, .ref aT, .int cnt]))]) [0, 1] rfl
    have hD9 := hD.sub (ws' := [(g0, .inr (4, [.ref aM, .ref aP, .int st])), (aM, .inr (1, [.ref aW, .ref aT, .int cnt]))]) [0, 1] (by decide) rfl
    have hK9 := hK.sub (tys' := []) [] rfl
    refine vx_ret ?_
    refine W.widen (k := 1) (n := 6) (by omega) (by omega) ?_
    exact W.vret hx hb hr (fun t ht hW => ⟨⟨(), rfl, c_3, by rw [ht]; exact hP9, va_K.moved hW.alike hK9, hD9⟩, hS.F ht⟩) hS.2.2 dX4_needWordAt_21
  · refine vx_throw0 (names := ["java/lang/RuntimeException", "java/lang/Exception"]) (A := A) hx hb hl0 hown (by decide +kernel) (by decide +kernel) (hts (.classLink RX4 80 "java/lang/IndexOutOfBoundsException") (by decide +kernel)) (hts (.initialized "java/lang/IndexOutOfBoundsException") (by decide +kernel)) (vx_hat (B := q_nl) (fun w9 h9 => hts w9 (List.mem_cons_of_mem _ (List.mem_append_right _ h9))) (by decide +kernel) (fun w9 h9 => va_Nw.use (q_nl_on w9 h9) (hN w9 h9))) (by decide +kernel) hT.1 hT.2 hS (hl.1.trans hml.symm) dX4_needWordAt_13 dX4_needWordAt_16 dX4_needWordAt_17 dX4_needWordAt_20 (fun x9 h9 => (htab x9 h9).elim) (by decide) (by decide) (by decide) (by decide) hlocks (fun t9 hal hz9 hk9 => ⟨(), c_3, rfl, ⟨Nat.le_trans hz1 hz9, fun q h1 h2 => (hk9 q (Nat.lt_of_lt_of_le h1 hz1)).trans (hk1 q h1 (q_nA h2))⟩⟩) hS.2.2 (by decide) (by decide)
set_option maxHeartbeats 4000000 in
set_option maxRecDepth 100000 in
theorem c_X4_needRegister (l : Launch) (hl0 : l.stackTraces = false) (dC : Nat → ClassId) (dI : Nat → Nat → Nat) (sz : Nat) (g0 : Nat) (k : Int32)  : vx_Met l yX4_needRegister wsX4_needRegister ({ frames := 6, cells := 1, slots := 6, locals := 89 }) (va_Pc [.ref g0, .int k] (q_prx dC dI sz [] [])) (va_Qv (fun (u9 : Unit) => vp_in k 8) (q_at dC dI (va_A [] sz) (fun (u9 : Unit) => []) (fun (u9 : Unit) => [])) (va_A [] sz)) (vx_X (fun (_ : Unit) => ¬ vp_in k 8) (fun E9 _ _ => E9 = "java/lang/IndexOutOfBoundsException") (fun q => sz ≤ q)) 1 6 (va_A [] sz) := by
  refine vx_ofW (cc := cX4_needRegister) (maxL := 2) (ret := none) (by decide) rfl ?_
  intro p e s m args below meth c s₁ B hml htab hv
  obtain ⟨rfl, ⟨hsz, hP, hK, hD0, hN⟩, hT⟩ := hv
  have hx := B.exec
  have hb := B.bytes
  have hr := B.returns
  have hts := atoms_spec (ws := wsX4_needRegister) B.pre
  have hown : s.vm.findClass RX4 = some m.cls := findClass_of_methodNamed B.named
  have hlocks := B.notSynchronized
  subst hsz
  have hD := hD0.self (sz := s.heap.size)
  generalize hAe : va_A [] s.heap.size = A at hD hT ⊢
  have hA : ∀ q : Nat, s.heap.size ≤ q → A q := fun q h => by rw [← hAe]; exact Or.inr h
  have hS : va_S A s.heap s.heap [] := va_S.rf
  have hP : va_P (dC, dI) vwCl [] s.heap := hP
  have hl := lv_entry ([.ref g0, .int k]) (n := 2) (Nat.le_of_ble_eq_true rfl)
  rw [lg_entry_eq]
  generalize (lg_sl ([.ref g0, .int k]) ++ List.replicate (2 - (lg_sl ([.ref g0, .int k])).length) Slot.unset).toArray = ls at hl ⊢
  have hl : lv_has ls 2 [(0, .ref g0), (1, .int k)] := hl
  refine lv_iload_n hx hb dX4_needRegister_0 rfl (lv_at hl 1 rfl) ?_
  refine lv_if_lt (tgt := 10) hx hb dX4_needRegister_1 (by decide) (fun c_1 => ?_) (fun c_1 => ?_)
  · refine vx_throw0 (names := ["java/lang/RuntimeException", "java/lang/Exception"]) (A := A) hx hb hl0 hown (by decide +kernel) (by decide +kernel) (hts (.classLink RX4 80 "java/lang/IndexOutOfBoundsException") (by decide +kernel)) (hts (.initialized "java/lang/IndexOutOfBoundsException") (by decide +kernel)) (vx_hat (B := q_nl) (fun w9 h9 => hts w9 (List.mem_cons_of_mem _ (List.mem_append_right _ h9))) (by decide +kernel) (fun w9 h9 => va_Nw.use (q_nl_on w9 h9) (hN w9 h9))) (by decide +kernel) hT.1 hT.2 hS (hl.1.trans hml.symm) dX4_needRegister_10 dX4_needRegister_13 dX4_needRegister_14 dX4_needRegister_17 (fun x9 h9 => (htab x9 h9).elim) (by decide) (by decide) (by decide) (by decide) hlocks (fun t9 hal hz9 hk9 => ⟨(), q_n8a c_1, rfl, ⟨hz9, fun q h1 _ => hk9 q h1⟩⟩) hS.2.2 (by decide) (by decide)
  · refine lv_iload_n hx hb dX4_needRegister_4 rfl (lv_at hl 1 rfl) ?_
    refine lv_bipush (v := 8) hx hb dX4_needRegister_5 (by decide) ?_
    refine lv_icmp_lt (tgt := 18) hx hb dX4_needRegister_7 (by decide) (fun c_2 => ?_) (fun c_2 => ?_)
    · have hP9 := hP.sub (ws' := []) [] rfl
      have hD9 := hD.sub (ws' := []) [] (by decide) rfl
      have hK9 := hK.sub (tys' := []) [] rfl
      refine vx_ret ?_
      refine W.widen (k := 1) (n := 6) (by omega) (by omega) ?_
      exact W.vret hx hb hr (fun t ht hW => ⟨⟨(), rfl, q_in8 c_1 c_2, by rw [ht]; exact hP9, va_K.moved hW.alike hK9, hD9⟩, hS.F ht⟩) hS.2.2 dX4_needRegister_18
    · refine vx_throw0 (names := ["java/lang/RuntimeException", "java/lang/Exception"]) (A := A) hx hb hl0 hown (by decide +kernel) (by decide +kernel) (hts (.classLink RX4 80 "java/lang/IndexOutOfBoundsException") (by decide +kernel)) (hts (.initialized "java/lang/IndexOutOfBoundsException") (by decide +kernel)) (vx_hat (B := q_nl) (fun w9 h9 => hts w9 (List.mem_cons_of_mem _ (List.mem_append_right _ h9))) (by decide +kernel) (fun w9 h9 => va_Nw.use (q_nl_on w9 h9) (hN w9 h9))) (by decide +kernel) hT.1 hT.2 hS (hl.1.trans hml.symm) dX4_needRegister_10 dX4_needRegister_13 dX4_needRegister_14 dX4_needRegister_17 (fun x9 h9 => (htab x9 h9).elim) (by decide) (by decide) (by decide) (by decide) hlocks (fun t9 hal hz9 hk9 => ⟨(), q_n8b c_2, rfl, ⟨hz9, fun q h1 _ => hk9 q h1⟩⟩) hS.2.2 (by decide) (by decide)
set_option maxHeartbeats 4000000 in
set_option maxRecDepth 100000 in
theorem s_X4_word (l : Launch) (hl0 : l.stackTraces = false) (dC : Nat → ClassId) (dI : Nat → Nat → Nat) (sz : Nat) (g0 : Nat) (pl : Int32) (aM : Nat) (aP : Nat) (st : Int32) (aW : Nat) (aT : Nat) (cnt : Int32) (cW : ClassId) (words : Nat → Int32)  : vx_Met l yX4_word wsX4_word ({ frames := 7, cells := 1, slots := 6, locals := 110 }) (va_Pc [.ref g0, .int pl] (q_prx dC dI sz [(g0, .inr (4, [.ref aM, .ref aP, .int st])), (aM, .inr (1, [.ref aW, .ref aT, .int cnt])), (aW, .inl (cW, 2048, .inl words))] [(cW, .int)])) (va_Qi (fun (r : Int32) (u9 : Unit) => True) (q_at dC dI (va_A [(g0, .inr (4, [.ref aM, .ref aP, .int st])), (aM, .inr (1, [.ref aW, .ref aT, .int cnt])), (aW, .inl (cW, 2048, .inl words))] sz) (fun (u9 : Unit) => [(cW, .int)]) (fun (u9 : Unit) => [(g0, .inr (4, [.ref aM, .ref aP, .int st])), (aM, .inr (1, [.ref aW, .ref aT, .int cnt])), (aW, .inl (cW, 2048, .inl words))])) (va_A [(g0, .inr (4, [.ref aM, .ref aP, .int st])), (aM, .inr (1, [.ref aW, .ref aT, .int cnt])), (aW, .inl (cW, 2048, .inl words))] sz)) (vx_X (fun (_ : Unit) => True) (fun E9 _ _ => E9 = "java/lang/IndexOutOfBoundsException") (fun q => sz ≤ q)) 1 6 (va_A [(g0, .inr (4, [.ref aM, .ref aP, .int st])), (aM, .inr (1, [.ref aW, .ref aT, .int cnt])), (aW, .inl (cW, 2048, .inl words))] sz) := by
  refine vx_ofW (cc := cX4_word) (maxL := 2) (ret := (some .int)) (by decide) rfl ?_
  intro p e s m args below meth c s₁ B hml htab hv
  obtain ⟨rfl, ⟨hsz, hP, hK, hD0, hN⟩, hT⟩ := hv
  have hx := B.exec
  have hb := B.bytes
  have hr := B.returns
  have hts := atoms_spec (ws := wsX4_word) B.pre
  have hown : s.vm.findClass RX4 = some m.cls := findClass_of_methodNamed B.named
  have hlocks := B.notSynchronized
  subst hsz
  have hD := hD0.self (sz := s.heap.size)
  generalize hAe : va_A [(g0, .inr (4, [.ref aM, .ref aP, .int st])), (aM, .inr (1, [.ref aW, .ref aT, .int cnt])), (aW, .inl (cW, 2048, .inl words))] s.heap.size = A at hD hT ⊢
  have hA : ∀ q : Nat, s.heap.size ≤ q → A q := fun q h => by rw [← hAe]; exact Or.inr h
  have hS : va_S A s.heap s.heap [] := va_S.rf
  have hP : va_P (dC, dI) vwCl [(g0, .inr (4, [.ref aM, .ref aP, .int st])), (aM, .inr (1, [.ref aW, .ref aT, .int cnt])), (aW, .inl (cW, 2048, .inl words))] s.heap := hP
  have hl := lv_entry ([.ref g0, .int pl]) (n := 2) (Nat.le_of_ble_eq_true rfl)
  rw [lg_entry_eq]
  generalize (lg_sl ([.ref g0, .int pl]) ++ List.replicate (2 - (lg_sl ([.ref g0, .int pl])).length) Slot.unset).toArray = ls at hl ⊢
  have hl : lv_has ls 2 [(0, .ref g0), (1, .int pl)] := hl
  refine lv_aload_n hx hb dX4_word_0 rfl (lv_at hl 0 rfl) ?_
  refine lv_iload_n hx hb dX4_word_1 rfl (lv_at hl 1 rfl) ?_
  have hPc := hP.sub (ws' := [(g0, .inr (4, [.ref aM, .ref aP, .int st])), (aM, .inr (1, [.ref aW, .ref aT, .int cnt]))]) [0, 1] rfl
  have hDc := hD.sub (ws' := [(g0, .inr (4, [.ref aM, .ref aP, .int st])), (aM, .inr (1, [.ref aW, .ref aT, .int cnt]))]) [0, 1] (by decide) rfl
  have hKc := hK.sub (tys' := []) [] rfl
  have hFc := va_free (wc := [(g0, .inr (4, [.ref aM, .ref aP, .int st])), (aM, .inr (1, [.ref aW, .ref aT, .int cnt]))]) hD hS hA [0, 1] rfl
  refine vx_callv (vx_runV (C := RX4) (b := g0) (As := [.int pl]) (rest := []) ⟨hx, hb, hml, hown, hts⟩ (c_X4_needWordAt l hl0 dC dI s.heap.size g0 pl aM aP st aW aT cnt) (cwV 1 hts gX4_word_X4_needWordAt rfl rfl rfl (by decide +kernel) ⟨Nat.le_of_ble_eq_true rfl, Nat.le_of_ble_eq_true rfl⟩) ⟨q_blindx, va_recv hK hP (ci := 4) (q0 := 0) rfl rfl, fun U hU hW => ⟨rfl, q_payx hU hW hPc hKc hDc hN hT hS hFc⟩⟩ rfl rfl hl.1 rfl (lv_room (Nat.le_of_ble_eq_true rfl)) dX4_word_2 ⟨show 0 + 1 ≤ 1 from by omega, show 0 + 6 ≤ 6 from by omega⟩) hS (fun q _ h => hFc q h) hFc (fun q h1 h2 => absurd h1 (Nat.not_lt.mpr h2)) (fun E9 ce9 q9 u9 t H9 locs ht hvm hw hB hz1 hk1 hS hq9 hv9 hc9 => ?_) (fun u9 t H locs ht hvm hw_2 hB hz1 hk1 hS => ?_)
  · obtain rfl := hB
    try dsimp only at hw
    exact vx_out (fun x9 h9 => (htab x9 h9).elim) hlocks hq9 hv9 hc9 (fun t9 ht9 hal => ⟨(), trivial, rfl, by rw [ht9]; exact hz1, fun q h1 h2 => by rw [ht9]; exact hk1 q h1 h2⟩) hS.2.2 (by decide) (by decide)
  obtain ⟨hP1, hK1, hD1⟩ := hB
  rw [ht] at hP1
  obtain ⟨hP, hD⟩ := va_join (wr := [(aW, .inl (cW, 2048, .inl words))]) (w1 := [(g0, .inr (4, [.ref aM, .ref aP, .int st])), (aM, .inr (1, [.ref aW, .ref aT, .int cnt]))]) hP hD [0, 1] [2] rfl rfl (by decide) (by decide) hk1 hFc hP1 hD1
  have hP : va_P (dC, dI) vwCl [(aW, .inl (cW, 2048, .inl words)), (g0, .inr (4, [.ref aM, .ref aP, .int st])), (aM, .inr (1, [.ref aW, .ref aT, .int cnt]))] H := hP
  have hD : va_D A [(aW, .inl (cW, 2048, .inl words)), (g0, .inr (4, [.ref aM, .ref aP, .int st])), (aM, .inr (1, [.ref aW, .ref aT, .int cnt]))] := hD
  refine W.widen (k := 1) (n := 6) (by omega) (by omega) ?_
  try dsimp only at hw_2
  refine lv_aload_n hx hb dX4_word_5 rfl (lv_at hl 0 rfl) ?_
  refine va_get (D := (dC, dI)) (ci := 4) (v := .ref aM) (C := RX4) (T := TX4) (N := 3) hx hb hts (by decide +kernel) hown hK hP 1 rfl rfl 0 (by decide) (hts (.fieldLink RX4 12 "WordGuest" "memory" "LWordGuest$Memory;") (by decide +kernel)) (fun _ h9 => h9) rfl dX4_word_6 ?_
  refine lv_iload_n hx hb dX4_word_9 rfl (lv_at hl 1 rfl) ?_
  refine lv_ldc (v := 65535) hx hb hown (hts (.constant RX4 33 (65535)) (by decide +kernel)) dX4_word_10 ?_
  have hPc := hP.sub (ws' := [(aM, .inr (1, [.ref aW, .ref aT, .int cnt])), (aW, .inl (cW, 2048, .inl words))]) [2, 0] rfl
  have hDc := hD.sub (ws' := [(aM, .inr (1, [.ref aW, .ref aT, .int cnt])), (aW, .inl (cW, 2048, .inl words))]) [2, 0] (by decide) rfl
  have hKc := hK.sub (tys' := [(cW, .int)]) [0] rfl
  have hFc := va_free (wc := [(aM, .inr (1, [.ref aW, .ref aT, .int cnt])), (aW, .inl (cW, 2048, .inl words))]) hD hS hA [2, 0] rfl
  refine va_calli (va_runV (C := RX1) (b := aM) (As := [.int pl, .int 65535]) (rest := []) ⟨hx, hb, hml, hown, hts⟩ (s_X1_valueAt l dC dI H.size aM pl (65535 : Int32) aW aT cnt cW words) (cwV 2 hts gX4_word_X1_valueAt rfl rfl rfl (by decide +kernel) ⟨Nat.le_of_ble_eq_true rfl, Nat.le_of_ble_eq_true rfl⟩) ⟨q_blind, va_recv hK hP (ci := 1) (q0 := 2) rfl rfl, fun U hU hW => ⟨rfl, q_pay hU hW hPc hKc hDc hN⟩⟩ rfl rfl hl.1 rfl (lv_room (Nat.le_of_ble_eq_true rfl)) dX4_word_12 ⟨show 1 + 0 ≤ 1 from by omega, show 6 + 0 ≤ 6 from by omega⟩) hS (fun q _ h => hFc q h) hFc (fun r_3 u9 t H locs ht hvm hw_4 hB hz1 hk1 hS => ?_)
  obtain ⟨hP1, hK1, hD1⟩ := hB
  rw [ht] at hP1
  obtain ⟨hP, hD⟩ := va_join (wr := [(g0, .inr (4, [.ref aM, .ref aP, .int st]))]) (w1 := [(aM, .inr (1, [.ref aW, .ref aT, .int cnt])), (aW, .inl (cW, 2048, .inl words))]) hP hD [2, 0] [1] rfl rfl (by decide) (by decide) hk1 hFc hP1 hD1
  have hP : va_P (dC, dI) vwCl [(g0, .inr (4, [.ref aM, .ref aP, .int st])), (aM, .inr (1, [.ref aW, .ref aT, .int cnt])), (aW, .inl (cW, 2048, .inl words))] H := hP
  have hD : va_D A [(g0, .inr (4, [.ref aM, .ref aP, .int st])), (aM, .inr (1, [.ref aW, .ref aT, .int cnt])), (aW, .inl (cW, 2048, .inl words))] := hD
  refine W.widen (k := 1) (n := 6) (by omega) (by omega) ?_
  try dsimp only at hw_4
  have hP9 := hP.sub (ws' := [(g0, .inr (4, [.ref aM, .ref aP, .int st])), (aM, .inr (1, [.ref aW, .ref aT, .int cnt])), (aW, .inl (cW, 2048, .inl words))]) [0, 1, 2] rfl
  have hD9 := hD.sub (ws' := [(g0, .inr (4, [.ref aM, .ref aP, .int st])), (aM, .inr (1, [.ref aW, .ref aT, .int cnt])), (aW, .inl (cW, 2048, .inl words))]) [0, 1, 2] (by decide) rfl
  have hK9 := hK.sub (tys' := [(cW, .int)]) [0] rfl
  refine vx_ret ?_
  exact W.iret (v := r_3) hx hb hr (fun t ht hW => ⟨⟨r_3, (), rfl, trivial, by rw [ht]; exact hP9, va_K.moved hW.alike hK9, hD9⟩, hS.F ht⟩) hS.2.2 dX4_word_15
set_option maxHeartbeats 4000000 in
set_option maxRecDepth 100000 in
theorem s_X4_poke (l : Launch) (hl0 : l.stackTraces = false) (dC : Nat → ClassId) (dI : Nat → Nat → Nat) (sz : Nat) (g0 : Nat) (pl : Int32) (v : Int32) (aM : Nat) (aP : Nat) (st : Int32) (aW : Nat) (aT : Nat) (cnt : Int32) (cW : ClassId) (words : Nat → Int32)  : vx_Met l yX4_poke wsX4_poke ({ frames := 7, cells := 1, slots := 6, locals := 110 }) (va_Pc [.ref g0, .int pl, .int v] (q_prx dC dI sz [(g0, .inr (4, [.ref aM, .ref aP, .int st])), (aM, .inr (1, [.ref aW, .ref aT, .int cnt])), (aW, .inl (cW, 2048, .inl words))] [(cW, .int)])) (va_Qi (fun (r : Int32) (u9 : (Nat → Int32)) => True) (q_at dC dI (va_A [(g0, .inr (4, [.ref aM, .ref aP, .int st])), (aM, .inr (1, [.ref aW, .ref aT, .int cnt])), (aW, .inl (cW, 2048, .inl words))] sz) (fun (u9 : (Nat → Int32)) => [(cW, .int)]) (fun (u9 : (Nat → Int32)) => [(g0, .inr (4, [.ref aM, .ref aP, .int st])), (aM, .inr (1, [.ref aW, .ref aT, .int cnt])), (aW, .inl (cW, 2048, .inl u9))])) (va_A [(g0, .inr (4, [.ref aM, .ref aP, .int st])), (aM, .inr (1, [.ref aW, .ref aT, .int cnt])), (aW, .inl (cW, 2048, .inl words))] sz)) (vx_X (fun (_ : Unit) => True) (fun E9 _ _ => E9 = "java/lang/IndexOutOfBoundsException") (fun q => sz ≤ q)) 1 6 (va_A [(g0, .inr (4, [.ref aM, .ref aP, .int st])), (aM, .inr (1, [.ref aW, .ref aT, .int cnt])), (aW, .inl (cW, 2048, .inl words))] sz) := by
  refine vx_ofW (cc := cX4_poke) (maxL := 4) (ret := (some .boolean)) (by decide) rfl ?_
  intro p e s m args below meth c s₁ B hml htab hv
  obtain ⟨rfl, ⟨hsz, hP, hK, hD0, hN⟩, hT⟩ := hv
  have hx := B.exec
  have hb := B.bytes
  have hr := B.returns
  have hts := atoms_spec (ws := wsX4_poke) B.pre
  have hown : s.vm.findClass RX4 = some m.cls := findClass_of_methodNamed B.named
  have hlocks := B.notSynchronized
  subst hsz
  have hD := hD0.self (sz := s.heap.size)
  generalize hAe : va_A [(g0, .inr (4, [.ref aM, .ref aP, .int st])), (aM, .inr (1, [.ref aW, .ref aT, .int cnt])), (aW, .inl (cW, 2048, .inl words))] s.heap.size = A at hD hT ⊢
  have hA : ∀ q : Nat, s.heap.size ≤ q → A q := fun q h => by rw [← hAe]; exact Or.inr h
  have hS : va_S A s.heap s.heap [] := va_S.rf
  have hP : va_P (dC, dI) vwCl [(g0, .inr (4, [.ref aM, .ref aP, .int st])), (aM, .inr (1, [.ref aW, .ref aT, .int cnt])), (aW, .inl (cW, 2048, .inl words))] s.heap := hP
  have hl := lv_entry ([.ref g0, .int pl, .int v]) (n := 4) (Nat.le_of_ble_eq_true rfl)
  rw [lg_entry_eq]
  generalize (lg_sl ([.ref g0, .int pl, .int v]) ++ List.replicate (4 - (lg_sl ([.ref g0, .int pl, .int v])).length) Slot.unset).toArray = ls at hl ⊢
  have hl : lv_has ls 4 [(0, .ref g0), (1, .int pl), (2, .int v)] := hl
  refine lv_aload_n hx hb dX4_poke_0 rfl (lv_at hl 0 rfl) ?_
  refine lv_iload_n hx hb dX4_poke_1 rfl (lv_at hl 1 rfl) ?_
  have hPc := hP.sub (ws' := [(g0, .inr (4, [.ref aM, .ref aP, .int st])), (aM, .inr (1, [.ref aW, .ref aT, .int cnt]))]) [0, 1] rfl
  have hDc := hD.sub (ws' := [(g0, .inr (4, [.ref aM, .ref aP, .int st])), (aM, .inr (1, [.ref aW, .ref aT, .int cnt]))]) [0, 1] (by decide) rfl
  have hKc := hK.sub (tys' := []) [] rfl
  have hFc := va_free (wc := [(g0, .inr (4, [.ref aM, .ref aP, .int st])), (aM, .inr (1, [.ref aW, .ref aT, .int cnt]))]) hD hS hA [0, 1] rfl
  refine vx_callv (vx_runV (C := RX4) (b := g0) (As := [.int pl]) (rest := []) ⟨hx, hb, hml, hown, hts⟩ (c_X4_needWordAt l hl0 dC dI s.heap.size g0 pl aM aP st aW aT cnt) (cwV 1 hts gX4_poke_X4_needWordAt rfl rfl rfl (by decide +kernel) ⟨Nat.le_of_ble_eq_true rfl, Nat.le_of_ble_eq_true rfl⟩) ⟨q_blindx, va_recv hK hP (ci := 4) (q0 := 0) rfl rfl, fun U hU hW => ⟨rfl, q_payx hU hW hPc hKc hDc hN hT hS hFc⟩⟩ rfl rfl hl.1 rfl (lv_room (Nat.le_of_ble_eq_true rfl)) dX4_poke_2 ⟨show 0 + 1 ≤ 1 from by omega, show 0 + 6 ≤ 6 from by omega⟩) hS (fun q _ h => hFc q h) hFc (fun q h1 h2 => absurd h1 (Nat.not_lt.mpr h2)) (fun E9 ce9 q9 u9 t H9 locs ht hvm hw hB hz1 hk1 hS hq9 hv9 hc9 => ?_) (fun u9 t H locs ht hvm hw_2 hB hz1 hk1 hS => ?_)
  · obtain rfl := hB
    try dsimp only at hw
    exact vx_out (fun x9 h9 => (htab x9 h9).elim) hlocks hq9 hv9 hc9 (fun t9 ht9 hal => ⟨(), trivial, rfl, by rw [ht9]; exact hz1, fun q h1 h2 => by rw [ht9]; exact hk1 q h1 h2⟩) hS.2.2 (by decide) (by decide)
  obtain ⟨hP1, hK1, hD1⟩ := hB
  rw [ht] at hP1
  obtain ⟨hP, hD⟩ := va_join (wr := [(aW, .inl (cW, 2048, .inl words))]) (w1 := [(g0, .inr (4, [.ref aM, .ref aP, .int st])), (aM, .inr (1, [.ref aW, .ref aT, .int cnt]))]) hP hD [0, 1] [2] rfl rfl (by decide) (by decide) hk1 hFc hP1 hD1
  have hP : va_P (dC, dI) vwCl [(aW, .inl (cW, 2048, .inl words)), (g0, .inr (4, [.ref aM, .ref aP, .int st])), (aM, .inr (1, [.ref aW, .ref aT, .int cnt]))] H := hP
  have hD : va_D A [(aW, .inl (cW, 2048, .inl words)), (g0, .inr (4, [.ref aM, .ref aP, .int st])), (aM, .inr (1, [.ref aW, .ref aT, .int cnt]))] := hD
  refine W.widen (k := 1) (n := 6) (by omega) (by omega) ?_
  try dsimp only at hw_2
  refine lv_aload_n hx hb dX4_poke_5 rfl (lv_at hl 0 rfl) ?_
  refine va_get (D := (dC, dI)) (ci := 4) (v := .ref aM) (C := RX4) (T := TX4) (N := 3) hx hb hts (by decide +kernel) hown hK hP 1 rfl rfl 0 (by decide) (hts (.fieldLink RX4 12 "WordGuest" "memory" "LWordGuest$Memory;") (by decide +kernel)) (fun _ h9 => h9) rfl dX4_poke_6 ?_
  refine lv_iload_n hx hb dX4_poke_9 rfl (lv_at hl 1 rfl) ?_
  refine lv_ldc (v := 65535) hx hb hown (hts (.constant RX4 33 (65535)) (by decide +kernel)) dX4_poke_10 ?_
  have hPc := hP.sub (ws' := [(aM, .inr (1, [.ref aW, .ref aT, .int cnt])), (aW, .inl (cW, 2048, .inl words))]) [2, 0] rfl
  have hDc := hD.sub (ws' := [(aM, .inr (1, [.ref aW, .ref aT, .int cnt])), (aW, .inl (cW, 2048, .inl words))]) [2, 0] (by decide) rfl
  have hKc := hK.sub (tys' := [(cW, .int)]) [0] rfl
  have hFc := va_free (wc := [(aM, .inr (1, [.ref aW, .ref aT, .int cnt])), (aW, .inl (cW, 2048, .inl words))]) hD hS hA [2, 0] rfl
  refine va_calli (va_runV (C := RX1) (b := aM) (As := [.int pl, .int 65535]) (rest := []) ⟨hx, hb, hml, hown, hts⟩ (s_X1_valueAt l dC dI H.size aM pl (65535 : Int32) aW aT cnt cW words) (cwV 2 hts gX4_poke_X1_valueAt rfl rfl rfl (by decide +kernel) ⟨Nat.le_of_ble_eq_true rfl, Nat.le_of_ble_eq_true rfl⟩) ⟨q_blind, va_recv hK hP (ci := 1) (q0 := 2) rfl rfl, fun U hU hW => ⟨rfl, q_pay hU hW hPc hKc hDc hN⟩⟩ rfl rfl hl.1 rfl (lv_room (Nat.le_of_ble_eq_true rfl)) dX4_poke_12 ⟨show 1 + 0 ≤ 1 from by omega, show 6 + 0 ≤ 6 from by omega⟩) hS (fun q _ h => hFc q h) hFc (fun r_3 u9 t H locs ht hvm hw_4 hB hz1 hk1 hS => ?_)
  obtain ⟨hP1, hK1, hD1⟩ := hB
  rw [ht] at hP1
  obtain ⟨hP, hD⟩ := va_join (wr := [(g0, .inr (4, [.ref aM, .ref aP, .int st]))]) (w1 := [(aM, .inr (1, [.ref aW, .ref aT, .int cnt])), (aW, .inl (cW, 2048, .inl words))]) hP hD [2, 0] [1] rfl rfl (by decide) (by decide) hk1 hFc hP1 hD1
  have hP : va_P (dC, dI) vwCl [(g0, .inr (4, [.ref aM, .ref aP, .int st])), (aM, .inr (1, [.ref aW, .ref aT, .int cnt])), (aW, .inl (cW, 2048, .inl words))] H := hP
  have hD : va_D A [(g0, .inr (4, [.ref aM, .ref aP, .int st])), (aM, .inr (1, [.ref aW, .ref aT, .int cnt])), (aW, .inl (cW, 2048, .inl words))] := hD
  refine W.widen (k := 1) (n := 6) (by omega) (by omega) ?_
  try dsimp only at hw_4
  refine lv_istore_n (lv' := [(3, .int r_3), (0, .ref g0), (1, .int pl), (2, .int v)]) hx hb dX4_poke_15 rfl hl (by decide) rfl (fun ls hl => ?_)
  refine lv_aload_n hx hb dX4_poke_16 rfl (lv_at hl 1 rfl) ?_
  refine va_get (D := (dC, dI)) (ci := 4) (v := .ref aM) (C := RX4) (T := TX4) (N := 3) hx hb hts (by decide +kernel) hown hK hP 0 rfl rfl 0 (by decide) (hts (.fieldLink RX4 12 "WordGuest" "memory" "LWordGuest$Memory;") (by decide +kernel)) (fun _ h9 => h9) rfl dX4_poke_17 ?_
  refine lv_iload_n hx hb dX4_poke_20 rfl (lv_at hl 2 rfl) ?_
  refine lv_iload_n hx hb dX4_poke_21 rfl (lv_at hl 3 rfl) ?_
  have hPc := hP.sub (ws' := [(aM, .inr (1, [.ref aW, .ref aT, .int cnt])), (aW, .inl (cW, 2048, .inl words))]) [1, 2] rfl
  have hDc := hD.sub (ws' := [(aM, .inr (1, [.ref aW, .ref aT, .int cnt])), (aW, .inl (cW, 2048, .inl words))]) [1, 2] (by decide) rfl
  have hKc := hK.sub (tys' := [(cW, .int)]) [0] rfl
  have hFc := va_free (wc := [(aM, .inr (1, [.ref aW, .ref aT, .int cnt])), (aW, .inl (cW, 2048, .inl words))]) hD hS hA [1, 2] rfl
  refine va_callv (va_runV (C := RX1) (b := aM) (As := [.int pl, .int v]) (rest := []) ⟨hx, hb, hml, hown, hts⟩ (s_X1_setWord l dC dI H.size aM pl v aW aT cnt cW words) (cwV 2 hts gX4_poke_X1_setWord rfl rfl rfl (by decide +kernel) ⟨Nat.le_of_ble_eq_true rfl, Nat.le_of_ble_eq_true rfl⟩) ⟨q_blind, va_recv hK hP (ci := 1) (q0 := 1) rfl rfl, fun U hU hW => ⟨rfl, q_pay hU hW hPc hKc hDc hN⟩⟩ rfl rfl hl.1 rfl (lv_room (Nat.le_of_ble_eq_true rfl)) dX4_poke_22 ⟨show 1 + 0 ≤ 1 from by omega, show 6 + 0 ≤ 6 from by omega⟩) hS (fun q _ h => hFc q h) hFc (fun u9 t H locs ht hvm hw_6 hB hz1 hk1 hS => ?_)
  obtain ⟨words2_7, rfl⟩ : ∃ z, z = u9 := ⟨_, rfl⟩
  obtain ⟨hP1, hK1, hD1⟩ := hB
  rw [ht] at hP1
  obtain ⟨hP, hD⟩ := va_join (wr := [(g0, .inr (4, [.ref aM, .ref aP, .int st]))]) (w1 := [(aM, .inr (1, [.ref aW, .ref aT, .int cnt])), (aW, .inl (cW, 2048, .inl words2_7))]) hP hD [1, 2] [0] rfl rfl (by decide) (by decide) hk1 hFc hP1 hD1
  have hP : va_P (dC, dI) vwCl [(g0, .inr (4, [.ref aM, .ref aP, .int st])), (aM, .inr (1, [.ref aW, .ref aT, .int cnt])), (aW, .inl (cW, 2048, .inl words2_7))] H := hP
  have hD : va_D A [(g0, .inr (4, [.ref aM, .ref aP, .int st])), (aM, .inr (1, [.ref aW, .ref aT, .int cnt])), (aW, .inl (cW, 2048, .inl words2_7))] := hD
  refine W.widen (k := 1) (n := 6) (by omega) (by omega) ?_
  try dsimp only at hw_6
  refine lv_iload_n hx hb dX4_poke_25 rfl (lv_at hl 0 rfl) ?_
  refine lv_iload_n hx hb dX4_poke_26 rfl (lv_at hl 3 rfl) ?_
  refine lv_ldc (v := 65535) hx hb hown (hts (.constant RX4 33 (65535)) (by decide +kernel)) dX4_poke_27 ?_
  refine lv_iand hx hb dX4_poke_29 ?_
  refine q_bool (ls := ls) 38 [] (fun b_9 hb_10 => ?_) (fun jn => ?_)
  · have hP9 := hP.sub (ws' := [(g0, .inr (4, [.ref aM, .ref aP, .int st])), (aM, .inr (1, [.ref aW, .ref aT, .int cnt])), (aW, .inl (cW, 2048, .inl words2_7))]) [0, 1, 2] rfl
    have hD9 := hD.sub (ws' := [(g0, .inr (4, [.ref aM, .ref aP, .int st])), (aM, .inr (1, [.ref aW, .ref aT, .int cnt])), (aW, .inl (cW, 2048, .inl words2_7))]) [0, 1, 2] (by decide) rfl
    have hK9 := hK.sub (tys' := [(cW, .int)]) [0] rfl
    refine vx_ret ?_
    exact W.zret (v := b_9) (ty := .boolean) hx hb hr (q_nz hb_10) (fun t ht hW => ⟨⟨b_9, words2_7, rfl, trivial, by rw [ht]; exact hP9, va_K.moved hW.alike hK9, hD9⟩, hS.F ht⟩) hS.2.2 dX4_poke_38
  refine lv_icmp_eq (tgt := 37) hx hb dX4_poke_30 (by decide) (fun c_8 => ?_) (fun c_8 => ?_)
  · refine lv_iconst (v := 0) hx hb dX4_poke_37 (by decide) ?_
    exact jn _ (Or.inl rfl)
  · refine lv_iconst (v := 1) hx hb dX4_poke_33 (by decide) ?_
    refine lv_goto (tgt := 38) hx hb dX4_poke_34 (by decide) ?_
    exact jn _ (Or.inr rfl)
set_option maxHeartbeats 4000000 in
set_option maxRecDepth 100000 in
theorem s_X4_register (l : Launch) (hl0 : l.stackTraces = false) (dC : Nat → ClassId) (dI : Nat → Nat → Nat) (sz : Nat) (g0 : Nat) (k : Int32) (aM : Nat) (aP : Nat) (st : Int32) (aR : Nat) (aF : Nat) (aN : Nat) (aA : Nat) (aB : Nat) (fault : Int32) (cA : ClassId) (regs : Nat → Int32)  : vx_Met l yX4_register wsX4_register ({ frames := 7, cells := 1, slots := 6, locals := 110 }) (va_Pc [.ref g0, .int k] (q_prx dC dI sz [(g0, .inr (4, [.ref aM, .ref aP, .int st])), (aP, .inr (3, [.ref aR, .ref aF])), (aR, .inr (2, [.ref aN, .ref aA, .ref aB, .int fault])), (aA, .inl (cA, 8, .inl regs))] [(cA, .int)])) (va_Qi (fun (r : Int32) (u9 : Unit) => True) (q_at dC dI (va_A [(g0, .inr (4, [.ref aM, .ref aP, .int st])), (aP, .inr (3, [.ref aR, .ref aF])), (aR, .inr (2, [.ref aN, .ref aA, .ref aB, .int fault])), (aA, .inl (cA, 8, .inl regs))] sz) (fun (u9 : Unit) => [(cA, .int)]) (fun (u9 : Unit) => [(g0, .inr (4, [.ref aM, .ref aP, .int st])), (aP, .inr (3, [.ref aR, .ref aF])), (aR, .inr (2, [.ref aN, .ref aA, .ref aB, .int fault])), (aA, .inl (cA, 8, .inl regs))])) (va_A [(g0, .inr (4, [.ref aM, .ref aP, .int st])), (aP, .inr (3, [.ref aR, .ref aF])), (aR, .inr (2, [.ref aN, .ref aA, .ref aB, .int fault])), (aA, .inl (cA, 8, .inl regs))] sz)) (vx_X (fun (_ : Unit) => True) (fun E9 _ _ => E9 = "java/lang/IndexOutOfBoundsException") (fun q => sz ≤ q)) 1 6 (va_A [(g0, .inr (4, [.ref aM, .ref aP, .int st])), (aP, .inr (3, [.ref aR, .ref aF])), (aR, .inr (2, [.ref aN, .ref aA, .ref aB, .int fault])), (aA, .inl (cA, 8, .inl regs))] sz) := by
  refine vx_ofW (cc := cX4_register) (maxL := 2) (ret := (some .int)) (by decide) rfl ?_
  intro p e s m args below meth c s₁ B hml htab hv
  obtain ⟨rfl, ⟨hsz, hP, hK, hD0, hN⟩, hT⟩ := hv
  have hx := B.exec
  have hb := B.bytes
  have hr := B.returns
  have hts := atoms_spec (ws := wsX4_register) B.pre
  have hown : s.vm.findClass RX4 = some m.cls := findClass_of_methodNamed B.named
  have hlocks := B.notSynchronized
  subst hsz
  have hD := hD0.self (sz := s.heap.size)
  generalize hAe : va_A [(g0, .inr (4, [.ref aM, .ref aP, .int st])), (aP, .inr (3, [.ref aR, .ref aF])), (aR, .inr (2, [.ref aN, .ref aA, .ref aB, .int fault])), (aA, .inl (cA, 8, .inl regs))] s.heap.size = A at hD hT ⊢
  have hA : ∀ q : Nat, s.heap.size ≤ q → A q := fun q h => by rw [← hAe]; exact Or.inr h
  have hS : va_S A s.heap s.heap [] := va_S.rf
  have hP : va_P (dC, dI) vwCl [(g0, .inr (4, [.ref aM, .ref aP, .int st])), (aP, .inr (3, [.ref aR, .ref aF])), (aR, .inr (2, [.ref aN, .ref aA, .ref aB, .int fault])), (aA, .inl (cA, 8, .inl regs))] s.heap := hP
  have hl := lv_entry ([.ref g0, .int k]) (n := 2) (Nat.le_of_ble_eq_true rfl)
  rw [lg_entry_eq]
  generalize (lg_sl ([.ref g0, .int k]) ++ List.replicate (2 - (lg_sl ([.ref g0, .int k])).length) Slot.unset).toArray = ls at hl ⊢
  have hl : lv_has ls 2 [(0, .ref g0), (1, .int k)] := hl
  refine lv_aload_n hx hb dX4_register_0 rfl (lv_at hl 0 rfl) ?_
  refine lv_iload_n hx hb dX4_register_1 rfl (lv_at hl 1 rfl) ?_
  have hPc := hP.sub (ws' := []) [] rfl
  have hDc := hD.sub (ws' := []) [] (by decide) rfl
  have hKc := hK.sub (tys' := []) [] rfl
  have hFc := va_free (wc := []) hD hS hA [] rfl
  refine vx_callv (vx_runV (C := RX4) (b := g0) (As := [.int k]) (rest := []) ⟨hx, hb, hml, hown, hts⟩ (c_X4_needRegister l hl0 dC dI s.heap.size g0 k) (cwV 1 hts gX4_register_X4_needRegister rfl rfl rfl (by decide +kernel) ⟨Nat.le_of_ble_eq_true rfl, Nat.le_of_ble_eq_true rfl⟩) ⟨q_blindx, va_recv hK hP (ci := 4) (q0 := 0) rfl rfl, fun U hU hW => ⟨rfl, q_payx hU hW hPc hKc hDc hN hT hS hFc⟩⟩ rfl rfl hl.1 rfl (lv_room (Nat.le_of_ble_eq_true rfl)) dX4_register_2 ⟨show 0 + 1 ≤ 1 from by omega, show 0 + 6 ≤ 6 from by omega⟩) hS (fun q _ h => hFc q h) hFc (fun q h1 h2 => absurd h1 (Nat.not_lt.mpr h2)) (fun E9 ce9 q9 u9 t H9 locs ht hvm hw hB hz1 hk1 hS hq9 hv9 hc9 => ?_) (fun u9 t H locs ht hvm hw_2 hB hz1 hk1 hS => ?_)
  · obtain rfl := hB
    try dsimp only at hw
    exact vx_out (fun x9 h9 => (htab x9 h9).elim) hlocks hq9 hv9 hc9 (fun t9 ht9 hal => ⟨(), trivial, rfl, by rw [ht9]; exact hz1, fun q h1 h2 => by rw [ht9]; exact hk1 q h1 h2⟩) hS.2.2 (by decide) (by decide)
  obtain ⟨hP1, hK1, hD1⟩ := hB
  rw [ht] at hP1
  obtain ⟨hP, hD⟩ := va_join (wr := [(g0, .inr (4, [.ref aM, .ref aP, .int st])), (aP, .inr (3, [.ref aR, .ref aF])), (aR, .inr (2, [.ref aN, .ref aA, .ref aB, .int fault])), (aA, .inl (cA, 8, .inl regs))]) (w1 := []) hP hD [] [0, 1, 2, 3] rfl rfl (by decide) (by decide) hk1 hFc hP1 hD1
  have hP : va_P (dC, dI) vwCl [(g0, .inr (4, [.ref aM, .ref aP, .int st])), (aP, .inr (3, [.ref aR, .ref aF])), (aR, .inr (2, [.ref aN, .ref aA, .ref aB, .int fault])), (aA, .inl (cA, 8, .inl regs))] H := hP
  have hD : va_D A [(g0, .inr (4, [.ref aM, .ref aP, .int st])), (aP, .inr (3, [.ref aR, .ref aF])), (aR, .inr (2, [.ref aN, .ref aA, .ref aB, .int fault])), (aA, .inl (cA, 8, .inl regs))] := hD
  refine W.widen (k := 1) (n := 6) (by omega) (by omega) ?_
  try dsimp only at hw_2
  refine lv_aload_n hx hb dX4_register_5 rfl (lv_at hl 0 rfl) ?_
  refine va_get (D := (dC, dI)) (ci := 4) (v := .ref aP) (C := RX4) (T := TX4) (N := 3) hx hb hts (by decide +kernel) hown hK hP 0 rfl rfl 1 (by decide) (hts (.fieldLink RX4 21 "WordGuest" "processor" "LWordGuest$Processor;") (by decide +kernel)) (fun _ h9 => h9) rfl dX4_register_6 ?_
  refine va_getN (D := (dC, dI)) (ci := 3) (v := .ref aR) (C := RX3) (T := TX3) (N := 2) hx hb hts (by decide +kernel) hown hK hP 1 rfl rfl 0 (by decide) ((va_Nw.use rfl (hN _ (List.mem_of_getElem? (i := 11) rfl)))) (fun _ h9 => h9) rfl dX4_register_9 ?_
  refine va_getN (D := (dC, dI)) (ci := 2) (v := .ref aA) (C := RX2) (T := TX2) (N := 4) hx hb hts (by decide +kernel) hown hK hP 2 rfl rfl 1 (by decide) ((va_Nw.use rfl (hN _ (List.mem_of_getElem? (i := 8) rfl)))) (fun _ h9 => h9) rfl dX4_register_12 ?_
  refine lv_iload_n hx hb dX4_register_15 rfl (lv_at hl 1 rfl) ?_
  refine va_iald hx hb hK hP 3 0 rfl rfl hw_2 dX4_register_16 ?_
  have hP9 := hP.sub (ws' := [(g0, .inr (4, [.ref aM, .ref aP, .int st])), (aP, .inr (3, [.ref aR, .ref aF])), (aR, .inr (2, [.ref aN, .ref aA, .ref aB, .int fault])), (aA, .inl (cA, 8, .inl regs))]) [0, 1, 2, 3] rfl
  have hD9 := hD.sub (ws' := [(g0, .inr (4, [.ref aM, .ref aP, .int st])), (aP, .inr (3, [.ref aR, .ref aF])), (aR, .inr (2, [.ref aN, .ref aA, .ref aB, .int fault])), (aA, .inl (cA, 8, .inl regs))]) [0, 1, 2, 3] (by decide) rfl
  have hK9 := hK.sub (tys' := [(cA, .int)]) [0] rfl
  refine vx_ret ?_
  exact W.iret (v := regs k.toNatClampNeg) hx hb hr (fun t ht hW => ⟨⟨regs k.toNatClampNeg, (), rfl, trivial, by rw [ht]; exact hP9, va_K.moved hW.alike hK9, hD9⟩, hS.F ht⟩) hS.2.2 dX4_register_17
set_option maxHeartbeats 4000000 in
set_option maxRecDepth 100000 in
theorem s_X4_put (l : Launch) (hl0 : l.stackTraces = false) (dC : Nat → ClassId) (dI : Nat → Nat → Nat) (sz : Nat) (g0 : Nat) (k : Int32) (v : Int32) (aM : Nat) (aP : Nat) (st : Int32) (aR : Nat) (aF : Nat) (aN : Nat) (aA : Nat) (aB : Nat) (fault : Int32) (cA : ClassId) (regs : Nat → Int32)  : vx_Met l yX4_put wsX4_put ({ frames := 7, cells := 1, slots := 6, locals := 110 }) (va_Pc [.ref g0, .int k, .int v] (q_prx dC dI sz [(g0, .inr (4, [.ref aM, .ref aP, .int st])), (aP, .inr (3, [.ref aR, .ref aF])), (aR, .inr (2, [.ref aN, .ref aA, .ref aB, .int fault])), (aA, .inl (cA, 8, .inl regs))] [(cA, .int)])) (va_Qv (fun (u9 : (Nat → Int32)) => vp_in k 8) (q_at dC dI (va_A [(g0, .inr (4, [.ref aM, .ref aP, .int st])), (aP, .inr (3, [.ref aR, .ref aF])), (aR, .inr (2, [.ref aN, .ref aA, .ref aB, .int fault])), (aA, .inl (cA, 8, .inl regs))] sz) (fun (u9 : (Nat → Int32)) => [(cA, .int)]) (fun (u9 : (Nat → Int32)) => [(g0, .inr (4, [.ref aM, .ref aP, .int st])), (aP, .inr (3, [.ref aR, .ref aF])), (aR, .inr (2, [.ref aN, .ref aA, .ref aB, .int fault])), (aA, .inl (cA, 8, .inl u9))])) (va_A [(g0, .inr (4, [.ref aM, .ref aP, .int st])), (aP, .inr (3, [.ref aR, .ref aF])), (aR, .inr (2, [.ref aN, .ref aA, .ref aB, .int fault])), (aA, .inl (cA, 8, .inl regs))] sz)) (vx_X (fun (_ : Unit) => ¬ vp_in k 8) (fun E9 _ _ => E9 = "java/lang/IndexOutOfBoundsException") (fun q => sz ≤ q)) 1 6 (va_A [(g0, .inr (4, [.ref aM, .ref aP, .int st])), (aP, .inr (3, [.ref aR, .ref aF])), (aR, .inr (2, [.ref aN, .ref aA, .ref aB, .int fault])), (aA, .inl (cA, 8, .inl regs))] sz) := by
  refine vx_ofW (cc := cX4_put) (maxL := 3) (ret := none) (by decide) rfl ?_
  intro p e s m args below meth c s₁ B hml htab hv
  obtain ⟨rfl, ⟨hsz, hP, hK, hD0, hN⟩, hT⟩ := hv
  have hx := B.exec
  have hb := B.bytes
  have hr := B.returns
  have hts := atoms_spec (ws := wsX4_put) B.pre
  have hown : s.vm.findClass RX4 = some m.cls := findClass_of_methodNamed B.named
  have hlocks := B.notSynchronized
  subst hsz
  have hD := hD0.self (sz := s.heap.size)
  generalize hAe : va_A [(g0, .inr (4, [.ref aM, .ref aP, .int st])), (aP, .inr (3, [.ref aR, .ref aF])), (aR, .inr (2, [.ref aN, .ref aA, .ref aB, .int fault])), (aA, .inl (cA, 8, .inl regs))] s.heap.size = A at hD hT ⊢
  have hA : ∀ q : Nat, s.heap.size ≤ q → A q := fun q h => by rw [← hAe]; exact Or.inr h
  have hS : va_S A s.heap s.heap [] := va_S.rf
  have hP : va_P (dC, dI) vwCl [(g0, .inr (4, [.ref aM, .ref aP, .int st])), (aP, .inr (3, [.ref aR, .ref aF])), (aR, .inr (2, [.ref aN, .ref aA, .ref aB, .int fault])), (aA, .inl (cA, 8, .inl regs))] s.heap := hP
  have hl := lv_entry ([.ref g0, .int k, .int v]) (n := 3) (Nat.le_of_ble_eq_true rfl)
  rw [lg_entry_eq]
  generalize (lg_sl ([.ref g0, .int k, .int v]) ++ List.replicate (3 - (lg_sl ([.ref g0, .int k, .int v])).length) Slot.unset).toArray = ls at hl ⊢
  have hl : lv_has ls 3 [(0, .ref g0), (1, .int k), (2, .int v)] := hl
  refine lv_aload_n hx hb dX4_put_0 rfl (lv_at hl 0 rfl) ?_
  refine lv_iload_n hx hb dX4_put_1 rfl (lv_at hl 1 rfl) ?_
  have hPc := hP.sub (ws' := []) [] rfl
  have hDc := hD.sub (ws' := []) [] (by decide) rfl
  have hKc := hK.sub (tys' := []) [] rfl
  have hFc := va_free (wc := []) hD hS hA [] rfl
  refine vx_callv (vx_runV (C := RX4) (b := g0) (As := [.int k]) (rest := []) ⟨hx, hb, hml, hown, hts⟩ (c_X4_needRegister l hl0 dC dI s.heap.size g0 k) (cwV 1 hts gX4_put_X4_needRegister rfl rfl rfl (by decide +kernel) ⟨Nat.le_of_ble_eq_true rfl, Nat.le_of_ble_eq_true rfl⟩) ⟨q_blindx, va_recv hK hP (ci := 4) (q0 := 0) rfl rfl, fun U hU hW => ⟨rfl, q_payx hU hW hPc hKc hDc hN hT hS hFc⟩⟩ rfl rfl hl.1 rfl (lv_room (Nat.le_of_ble_eq_true rfl)) dX4_put_2 ⟨show 0 + 1 ≤ 1 from by omega, show 0 + 6 ≤ 6 from by omega⟩) hS (fun q _ h => hFc q h) hFc (fun q h1 h2 => absurd h1 (Nat.not_lt.mpr h2)) (fun E9 ce9 q9 u9 t H9 locs ht hvm hw hB hz1 hk1 hS hq9 hv9 hc9 => ?_) (fun u9 t H locs ht hvm hw_2 hB hz1 hk1 hS => ?_)
  · obtain rfl := hB
    try dsimp only at hw
    exact vx_out (fun x9 h9 => (htab x9 h9).elim) hlocks hq9 hv9 hc9 (fun t9 ht9 hal => ⟨(), hw, rfl, by rw [ht9]; exact hz1, fun q h1 h2 => by rw [ht9]; exact hk1 q h1 h2⟩) hS.2.2 (by decide) (by decide)
  obtain ⟨hP1, hK1, hD1⟩ := hB
  rw [ht] at hP1
  obtain ⟨hP, hD⟩ := va_join (wr := [(g0, .inr (4, [.ref aM, .ref aP, .int st])), (aP, .inr (3, [.ref aR, .ref aF])), (aR, .inr (2, [.ref aN, .ref aA, .ref aB, .int fault])), (aA, .inl (cA, 8, .inl regs))]) (w1 := []) hP hD [] [0, 1, 2, 3] rfl rfl (by decide) (by decide) hk1 hFc hP1 hD1
  have hP : va_P (dC, dI) vwCl [(g0, .inr (4, [.ref aM, .ref aP, .int st])), (aP, .inr (3, [.ref aR, .ref aF])), (aR, .inr (2, [.ref aN, .ref aA, .ref aB, .int fault])), (aA, .inl (cA, 8, .inl regs))] H := hP
  have hD : va_D A [(g0, .inr (4, [.ref aM, .ref aP, .int st])), (aP, .inr (3, [.ref aR, .ref aF])), (aR, .inr (2, [.ref aN, .ref aA, .ref aB, .int fault])), (aA, .inl (cA, 8, .inl regs))] := hD
  refine W.widen (k := 1) (n := 6) (by omega) (by omega) ?_
  try dsimp only at hw_2
  refine lv_aload_n hx hb dX4_put_5 rfl (lv_at hl 0 rfl) ?_
  refine va_get (D := (dC, dI)) (ci := 4) (v := .ref aP) (C := RX4) (T := TX4) (N := 3) hx hb hts (by decide +kernel) hown hK hP 0 rfl rfl 1 (by decide) (hts (.fieldLink RX4 21 "WordGuest" "processor" "LWordGuest$Processor;") (by decide +kernel)) (fun _ h9 => h9) rfl dX4_put_6 ?_
  refine va_getN (D := (dC, dI)) (ci := 3) (v := .ref aR) (C := RX3) (T := TX3) (N := 2) hx hb hts (by decide +kernel) hown hK hP 1 rfl rfl 0 (by decide) ((va_Nw.use rfl (hN _ (List.mem_of_getElem? (i := 11) rfl)))) (fun _ h9 => h9) rfl dX4_put_9 ?_
  refine va_getN (D := (dC, dI)) (ci := 2) (v := .ref aA) (C := RX2) (T := TX2) (N := 4) hx hb hts (by decide +kernel) hown hK hP 2 rfl rfl 1 (by decide) ((va_Nw.use rfl (hN _ (List.mem_of_getElem? (i := 8) rfl)))) (fun _ h9 => h9) rfl dX4_put_12 ?_
  refine lv_iload_n hx hb dX4_put_15 rfl (lv_at hl 1 rfl) ?_
  refine lv_iload_n hx hb dX4_put_16 rfl (lv_at hl 2 rfl) ?_
  refine lv_ldc (v := 65535) hx hb hown (hts (.constant RX4 33 (65535)) (by decide +kernel)) dX4_put_17 ?_
  refine lv_iand hx hb dX4_put_19 ?_
  refine va_iast hx hb hK hP hD hS 3 0 rfl rfl hw_2 dX4_put_20 (fun H locs hP hD hS => ?_)
  have hP : va_P (dC, dI) vwCl [(g0, .inr (4, [.ref aM, .ref aP, .int st])), (aP, .inr (3, [.ref aR, .ref aF])), (aR, .inr (2, [.ref aN, .ref aA, .ref aB, .int fault])), (aA, .inl (cA, 8, .inl (upd regs k.toNatClampNeg (v &&& 65535))))] H := hP
  have hD : va_D A [(g0, .inr (4, [.ref aM, .ref aP, .int st])), (aP, .inr (3, [.ref aR, .ref aF])), (aR, .inr (2, [.ref aN, .ref aA, .ref aB, .int fault])), (aA, .inl (cA, 8, .inl (upd regs k.toNatClampNeg (v &&& 65535))))] := hD
  generalize (upd regs k.toNatClampNeg (v &&& 65535)) = g_3 at hP hD
  have hP9 := hP.sub (ws' := [(g0, .inr (4, [.ref aM, .ref aP, .int st])), (aP, .inr (3, [.ref aR, .ref aF])), (aR, .inr (2, [.ref aN, .ref aA, .ref aB, .int fault])), (aA, .inl (cA, 8, .inl g_3))]) [0, 1, 2, 3] rfl
  have hD9 := hD.sub (ws' := [(g0, .inr (4, [.ref aM, .ref aP, .int st])), (aP, .inr (3, [.ref aR, .ref aF])), (aR, .inr (2, [.ref aN, .ref aA, .ref aB, .int fault])), (aA, .inl (cA, 8, .inl g_3))]) [0, 1, 2, 3] (by decide) rfl
  have hK9 := hK.sub (tys' := [(cA, .int)]) [0] rfl
  refine vx_ret ?_
  exact W.vret hx hb hr (fun t ht hW => ⟨⟨g_3, rfl, hw_2, by rw [ht]; exact hP9, va_K.moved hW.alike hK9, hD9⟩, hS.F ht⟩) hS.2.2 dX4_put_21
set_option maxHeartbeats 4000000 in
set_option maxRecDepth 100000 in
theorem s_X4_flags (l : Launch) (dC : Nat → ClassId) (dI : Nat → Nat → Nat) (sz : Nat) (g0 : Nat) (aM : Nat) (aP : Nat) (st : Int32) (aR : Nat) (aF : Nat) (fn : Int32) (fz : Int32) (fv : Int32) (fc : Int32)  : Met l yX4_flags wsX4_flags ({ frames := 1, cells := 0, slots := 0, locals := 20 }) (va_Pc [.ref g0] (q_pre dC dI sz [(g0, .inr (4, [.ref aM, .ref aP, .int st])), (aP, .inr (3, [.ref aR, .ref aF])), (aF, .inr (0, [.int fn, .int fz, .int fv, .int fc]))] [])) (va_Qi (fun (r : Int32) (u9 : Unit) => True) (q_at dC dI (va_A [(g0, .inr (4, [.ref aM, .ref aP, .int st])), (aP, .inr (3, [.ref aR, .ref aF])), (aF, .inr (0, [.int fn, .int fz, .int fv, .int fc]))] sz) (fun (u9 : Unit) => []) (fun (u9 : Unit) => [(g0, .inr (4, [.ref aM, .ref aP, .int st])), (aP, .inr (3, [.ref aR, .ref aF])), (aF, .inr (0, [.int fn, .int fz, .int fv, .int fc]))])) (va_A [(g0, .inr (4, [.ref aM, .ref aP, .int st])), (aP, .inr (3, [.ref aR, .ref aF])), (aF, .inr (0, [.int fn, .int fz, .int fv, .int fc]))] sz)) 0 0 (va_A [(g0, .inr (4, [.ref aM, .ref aP, .int st])), (aP, .inr (3, [.ref aR, .ref aF])), (aF, .inr (0, [.int fn, .int fz, .int fv, .int fc]))] sz) := by
  refine Met.ofW (cc := cX4_flags) (maxL := 1) (ret := (some .int)) (by decide) rfl ?_
  intro p e s m args below meth c s₁ B hml hv
  obtain ⟨rfl, hsz, hP, hK, hD0, hN⟩ := hv
  have hx := B.exec
  have hb := B.bytes
  have hr := B.returns
  have hts := atoms_spec (ws := wsX4_flags) B.pre
  have hown : s.vm.findClass RX4 = some m.cls := findClass_of_methodNamed B.named
  have hlocks := B.notSynchronized
  subst hsz
  have hD := hD0.self (sz := s.heap.size)
  generalize hAe : va_A [(g0, .inr (4, [.ref aM, .ref aP, .int st])), (aP, .inr (3, [.ref aR, .ref aF])), (aF, .inr (0, [.int fn, .int fz, .int fv, .int fc]))] s.heap.size = A at hD ⊢
  have hA : ∀ q : Nat, s.heap.size ≤ q → A q := fun q h => by rw [← hAe]; exact Or.inr h
  have hS : va_S A s.heap s.heap [] := va_S.rf
  have hP : va_P (dC, dI) vwCl [(g0, .inr (4, [.ref aM, .ref aP, .int st])), (aP, .inr (3, [.ref aR, .ref aF])), (aF, .inr (0, [.int fn, .int fz, .int fv, .int fc]))] s.heap := hP
  have hl := lv_entry ([.ref g0]) (n := 1) (Nat.le_of_ble_eq_true rfl)
  rw [lg_entry_eq]
  generalize (lg_sl ([.ref g0]) ++ List.replicate (1 - (lg_sl ([.ref g0])).length) Slot.unset).toArray = ls at hl ⊢
  have hl : lv_has ls 1 [(0, .ref g0)] := hl
  refine lv_aload_n hx hb dX4_flags_0 rfl (lv_at hl 0 rfl) ?_
  refine va_get (D := (dC, dI)) (ci := 4) (v := .ref aP) (C := RX4) (T := TX4) (N := 3) hx hb hts (by decide +kernel) hown hK hP 0 rfl rfl 1 (by decide) (hts (.fieldLink RX4 21 "WordGuest" "processor" "LWordGuest$Processor;") (by decide +kernel)) (fun _ h9 => h9) rfl dX4_flags_1 ?_
  refine va_getN (D := (dC, dI)) (ci := 3) (v := .ref aF) (C := RX3) (T := TX3) (N := 2) hx hb hts (by decide +kernel) hown hK hP 1 rfl rfl 1 (by decide) ((va_Nw.use rfl (hN _ (List.mem_of_getElem? (i := 12) rfl)))) (fun _ h9 => h9) rfl dX4_flags_4 ?_
  have hPc := hP.sub (ws' := [(aF, .inr (0, [.int fn, .int fz, .int fv, .int fc]))]) [2] rfl
  have hDc := hD.sub (ws' := [(aF, .inr (0, [.int fn, .int fz, .int fv, .int fc]))]) [2] (by decide) rfl
  have hKc := hK.sub (tys' := []) [] rfl
  have hFc := va_free (wc := [(aF, .inr (0, [.int fn, .int fz, .int fv, .int fc]))]) hD hS hA [2] rfl
  refine va_calli (va_runV (C := RX0) (b := aF) (As := []) (rest := []) ⟨hx, hb, hml, hown, hts⟩ (s_X0_number l dC dI s.heap.size aF fn fz fv fc) (cwV 0 hts gX4_flags_X0_number rfl rfl rfl (by decide +kernel) ⟨Nat.le_of_ble_eq_true rfl, Nat.le_of_ble_eq_true rfl⟩) ⟨q_blind, va_recv hK hP (ci := 0) (q0 := 2) rfl rfl, fun U hU hW => ⟨rfl, q_pay hU hW hPc hKc hDc hN⟩⟩ rfl rfl hl.1 rfl (lv_room (Nat.le_of_ble_eq_true rfl)) dX4_flags_7 ⟨show 0 + 0 ≤ 0 from by omega, show 0 + 0 ≤ 0 from by omega⟩) hS (fun q _ h => hFc q h) hFc (fun r_1 u9 t H locs ht hvm hw_2 hB hz1 hk1 hS => ?_)
  obtain ⟨hP1, hK1, hD1⟩ := hB
  rw [ht] at hP1
  obtain ⟨hP, hD⟩ := va_join (wr := [(g0, .inr (4, [.ref aM, .ref aP, .int st])), (aP, .inr (3, [.ref aR, .ref aF]))]) (w1 := [(aF, .inr (0, [.int fn, .int fz, .int fv, .int fc]))]) hP hD [2] [0, 1] rfl rfl (by decide) (by decide) hk1 hFc hP1 hD1
  have hP : va_P (dC, dI) vwCl [(g0, .inr (4, [.ref aM, .ref aP, .int st])), (aP, .inr (3, [.ref aR, .ref aF])), (aF, .inr (0, [.int fn, .int fz, .int fv, .int fc]))] H := hP
  have hD : va_D A [(g0, .inr (4, [.ref aM, .ref aP, .int st])), (aP, .inr (3, [.ref aR, .ref aF])), (aF, .inr (0, [.int fn, .int fz, .int fv, .int fc]))] := hD
  refine W.widen (k := 0) (n := 0) (by omega) (by omega) ?_
  try dsimp only at hw_2
  have hP9 := hP.sub (ws' := [(g0, .inr (4, [.ref aM, .ref aP, .int st])), (aP, .inr (3, [.ref aR, .ref aF])), (aF, .inr (0, [.int fn, .int fz, .int fv, .int fc]))]) [0, 1, 2] rfl
  have hD9 := hD.sub (ws' := [(g0, .inr (4, [.ref aM, .ref aP, .int st])), (aP, .inr (3, [.ref aR, .ref aF])), (aF, .inr (0, [.int fn, .int fz, .int fv, .int fc]))]) [0, 1, 2] (by decide) rfl
  have hK9 := hK.sub (tys' := []) [] rfl
  exact W.iret (v := r_1) hx hb hr (fun t ht hW => ⟨⟨r_1, (), rfl, trivial, by rw [ht]; exact hP9, va_K.moved hW.alike hK9, hD9⟩, hS.F ht⟩) hS.2.2 dX4_flags_10
set_option maxHeartbeats 4000000 in
set_option maxRecDepth 100000 in
theorem s_X4_flag (l : Launch) (dC : Nat → ClassId) (dI : Nat → Nat → Nat) (sz : Nat) (g0 : Nat) (k : Int32) (aM : Nat) (aP : Nat) (st : Int32) (aR : Nat) (aF : Nat) (fn : Int32) (fz : Int32) (fv : Int32) (fc : Int32)  : Met l yX4_flag wsX4_flag ({ frames := 1, cells := 0, slots := 0, locals := 21 }) (va_Pc [.ref g0, .int k] (q_pre dC dI sz [(g0, .inr (4, [.ref aM, .ref aP, .int st])), (aP, .inr (3, [.ref aR, .ref aF])), (aF, .inr (0, [.int fn, .int fz, .int fv, .int fc]))] [])) (va_Qv (fun (u9 : Int32 × Int32 × Int32 × Int32) => True) (q_at dC dI (va_A [(g0, .inr (4, [.ref aM, .ref aP, .int st])), (aP, .inr (3, [.ref aR, .ref aF])), (aF, .inr (0, [.int fn, .int fz, .int fv, .int fc]))] sz) (fun (u9 : Int32 × Int32 × Int32 × Int32) => []) (fun (u9 : Int32 × Int32 × Int32 × Int32) => [(g0, .inr (4, [.ref aM, .ref aP, .int st])), (aP, .inr (3, [.ref aR, .ref aF])), (aF, .inr (0, [.int u9.1, .int u9.2.1, .int u9.2.2.1, .int u9.2.2.2]))])) (va_A [(g0, .inr (4, [.ref aM, .ref aP, .int st])), (aP, .inr (3, [.ref aR, .ref aF])), (aF, .inr (0, [.int fn, .int fz, .int fv, .int fc]))] sz)) 0 0 (va_A [(g0, .inr (4, [.ref aM, .ref aP, .int st])), (aP, .inr (3, [.ref aR, .ref aF])), (aF, .inr (0, [.int fn, .int fz, .int fv, .int fc]))] sz) := by
  refine Met.ofW (cc := cX4_flag) (maxL := 2) (ret := none) (by decide) rfl ?_
  intro p e s m args below meth c s₁ B hml hv
  obtain ⟨rfl, hsz, hP, hK, hD0, hN⟩ := hv
  have hx := B.exec
  have hb := B.bytes
  have hr := B.returns
  have hts := atoms_spec (ws := wsX4_flag) B.pre
  have hown : s.vm.findClass RX4 = some m.cls := findClass_of_methodNamed B.named
  have hlocks := B.notSynchronized
  subst hsz
  have hD := hD0.self (sz := s.heap.size)
  generalize hAe : va_A [(g0, .inr (4, [.ref aM, .ref aP, .int st])), (aP, .inr (3, [.ref aR, .ref aF])), (aF, .inr (0, [.int fn, .int fz, .int fv, .int fc]))] s.heap.size = A at hD ⊢
  have hA : ∀ q : Nat, s.heap.size ≤ q → A q := fun q h => by rw [← hAe]; exact Or.inr h
  have hS : va_S A s.heap s.heap [] := va_S.rf
  have hP : va_P (dC, dI) vwCl [(g0, .inr (4, [.ref aM, .ref aP, .int st])), (aP, .inr (3, [.ref aR, .ref aF])), (aF, .inr (0, [.int fn, .int fz, .int fv, .int fc]))] s.heap := hP
  have hl := lv_entry ([.ref g0, .int k]) (n := 2) (Nat.le_of_ble_eq_true rfl)
  rw [lg_entry_eq]
  generalize (lg_sl ([.ref g0, .int k]) ++ List.replicate (2 - (lg_sl ([.ref g0, .int k])).length) Slot.unset).toArray = ls at hl ⊢
  have hl : lv_has ls 2 [(0, .ref g0), (1, .int k)] := hl
  refine lv_aload_n hx hb dX4_flag_0 rfl (lv_at hl 0 rfl) ?_
  refine va_get (D := (dC, dI)) (ci := 4) (v := .ref aP) (C := RX4) (T := TX4) (N := 3) hx hb hts (by decide +kernel) hown hK hP 0 rfl rfl 1 (by decide) (hts (.fieldLink RX4 21 "WordGuest" "processor" "LWordGuest$Processor;") (by decide +kernel)) (fun _ h9 => h9) rfl dX4_flag_1 ?_
  refine va_getN (D := (dC, dI)) (ci := 3) (v := .ref aF) (C := RX3) (T := TX3) (N := 2) hx hb hts (by decide +kernel) hown hK hP 1 rfl rfl 1 (by decide) ((va_Nw.use rfl (hN _ (List.mem_of_getElem? (i := 12) rfl)))) (fun _ h9 => h9) rfl dX4_flag_4 ?_
  refine lv_iload_n hx hb dX4_flag_7 rfl (lv_at hl 1 rfl) ?_
  have hPc := hP.sub (ws' := [(aF, .inr (0, [.int fn, .int fz, .int fv, .int fc]))]) [2] rfl
  have hDc := hD.sub (ws' := [(aF, .inr (0, [.int fn, .int fz, .int fv, .int fc]))]) [2] (by decide) rfl
  have hKc := hK.sub (tys' := []) [] rfl
  have hFc := va_free (wc := [(aF, .inr (0, [.int fn, .int fz, .int fv, .int fc]))]) hD hS hA [2] rfl
  refine va_callv (va_runV (C := RX0) (b := aF) (As := [.int k]) (rest := []) ⟨hx, hb, hml, hown, hts⟩ (s_X0_become l dC dI s.heap.size aF k fn fz fv fc) (cwV 1 hts gX4_flag_X0_become rfl rfl rfl (by decide +kernel) ⟨Nat.le_of_ble_eq_true rfl, Nat.le_of_ble_eq_true rfl⟩) ⟨q_blind, va_recv hK hP (ci := 0) (q0 := 2) rfl rfl, fun U hU hW => ⟨rfl, q_pay hU hW hPc hKc hDc hN⟩⟩ rfl rfl hl.1 rfl (lv_room (Nat.le_of_ble_eq_true rfl)) dX4_flag_8 ⟨show 0 + 0 ≤ 0 from by omega, show 0 + 0 ≤ 0 from by omega⟩) hS (fun q _ h => hFc q h) hFc (fun u9 t H locs ht hvm hw_2 hB hz1 hk1 hS => ?_)
  obtain ⟨fn2_3, fz2_4, fv2_5, fc2_6⟩ := u9
  obtain ⟨hP1, hK1, hD1⟩ := hB
  rw [ht] at hP1
  obtain ⟨hP, hD⟩ := va_join (wr := [(g0, .inr (4, [.ref aM, .ref aP, .int st])), (aP, .inr (3, [.ref aR, .ref aF]))]) (w1 := [(aF, .inr (0, [.int fn2_3, .int fz2_4, .int fv2_5, .int fc2_6]))]) hP hD [2] [0, 1] rfl rfl (by decide) (by decide) hk1 hFc hP1 hD1
  have hP : va_P (dC, dI) vwCl [(g0, .inr (4, [.ref aM, .ref aP, .int st])), (aP, .inr (3, [.ref aR, .ref aF])), (aF, .inr (0, [.int fn2_3, .int fz2_4, .int fv2_5, .int fc2_6]))] H := hP
  have hD : va_D A [(g0, .inr (4, [.ref aM, .ref aP, .int st])), (aP, .inr (3, [.ref aR, .ref aF])), (aF, .inr (0, [.int fn2_3, .int fz2_4, .int fv2_5, .int fc2_6]))] := hD
  refine W.widen (k := 0) (n := 0) (by omega) (by omega) ?_
  try dsimp only at hw_2
  have hP9 := hP.sub (ws' := [(g0, .inr (4, [.ref aM, .ref aP, .int st])), (aP, .inr (3, [.ref aR, .ref aF])), (aF, .inr (0, [.int fn2_3, .int fz2_4, .int fv2_5, .int fc2_6]))]) [0, 1, 2] rfl
  have hD9 := hD.sub (ws' := [(g0, .inr (4, [.ref aM, .ref aP, .int st])), (aP, .inr (3, [.ref aR, .ref aF])), (aF, .inr (0, [.int fn2_3, .int fz2_4, .int fv2_5, .int fc2_6]))]) [0, 1, 2] (by decide) rfl
  have hK9 := hK.sub (tys' := []) [] rfl
  exact W.vret hx hb hr (fun t ht hW => ⟨⟨(fn2_3, fz2_4, fv2_5, fc2_6), rfl, trivial, by rw [ht]; exact hP9, va_K.moved hW.alike hK9, hD9⟩, hS.F ht⟩) hS.2.2 dX4_flag_11
set_option maxHeartbeats 4000000 in
set_option maxRecDepth 100000 in
theorem s_X4_steps (l : Launch) (dC : Nat → ClassId) (dI : Nat → Nat → Nat) (sz : Nat) (g0 : Nat) (aM : Nat) (aP : Nat) (st : Int32)  : Met l yX4_steps wsX4_steps ({ frames := 0, cells := 0, slots := 0, locals := 0 }) (va_Pc [.ref g0] (q_pre dC dI sz [(g0, .inr (4, [.ref aM, .ref aP, .int st]))] [])) (va_Qi (fun (r : Int32) (u9 : Unit) => True) (q_at dC dI (va_A [(g0, .inr (4, [.ref aM, .ref aP, .int st]))] sz) (fun (u9 : Unit) => []) (fun (u9 : Unit) => [(g0, .inr (4, [.ref aM, .ref aP, .int st]))])) (va_A [(g0, .inr (4, [.ref aM, .ref aP, .int st]))] sz)) 0 0 (va_A [(g0, .inr (4, [.ref aM, .ref aP, .int st]))] sz) := by
  refine Met.ofW (cc := cX4_steps) (maxL := 1) (ret := (some .int)) (by decide) rfl ?_
  intro p e s m args below meth c s₁ B hml hv
  obtain ⟨rfl, hsz, hP, hK, hD0, hN⟩ := hv
  have hx := B.exec
  have hb := B.bytes
  have hr := B.returns
  have hts := atoms_spec (ws := wsX4_steps) B.pre
  have hown : s.vm.findClass RX4 = some m.cls := findClass_of_methodNamed B.named
  have hlocks := B.notSynchronized
  subst hsz
  have hD := hD0.self (sz := s.heap.size)
  generalize hAe : va_A [(g0, .inr (4, [.ref aM, .ref aP, .int st]))] s.heap.size = A at hD ⊢
  have hA : ∀ q : Nat, s.heap.size ≤ q → A q := fun q h => by rw [← hAe]; exact Or.inr h
  have hS : va_S A s.heap s.heap [] := va_S.rf
  have hP : va_P (dC, dI) vwCl [(g0, .inr (4, [.ref aM, .ref aP, .int st]))] s.heap := hP
  have hl := lv_entry ([.ref g0]) (n := 1) (Nat.le_of_ble_eq_true rfl)
  rw [lg_entry_eq]
  generalize (lg_sl ([.ref g0]) ++ List.replicate (1 - (lg_sl ([.ref g0])).length) Slot.unset).toArray = ls at hl ⊢
  have hl : lv_has ls 1 [(0, .ref g0)] := hl
  refine lv_aload_n hx hb dX4_steps_0 rfl (lv_at hl 0 rfl) ?_
  refine va_get (D := (dC, dI)) (ci := 4) (v := .int st) (C := RX4) (T := TX4) (N := 3) hx hb hts (by decide +kernel) hown hK hP 0 rfl rfl 2 (by decide) (hts (.fieldLink RX4 70 "WordGuest" "latestSteps" "I") (by decide +kernel)) (fun _ h9 => h9) rfl dX4_steps_1 ?_
  have hP9 := hP.sub (ws' := [(g0, .inr (4, [.ref aM, .ref aP, .int st]))]) [0] rfl
  have hD9 := hD.sub (ws' := [(g0, .inr (4, [.ref aM, .ref aP, .int st]))]) [0] (by decide) rfl
  have hK9 := hK.sub (tys' := []) [] rfl
  exact W.iret (v := st) hx hb hr (fun t ht hW => ⟨⟨st, (), rfl, trivial, by rw [ht]; exact hP9, va_K.moved hW.alike hK9, hD9⟩, hS.F ht⟩) hS.2.2 dX4_steps_4
set_option maxHeartbeats 4000000 in
set_option maxRecDepth 100000 in
theorem s_X4_outputs (l : Launch) (dC : Nat → ClassId) (dI : Nat → Nat → Nat) (sz : Nat) (g0 : Nat) (aM : Nat) (aP : Nat) (st : Int32) (aW : Nat) (aT : Nat) (cnt : Int32)  : Met l yX4_outputs wsX4_outputs ({ frames := 0, cells := 0, slots := 0, locals := 0 }) (va_Pc [.ref g0] (q_pre dC dI sz [(g0, .inr (4, [.ref aM, .ref aP, .int st])), (aM, .inr (1, [.ref aW, .ref aT, .int cnt]))] [])) (va_Qi (fun (r : Int32) (u9 : Unit) => True) (q_at dC dI (va_A [(g0, .inr (4, [.ref aM, .ref aP, .int st])), (aM, .inr (1, [.ref aW, .ref aT, .int cnt]))] sz) (fun (u9 : Unit) => []) (fun (u9 : Unit) => [(g0, .inr (4, [.ref aM, .ref aP, .int st])), (aM, .inr (1, [.ref aW, .ref aT, .int cnt]))])) (va_A [(g0, .inr (4, [.ref aM, .ref aP, .int st])), (aM, .inr (1, [.ref aW, .ref aT, .int cnt]))] sz)) 0 0 (va_A [(g0, .inr (4, [.ref aM, .ref aP, .int st])), (aM, .inr (1, [.ref aW, .ref aT, .int cnt]))] sz) := by
  refine Met.ofW (cc := cX4_outputs) (maxL := 1) (ret := (some .int)) (by decide) rfl ?_
  intro p e s m args below meth c s₁ B hml hv
  obtain ⟨rfl, hsz, hP, hK, hD0, hN⟩ := hv
  have hx := B.exec
  have hb := B.bytes
  have hr := B.returns
  have hts := atoms_spec (ws := wsX4_outputs) B.pre
  have hown : s.vm.findClass RX4 = some m.cls := findClass_of_methodNamed B.named
  have hlocks := B.notSynchronized
  subst hsz
  have hD := hD0.self (sz := s.heap.size)
  generalize hAe : va_A [(g0, .inr (4, [.ref aM, .ref aP, .int st])), (aM, .inr (1, [.ref aW, .ref aT, .int cnt]))] s.heap.size = A at hD ⊢
  have hA : ∀ q : Nat, s.heap.size ≤ q → A q := fun q h => by rw [← hAe]; exact Or.inr h
  have hS : va_S A s.heap s.heap [] := va_S.rf
  have hP : va_P (dC, dI) vwCl [(g0, .inr (4, [.ref aM, .ref aP, .int st])), (aM, .inr (1, [.ref aW, .ref aT, .int cnt]))] s.heap := hP
  have hl := lv_entry ([.ref g0]) (n := 1) (Nat.le_of_ble_eq_true rfl)
  rw [lg_entry_eq]
  generalize (lg_sl ([.ref g0]) ++ List.replicate (1 - (lg_sl ([.ref g0])).length) Slot.unset).toArray = ls at hl ⊢
  have hl : lv_has ls 1 [(0, .ref g0)] := hl
  refine lv_aload_n hx hb dX4_outputs_0 rfl (lv_at hl 0 rfl) ?_
  refine va_get (D := (dC, dI)) (ci := 4) (v := .ref aM) (C := RX4) (T := TX4) (N := 3) hx hb hts (by decide +kernel) hown hK hP 0 rfl rfl 0 (by decide) (hts (.fieldLink RX4 12 "WordGuest" "memory" "LWordGuest$Memory;") (by decide +kernel)) (fun _ h9 => h9) rfl dX4_outputs_1 ?_
  refine va_getN (D := (dC, dI)) (ci := 1) (v := .int cnt) (C := RX1) (T := TX1) (N := 3) hx hb hts (by decide +kernel) hown hK hP 1 rfl rfl 2 (by decide) ((va_Nw.use rfl (hN _ (List.mem_of_getElem? (i := 2) rfl)))) (fun _ h9 => h9) rfl dX4_outputs_4 ?_
  have hP9 := hP.sub (ws' := [(g0, .inr (4, [.ref aM, .ref aP, .int st])), (aM, .inr (1, [.ref aW, .ref aT, .int cnt]))]) [0, 1] rfl
  have hD9 := hD.sub (ws' := [(g0, .inr (4, [.ref aM, .ref aP, .int st])), (aM, .inr (1, [.ref aW, .ref aT, .int cnt]))]) [0, 1] (by decide) rfl
  have hK9 := hK.sub (tys' := []) [] rfl
  exact W.iret (v := cnt) hx hb hr (fun t ht hW => ⟨⟨cnt, (), rfl, trivial, by rw [ht]; exact hP9, va_K.moved hW.alike hK9, hD9⟩, hS.F ht⟩) hS.2.2 dX4_outputs_7
set_option maxHeartbeats 4000000 in
set_option maxRecDepth 100000 in
theorem s_X4_output (l : Launch) (hl0 : l.stackTraces = false) (dC : Nat → ClassId) (dI : Nat → Nat → Nat) (sz : Nat) (g0 : Nat) (k : Int32) (aM : Nat) (aP : Nat) (st : Int32) (aW : Nat) (aT : Nat) (cnt : Int32) (cT : ClassId) (told : Nat → Int32) (h4 : ok4 cnt) : vx_Met l yX4_output wsX4_output ({ frames := 6, cells := 1, slots := 6, locals := 89 }) (va_Pc [.ref g0, .int k] (q_prx dC dI sz [(g0, .inr (4, [.ref aM, .ref aP, .int st])), (aM, .inr (1, [.ref aW, .ref aT, .int cnt])), (aT, .inl (cT, 400, .inl told))] [(cT, .int)])) (va_Qi (fun (r : Int32) (u9 : Unit) => True) (q_at dC dI (va_A [(g0, .inr (4, [.ref aM, .ref aP, .int st])), (aM, .inr (1, [.ref aW, .ref aT, .int cnt])), (aT, .inl (cT, 400, .inl told))] sz) (fun (u9 : Unit) => [(cT, .int)]) (fun (u9 : Unit) => [(g0, .inr (4, [.ref aM, .ref aP, .int st])), (aM, .inr (1, [.ref aW, .ref aT, .int cnt])), (aT, .inl (cT, 400, .inl told))])) (va_A [(g0, .inr (4, [.ref aM, .ref aP, .int st])), (aM, .inr (1, [.ref aW, .ref aT, .int cnt])), (aT, .inl (cT, 400, .inl told))] sz)) (vx_X (fun (_ : Unit) => True) (fun E9 _ _ => E9 = "java/lang/IndexOutOfBoundsException") (fun q => sz ≤ q)) 1 6 (va_A [(g0, .inr (4, [.ref aM, .ref aP, .int st])), (aM, .inr (1, [.ref aW, .ref aT, .int cnt])), (aT, .inl (cT, 400, .inl told))] sz) := by
  refine vx_ofW (cc := cX4_output) (maxL := 2) (ret := (some .int)) (by decide) rfl ?_
  intro p e s m args below meth c s₁ B hml htab hv
  obtain ⟨rfl, ⟨hsz, hP, hK, hD0, hN⟩, hT⟩ := hv
  have hx := B.exec
  have hb := B.bytes
  have hr := B.returns
  have hts := atoms_spec (ws := wsX4_output) B.pre
  have hown : s.vm.findClass RX4 = some m.cls := findClass_of_methodNamed B.named
  have hlocks := B.notSynchronized
  subst hsz
  have hD := hD0.self (sz := s.heap.size)
  generalize hAe : va_A [(g0, .inr (4, [.ref aM, .ref aP, .int st])), (aM, .inr (1, [.ref aW, .ref aT, .int cnt])), (aT, .inl (cT, 400, .inl told))] s.heap.size = A at hD hT ⊢
  have hA : ∀ q : Nat, s.heap.size ≤ q → A q := fun q h => by rw [← hAe]; exact Or.inr h
  have hS : va_S A s.heap s.heap [] := va_S.rf
  have hP : va_P (dC, dI) vwCl [(g0, .inr (4, [.ref aM, .ref aP, .int st])), (aM, .inr (1, [.ref aW, .ref aT, .int cnt])), (aT, .inl (cT, 400, .inl told))] s.heap := hP
  have hl := lv_entry ([.ref g0, .int k]) (n := 2) (Nat.le_of_ble_eq_true rfl)
  rw [lg_entry_eq]
  generalize (lg_sl ([.ref g0, .int k]) ++ List.replicate (2 - (lg_sl ([.ref g0, .int k])).length) Slot.unset).toArray = ls at hl ⊢
  have hl : lv_has ls 2 [(0, .ref g0), (1, .int k)] := hl
  refine lv_iload_n hx hb dX4_output_0 rfl (lv_at hl 1 rfl) ?_
  refine lv_if_lt (tgt := 15) hx hb dX4_output_1 (by decide) (fun c_1 => ?_) (fun c_1 => ?_)
  · refine vx_throw0 (names := ["java/lang/RuntimeException", "java/lang/Exception"]) (A := A) hx hb hl0 hown (by decide +kernel) (by decide +kernel) (hts (.classLink RX4 80 "java/lang/IndexOutOfBoundsException") (by decide +kernel)) (hts (.initialized "java/lang/IndexOutOfBoundsException") (by decide +kernel)) (vx_hat (B := q_nl) (fun w9 h9 => hts w9 (List.mem_cons_of_mem _ (List.mem_append_right _ h9))) (by decide +kernel) (fun w9 h9 => va_Nw.use (q_nl_on w9 h9) (hN w9 h9))) (by decide +kernel) hT.1 hT.2 hS (hl.1.trans hml.symm) dX4_output_15 dX4_output_18 dX4_output_19 dX4_output_22 (fun x9 h9 => (htab x9 h9).elim) (by decide) (by decide) (by decide) (by decide) hlocks (fun t9 hal hz9 hk9 => ⟨(), trivial, rfl, ⟨hz9, fun q h1 _ => hk9 q h1⟩⟩) hS.2.2 (by decide) (by decide)
  · refine lv_iload_n hx hb dX4_output_4 rfl (lv_at hl 1 rfl) ?_
    refine lv_aload_n hx hb dX4_output_5 rfl (lv_at hl 0 rfl) ?_
    refine va_get (D := (dC, dI)) (ci := 4) (v := .ref aM) (C := RX4) (T := TX4) (N := 3) hx hb hts (by decide +kernel) hown hK hP 0 rfl rfl 0 (by decide) (hts (.fieldLink RX4 12 "WordGuest" "memory" "LWordGuest$Memory;") (by decide +kernel)) (fun _ h9 => h9) rfl dX4_output_6 ?_
    refine va_getN (D := (dC, dI)) (ci := 1) (v := .int cnt) (C := RX1) (T := TX1) (N := 3) hx hb hts (by decide +kernel) hown hK hP 1 rfl rfl 2 (by decide) ((va_Nw.use rfl (hN _ (List.mem_of_getElem? (i := 2) rfl)))) (fun _ h9 => h9) rfl dX4_output_9 ?_
    refine lv_icmp_lt (tgt := 23) hx hb dX4_output_12 (by decide) (fun c_2 => ?_) (fun c_2 => ?_)
    · refine lv_aload_n hx hb dX4_output_23 rfl (lv_at hl 0 rfl) ?_
      refine va_get (D := (dC, dI)) (ci := 4) (v := .ref aM) (C := RX4) (T := TX4) (N := 3) hx hb hts (by decide +kernel) hown hK hP 0 rfl rfl 0 (by decide) (hts (.fieldLink RX4 12 "WordGuest" "memory" "LWordGuest$Memory;") (by decide +kernel)) (fun _ h9 => h9) rfl dX4_output_24 ?_
      refine va_getN (D := (dC, dI)) (ci := 1) (v := .ref aT) (C := RX1) (T := TX1) (N := 3) hx hb hts (by decide +kernel) hown hK hP 1 rfl rfl 1 (by decide) ((va_Nw.use rfl (hN _ (List.mem_of_getElem? (i := 1) rfl)))) (fun _ h9 => h9) rfl dX4_output_27 ?_
      refine lv_iload_n hx hb dX4_output_30 rfl (lv_at hl 1 rfl) ?_
      refine va_iald hx hb hK hP 2 0 rfl rfl (q_outin h4 c_1 c_2) dX4_output_31 ?_
      have hP9 := hP.sub (ws' := [(g0, .inr (4, [.ref aM, .ref aP, .int st])), (aM, .inr (1, [.ref aW, .ref aT, .int cnt])), (aT, .inl (cT, 400, .inl told))]) [0, 1, 2] rfl
      have hD9 := hD.sub (ws' := [(g0, .inr (4, [.ref aM, .ref aP, .int st])), (aM, .inr (1, [.ref aW, .ref aT, .int cnt])), (aT, .inl (cT, 400, .inl told))]) [0, 1, 2] (by decide) rfl
      have hK9 := hK.sub (tys' := [(cT, .int)]) [0] rfl
      refine vx_ret ?_
      refine W.widen (k := 1) (n := 6) (by omega) (by omega) ?_
      exact W.iret (v := told k.toNatClampNeg) hx hb hr (fun t ht hW => ⟨⟨told k.toNatClampNeg, (), rfl, trivial, by rw [ht]; exact hP9, va_K.moved hW.alike hK9, hD9⟩, hS.F ht⟩) hS.2.2 dX4_output_32
    · refine vx_throw0 (names := ["java/lang/RuntimeException", "java/lang/Exception"]) (A := A) hx hb hl0 hown (by decide +kernel) (by decide +kernel) (hts (.classLink RX4 80 "java/lang/IndexOutOfBoundsException") (by decide +kernel)) (hts (.initialized "java/lang/IndexOutOfBoundsException") (by decide +kernel)) (vx_hat (B := q_nl) (fun w9 h9 => hts w9 (List.mem_cons_of_mem _ (List.mem_append_right _ h9))) (by decide +kernel) (fun w9 h9 => va_Nw.use (q_nl_on w9 h9) (hN w9 h9))) (by decide +kernel) hT.1 hT.2 hS (hl.1.trans hml.symm) dX4_output_15 dX4_output_18 dX4_output_19 dX4_output_22 (fun x9 h9 => (htab x9 h9).elim) (by decide) (by decide) (by decide) (by decide) hlocks (fun t9 hal hz9 hk9 => ⟨(), trivial, rfl, ⟨hz9, fun q h1 _ => hk9 q h1⟩⟩) hS.2.2 (by decide) (by decide)
set_option maxHeartbeats 4000000 in
set_option maxRecDepth 100000 in
theorem s_X4_load (l : Launch) (hl0 : l.stackTraces = false) (dC : Nat → ClassId) (dI : Nat → Nat → Nat) (sz : Nat) (g0 : Nat) (pl : Int32) (a0 : Int32) (a1 : Int32) (a2 : Int32) (a3 : Int32) (a4 : Int32) (aM : Nat) (aP : Nat) (st : Int32) (aW : Nat) (aT : Nat) (cnt : Int32) (cW : ClassId) (words : Nat → Int32)  : vx_Met l yX4_load wsX4_load ({ frames := 7, cells := 1, slots := 6, locals := 110 }) (va_Pc [.ref g0, .int pl, .int a0, .int a1, .int a2, .int a3, .int a4] (q_prx dC dI sz [(g0, .inr (4, [.ref aM, .ref aP, .int st])), (aM, .inr (1, [.ref aW, .ref aT, .int cnt])), (aW, .inl (cW, 2048, .inl words))] [(cW, .int)])) (va_Qi (fun (r : Int32) (u9 : (Nat → Int32)) => (r = ct pl + ct (pl + 2) + (ct (pl + 4) + ct (pl + 4 + 2)) + (ct (pl + 8) + ct (pl + 8 + 2)) + (ct (pl + 12) + ct (pl + 12 + 2)) + (ct (pl + 16) + ct (pl + 16 + 2))) ∧ (fa pl 65535 = 0)) (q_at dC dI (va_A [(g0, .inr (4, [.ref aM, .ref aP, .int st])), (aM, .inr (1, [.ref aW, .ref aT, .int cnt])), (aW, .inl (cW, 2048, .inl words))] sz) (fun (u9 : (Nat → Int32)) => [(cW, .int)]) (fun (u9 : (Nat → Int32)) => [(g0, .inr (4, [.ref aM, .ref aP, .int st])), (aM, .inr (1, [.ref aW, .ref aT, .int cnt])), (aW, .inl (cW, 2048, .inl u9))])) (va_A [(g0, .inr (4, [.ref aM, .ref aP, .int st])), (aM, .inr (1, [.ref aW, .ref aT, .int cnt])), (aW, .inl (cW, 2048, .inl words))] sz)) (vx_X (fun (_ : Unit) => ¬ fa pl 65535 = 0) (fun E9 _ _ => E9 = "java/lang/IndexOutOfBoundsException") (fun q => sz ≤ q)) 1 6 (va_A [(g0, .inr (4, [.ref aM, .ref aP, .int st])), (aM, .inr (1, [.ref aW, .ref aT, .int cnt])), (aW, .inl (cW, 2048, .inl words))] sz) := by
  refine vx_ofW (cc := cX4_load) (maxL := 7) (ret := (some .int)) (by decide) rfl ?_
  intro p e s m args below meth c s₁ B hml htab hv
  obtain ⟨rfl, ⟨hsz, hP, hK, hD0, hN⟩, hT⟩ := hv
  have hx := B.exec
  have hb := B.bytes
  have hr := B.returns
  have hts := atoms_spec (ws := wsX4_load) B.pre
  have hown : s.vm.findClass RX4 = some m.cls := findClass_of_methodNamed B.named
  have hlocks := B.notSynchronized
  subst hsz
  have hD := hD0.self (sz := s.heap.size)
  generalize hAe : va_A [(g0, .inr (4, [.ref aM, .ref aP, .int st])), (aM, .inr (1, [.ref aW, .ref aT, .int cnt])), (aW, .inl (cW, 2048, .inl words))] s.heap.size = A at hD hT ⊢
  have hA : ∀ q : Nat, s.heap.size ≤ q → A q := fun q h => by rw [← hAe]; exact Or.inr h
  have hS : va_S A s.heap s.heap [] := va_S.rf
  have hP : va_P (dC, dI) vwCl [(g0, .inr (4, [.ref aM, .ref aP, .int st])), (aM, .inr (1, [.ref aW, .ref aT, .int cnt])), (aW, .inl (cW, 2048, .inl words))] s.heap := hP
  have hl := lv_entry ([.ref g0, .int pl, .int a0, .int a1, .int a2, .int a3, .int a4]) (n := 7) (Nat.le_of_ble_eq_true rfl)
  rw [lg_entry_eq]
  generalize (lg_sl ([.ref g0, .int pl, .int a0, .int a1, .int a2, .int a3, .int a4]) ++ List.replicate (7 - (lg_sl ([.ref g0, .int pl, .int a0, .int a1, .int a2, .int a3, .int a4])).length) Slot.unset).toArray = ls at hl ⊢
  have hl : lv_has ls 7 [(0, .ref g0), (1, .int pl), (2, .int a0), (3, .int a1), (4, .int a2), (5, .int a3), (6, .int a4)] := hl
  refine lv_aload_n hx hb dX4_load_0 rfl (lv_at hl 0 rfl) ?_
  refine lv_iload_n hx hb dX4_load_1 rfl (lv_at hl 1 rfl) ?_
  have hPc := hP.sub (ws' := [(g0, .inr (4, [.ref aM, .ref aP, .int st])), (aM, .inr (1, [.ref aW, .ref aT, .int cnt]))]) [0, 1] rfl
  have hDc := hD.sub (ws' := [(g0, .inr (4, [.ref aM, .ref aP, .int st])), (aM, .inr (1, [.ref aW, .ref aT, .int cnt]))]) [0, 1] (by decide) rfl
  have hKc := hK.sub (tys' := []) [] rfl
  have hFc := va_free (wc := [(g0, .inr (4, [.ref aM, .ref aP, .int st])), (aM, .inr (1, [.ref aW, .ref aT, .int cnt]))]) hD hS hA [0, 1] rfl
  refine vx_callv (vx_runV (C := RX4) (b := g0) (As := [.int pl]) (rest := []) ⟨hx, hb, hml, hown, hts⟩ (c_X4_needWordAt l hl0 dC dI s.heap.size g0 pl aM aP st aW aT cnt) (cwV 1 hts gX4_load_X4_needWordAt rfl rfl rfl (by decide +kernel) ⟨Nat.le_of_ble_eq_true rfl, Nat.le_of_ble_eq_true rfl⟩) ⟨q_blindx, va_recv hK hP (ci := 4) (q0 := 0) rfl rfl, fun U hU hW => ⟨rfl, q_payx hU hW hPc hKc hDc hN hT hS hFc⟩⟩ rfl rfl hl.1 rfl (lv_room (Nat.le_of_ble_eq_true rfl)) dX4_load_2 ⟨show 0 + 1 ≤ 1 from by omega, show 0 + 6 ≤ 6 from by omega⟩) hS (fun q _ h => hFc q h) hFc (fun q h1 h2 => absurd h1 (Nat.not_lt.mpr h2)) (fun E9 ce9 q9 u9 t H9 locs ht hvm hw hB hz1 hk1 hS hq9 hv9 hc9 => ?_) (fun u9 t H locs ht hvm hw_2 hB hz1 hk1 hS => ?_)
  · obtain rfl := hB
    try dsimp only at hw
    exact vx_out (fun x9 h9 => (htab x9 h9).elim) hlocks hq9 hv9 hc9 (fun t9 ht9 hal => ⟨(), hw, rfl, by rw [ht9]; exact hz1, fun q h1 h2 => by rw [ht9]; exact hk1 q h1 h2⟩) hS.2.2 (by decide) (by decide)
  obtain ⟨hP1, hK1, hD1⟩ := hB
  rw [ht] at hP1
  obtain ⟨hP, hD⟩ := va_join (wr := [(aW, .inl (cW, 2048, .inl words))]) (w1 := [(g0, .inr (4, [.ref aM, .ref aP, .int st])), (aM, .inr (1, [.ref aW, .ref aT, .int cnt]))]) hP hD [0, 1] [2] rfl rfl (by decide) (by decide) hk1 hFc hP1 hD1
  have hP : va_P (dC, dI) vwCl [(aW, .inl (cW, 2048, .inl words)), (g0, .inr (4, [.ref aM, .ref aP, .int st])), (aM, .inr (1, [.ref aW, .ref aT, .int cnt]))] H := hP
  have hD : va_D A [(aW, .inl (cW, 2048, .inl words)), (g0, .inr (4, [.ref aM, .ref aP, .int st])), (aM, .inr (1, [.ref aW, .ref aT, .int cnt]))] := hD
  refine W.widen (k := 1) (n := 6) (by omega) (by omega) ?_
  try dsimp only at hw_2
  refine lv_aload_n hx hb dX4_load_5 rfl (lv_at hl 0 rfl) ?_
  refine va_get (D := (dC, dI)) (ci := 4) (v := .ref aM) (C := RX4) (T := TX4) (N := 3) hx hb hts (by decide +kernel) hown hK hP 1 rfl rfl 0 (by decide) (hts (.fieldLink RX4 12 "WordGuest" "memory" "LWordGuest$Memory;") (by decide +kernel)) (fun _ h9 => h9) rfl dX4_load_6 ?_
  refine lv_iload_n hx hb dX4_load_9 rfl (lv_at hl 1 rfl) ?_
  refine lv_iload_n hx hb dX4_load_10 rfl (lv_at hl 2 rfl) ?_
  have hPc := hP.sub (ws' := [(aM, .inr (1, [.ref aW, .ref aT, .int cnt])), (aW, .inl (cW, 2048, .inl words))]) [2, 0] rfl
  have hDc := hD.sub (ws' := [(aM, .inr (1, [.ref aW, .ref aT, .int cnt])), (aW, .inl (cW, 2048, .inl words))]) [2, 0] (by decide) rfl
  have hKc := hK.sub (tys' := [(cW, .int)]) [0] rfl
  have hFc := va_free (wc := [(aM, .inr (1, [.ref aW, .ref aT, .int cnt])), (aW, .inl (cW, 2048, .inl words))]) hD hS hA [2, 0] rfl
  refine va_calli (va_runV (C := RX1) (b := aM) (As := [.int pl, .int a0]) (rest := []) ⟨hx, hb, hml, hown, hts⟩ (c_X1_setPair l dC dI H.size aM pl a0 aW aT cnt cW words) (cwV 2 hts gX4_load_X1_setPair rfl rfl rfl (by decide +kernel) ⟨Nat.le_of_ble_eq_true rfl, Nat.le_of_ble_eq_true rfl⟩) ⟨q_blind, va_recv hK hP (ci := 1) (q0 := 2) rfl rfl, fun U hU hW => ⟨rfl, q_pay hU hW hPc hKc hDc hN⟩⟩ rfl rfl hl.1 rfl (lv_room (Nat.le_of_ble_eq_true rfl)) dX4_load_11 ⟨show 1 + 0 ≤ 1 from by omega, show 6 + 0 ≤ 6 from by omega⟩) hS (fun q _ h => hFc q h) hFc (fun r_3 u9 t H locs ht hvm hw_4 hB hz1 hk1 hS => ?_)
  obtain ⟨words2_5, rfl⟩ : ∃ z, z = u9 := ⟨_, rfl⟩
  obtain ⟨hP1, hK1, hD1⟩ := hB
  rw [ht] at hP1
  obtain ⟨hP, hD⟩ := va_join (wr := [(g0, .inr (4, [.ref aM, .ref aP, .int st]))]) (w1 := [(aM, .inr (1, [.ref aW, .ref aT, .int cnt])), (aW, .inl (cW, 2048, .inl words2_5))]) hP hD [2, 0] [1] rfl rfl (by decide) (by decide) hk1 hFc hP1 hD1
  have hP : va_P (dC, dI) vwCl [(g0, .inr (4, [.ref aM, .ref aP, .int st])), (aM, .inr (1, [.ref aW, .ref aT, .int cnt])), (aW, .inl (cW, 2048, .inl words2_5))] H := hP
  have hD : va_D A [(g0, .inr (4, [.ref aM, .ref aP, .int st])), (aM, .inr (1, [.ref aW, .ref aT, .int cnt])), (aW, .inl (cW, 2048, .inl words2_5))] := hD
  refine W.widen (k := 1) (n := 6) (by omega) (by omega) ?_
  try dsimp only at hw_4
  obtain rfl := hw_4
  refine lv_aload_n hx hb dX4_load_14 rfl (lv_at hl 0 rfl) ?_
  refine va_get (D := (dC, dI)) (ci := 4) (v := .ref aM) (C := RX4) (T := TX4) (N := 3) hx hb hts (by decide +kernel) hown hK hP 0 rfl rfl 0 (by decide) (hts (.fieldLink RX4 12 "WordGuest" "memory" "LWordGuest$Memory;") (by decide +kernel)) (fun _ h9 => h9) rfl dX4_load_15 ?_
  refine lv_iload_n hx hb dX4_load_18 rfl (lv_at hl 1 rfl) ?_
  refine lv_iconst (v := 4) hx hb dX4_load_19 (by decide) ?_
  refine lv_iadd hx hb dX4_load_20 ?_
  refine lv_iload_n hx hb dX4_load_21 rfl (lv_at hl 3 rfl) ?_
  have hPc := hP.sub (ws' := [(aM, .inr (1, [.ref aW, .ref aT, .int cnt])), (aW, .inl (cW, 2048, .inl words2_5))]) [1, 2] rfl
  have hDc := hD.sub (ws' := [(aM, .inr (1, [.ref aW, .ref aT, .int cnt])), (aW, .inl (cW, 2048, .inl words2_5))]) [1, 2] (by decide) rfl
  have hKc := hK.sub (tys' := [(cW, .int)]) [0] rfl
  have hFc := va_free (wc := [(aM, .inr (1, [.ref aW, .ref aT, .int cnt])), (aW, .inl (cW, 2048, .inl words2_5))]) hD hS hA [1, 2] rfl
  refine va_calli (va_runV (C := RX1) (b := aM) (As := [.int (pl + 4), .int a1]) (rest := [.int (ct pl + ct (pl + 2))]) ⟨hx, hb, hml, hown, hts⟩ (c_X1_setPair l dC dI H.size aM (pl + 4) a1 aW aT cnt cW words2_5) (cwV 2 hts gX4_load_X1_setPair rfl rfl rfl (by decide +kernel) ⟨Nat.le_of_ble_eq_true rfl, Nat.le_of_ble_eq_true rfl⟩) ⟨q_blind, va_recv hK hP (ci := 1) (q0 := 1) rfl rfl, fun U hU hW => ⟨rfl, q_pay hU hW hPc hKc hDc hN⟩⟩ rfl rfl hl.1 rfl (lv_room (Nat.le_of_ble_eq_true rfl)) dX4_load_22 ⟨show 1 + 0 ≤ 1 from by omega, show 6 + 0 ≤ 6 from by omega⟩) hS (fun q _ h => hFc q h) hFc (fun r_6 u9 t H locs ht hvm hw_7 hB hz1 hk1 hS => ?_)
  obtain ⟨words2_8, rfl⟩ : ∃ z, z = u9 := ⟨_, rfl⟩
  obtain ⟨hP1, hK1, hD1⟩ := hB
  rw [ht] at hP1
  obtain ⟨hP, hD⟩ := va_join (wr := [(g0, .inr (4, [.ref aM, .ref aP, .int st]))]) (w1 := [(aM, .inr (1, [.ref aW, .ref aT, .int cnt])), (aW, .inl (cW, 2048, .inl words2_8))]) hP hD [1, 2] [0] rfl rfl (by decide) (by decide) hk1 hFc hP1 hD1
  have hP : va_P (dC, dI) vwCl [(g0, .inr (4, [.ref aM, .ref aP, .int st])), (aM, .inr (1, [.ref aW, .ref aT, .int cnt])), (aW, .inl (cW, 2048, .inl words2_8))] H := hP
  have hD : va_D A [(g0, .inr (4, [.ref aM, .ref aP, .int st])), (aM, .inr (1, [.ref aW, .ref aT, .int cnt])), (aW, .inl (cW, 2048, .inl words2_8))] := hD
  refine W.widen (k := 1) (n := 6) (by omega) (by omega) ?_
  try dsimp only at hw_7
  obtain rfl := hw_7
  refine lv_iadd hx hb dX4_load_25 ?_
  refine lv_aload_n hx hb dX4_load_26 rfl (lv_at hl 0 rfl) ?_
  refine va_get (D := (dC, dI)) (ci := 4) (v := .ref aM) (C := RX4) (T := TX4) (N := 3) hx hb hts (by decide +kernel) hown hK hP 0 rfl rfl 0 (by decide) (hts (.fieldLink RX4 12 "WordGuest" "memory" "LWordGuest$Memory;") (by decide +kernel)) (fun _ h9 => h9) rfl dX4_load_27 ?_
  refine lv_iload_n hx hb dX4_load_30 rfl (lv_at hl 1 rfl) ?_
  refine lv_bipush (v := 8) hx hb dX4_load_31 (by decide) ?_
  refine lv_iadd hx hb dX4_load_33 ?_
  refine lv_iload hx hb dX4_load_34 (lv_at hl 4 rfl) ?_
  have hPc := hP.sub (ws' := [(aM, .inr (1, [.ref aW, .ref aT, .int cnt])), (aW, .inl (cW, 2048, .inl words2_8))]) [1, 2] rfl
  have hDc := hD.sub (ws' := [(aM, .inr (1, [.ref aW, .ref aT, .int cnt])), (aW, .inl (cW, 2048, .inl words2_8))]) [1, 2] (by decide) rfl
  have hKc := hK.sub (tys' := [(cW, .int)]) [0] rfl
  have hFc := va_free (wc := [(aM, .inr (1, [.ref aW, .ref aT, .int cnt])), (aW, .inl (cW, 2048, .inl words2_8))]) hD hS hA [1, 2] rfl
  refine va_calli (va_runV (C := RX1) (b := aM) (As := [.int (pl + 8), .int a2]) (rest := [.int ((ct pl + ct (pl + 2)) + (ct (pl + 4) + ct ((pl + 4) + 2)))]) ⟨hx, hb, hml, hown, hts⟩ (c_X1_setPair l dC dI H.size aM (pl + 8) a2 aW aT cnt cW words2_8) (cwV 2 hts gX4_load_X1_setPair rfl rfl rfl (by decide +kernel) ⟨Nat.le_of_ble_eq_true rfl, Nat.le_of_ble_eq_true rfl⟩) ⟨q_blind, va_recv hK hP (ci := 1) (q0 := 1) rfl rfl, fun U hU hW => ⟨rfl, q_pay hU hW hPc hKc hDc hN⟩⟩ rfl rfl hl.1 rfl (lv_room (Nat.le_of_ble_eq_true rfl)) dX4_load_36 ⟨show 1 + 0 ≤ 1 from by omega, show 6 + 0 ≤ 6 from by omega⟩) hS (fun q _ h => hFc q h) hFc (fun r_9 u9 t H locs ht hvm hw_10 hB hz1 hk1 hS => ?_)
  obtain ⟨words2_11, rfl⟩ : ∃ z, z = u9 := ⟨_, rfl⟩
  obtain ⟨hP1, hK1, hD1⟩ := hB
  rw [ht] at hP1
  obtain ⟨hP, hD⟩ := va_join (wr := [(g0, .inr (4, [.ref aM, .ref aP, .int st]))]) (w1 := [(aM, .inr (1, [.ref aW, .ref aT, .int cnt])), (aW, .inl (cW, 2048, .inl words2_11))]) hP hD [1, 2] [0] rfl rfl (by decide) (by decide) hk1 hFc hP1 hD1
  have hP : va_P (dC, dI) vwCl [(g0, .inr (4, [.ref aM, .ref aP, .int st])), (aM, .inr (1, [.ref aW, .ref aT, .int cnt])), (aW, .inl (cW, 2048, .inl words2_11))] H := hP
  have hD : va_D A [(g0, .inr (4, [.ref aM, .ref aP, .int st])), (aM, .inr (1, [.ref aW, .ref aT, .int cnt])), (aW, .inl (cW, 2048, .inl words2_11))] := hD
  refine W.widen (k := 1) (n := 6) (by omega) (by omega) ?_
  try dsimp only at hw_10
  obtain rfl := hw_10
  refine lv_iadd hx hb dX4_load_39 ?_
  refine lv_aload_n hx hb dX4_load_40 rfl (lv_at hl 0 rfl) ?_
  refine va_get (D := (dC, dI)) (ci := 4) (v := .ref aM) (C := RX4) (T := TX4) (N := 3) hx hb hts (by decide +kernel) hown hK hP 0 rfl rfl 0 (by decide) (hts (.fieldLink RX4 12 "WordGuest" "memory" "LWordGuest$Memory;") (by decide +kernel)) (fun _ h9 => h9) rfl dX4_load_41 ?_
  refine lv_iload_n hx hb dX4_load_44 rfl (lv_at hl 1 rfl) ?_
  refine lv_bipush (v := 12) hx hb dX4_load_45 (by decide) ?_
  refine lv_iadd hx hb dX4_load_47 ?_
  refine lv_iload hx hb dX4_load_48 (lv_at hl 5 rfl) ?_
  have hPc := hP.sub (ws' := [(aM, .inr (1, [.ref aW, .ref aT, .int cnt])), (aW, .inl (cW, 2048, .inl words2_11))]) [1, 2] rfl
  have hDc := hD.sub (ws' := [(aM, .inr (1, [.ref aW, .ref aT, .int cnt])), (aW, .inl (cW, 2048, .inl words2_11))]) [1, 2] (by decide) rfl
  have hKc := hK.sub (tys' := [(cW, .int)]) [0] rfl
  have hFc := va_free (wc := [(aM, .inr (1, [.ref aW, .ref aT, .int cnt])), (aW, .inl (cW, 2048, .inl words2_11))]) hD hS hA [1, 2] rfl
  refine va_calli (va_runV (C := RX1) (b := aM) (As := [.int (pl + 12), .int a3]) (rest := [.int (((ct pl + ct (pl + 2)) + (ct (pl + 4) + ct ((pl + 4) + 2))) + (ct (pl + 8) + ct ((pl + 8) + 2)))]) ⟨hx, hb, hml, hown, hts⟩ (c_X1_setPair l dC dI H.size aM (pl + 12) a3 aW aT cnt cW words2_11) (cwV 2 hts gX4_load_X1_setPair rfl rfl rfl (by decide +kernel) ⟨Nat.le_of_ble_eq_true rfl, Nat.le_of_ble_eq_true rfl⟩) ⟨q_blind, va_recv hK hP (ci := 1) (q0 := 1) rfl rfl, fun U hU hW => ⟨rfl, q_pay hU hW hPc hKc hDc hN⟩⟩ rfl rfl hl.1 rfl (lv_room (Nat.le_of_ble_eq_true rfl)) dX4_load_50 ⟨show 1 + 0 ≤ 1 from by omega, show 6 + 0 ≤ 6 from by omega⟩) hS (fun q _ h => hFc q h) hFc (fun r_12 u9 t H locs ht hvm hw_13 hB hz1 hk1 hS => ?_)
  obtain ⟨words2_14, rfl⟩ : ∃ z, z = u9 := ⟨_, rfl⟩
  obtain ⟨hP1, hK1, hD1⟩ := hB
  rw [ht] at hP1
  obtain ⟨hP, hD⟩ := va_join (wr := [(g0, .inr (4, [.ref aM, .ref aP, .int st]))]) (w1 := [(aM, .inr (1, [.ref aW, .ref aT, .int cnt])), (aW, .inl (cW, 2048, .inl words2_14))]) hP hD [1, 2] [0] rfl rfl (by decide) (by decide) hk1 hFc hP1 hD1
  have hP : va_P (dC, dI) vwCl [(g0, .inr (4, [.ref aM, .ref aP, .int st])), (aM, .inr (1, [.ref aW, .ref aT, .int cnt])), (aW, .inl (cW, 2048, .inl words2_14))] H := hP
  have hD : va_D A [(g0, .inr (4, [.ref aM, .ref aP, .int st])), (aM, .inr (1, [.ref aW, .ref aT, .int cnt])), (aW, .inl (cW, 2048, .inl words2_14))] := hD
  refine W.widen (k := 1) (n := 6) (by omega) (by omega) ?_
  try dsimp only at hw_13
  obtain rfl := hw_13
  refine lv_iadd hx hb dX4_load_53 ?_
  refine lv_aload_n hx hb dX4_load_54 rfl (lv_at hl 0 rfl) ?_
  refine va_get (D := (dC, dI)) (ci := 4) (v := .ref aM) (C := RX4) (T := TX4) (N := 3) hx hb hts (by decide +kernel) hown hK hP 0 rfl rfl 0 (by decide) (hts (.fieldLink RX4 12 "WordGuest" "memory" "LWordGuest$Memory;") (by decide +kernel)) (fun _ h9 => h9) rfl dX4_load_55 ?_
  refine lv_iload_n hx hb dX4_load_58 rfl (lv_at hl 1 rfl) ?_
  refine lv_bipush (v := 16) hx hb dX4_load_59 (by decide) ?_
  refine lv_iadd hx hb dX4_load_61 ?_
  refine lv_iload hx hb dX4_load_62 (lv_at hl 6 rfl) ?_
  have hPc := hP.sub (ws' := [(aM, .inr (1, [.ref aW, .ref aT, .int cnt])), (aW, .inl (cW, 2048, .inl words2_14))]) [1, 2] rfl
  have hDc := hD.sub (ws' := [(aM, .inr (1, [.ref aW, .ref aT, .int cnt])), (aW, .inl (cW, 2048, .inl words2_14))]) [1, 2] (by decide) rfl
  have hKc := hK.sub (tys' := [(cW, .int)]) [0] rfl
  have hFc := va_free (wc := [(aM, .inr (1, [.ref aW, .ref aT, .int cnt])), (aW, .inl (cW, 2048, .inl words2_14))]) hD hS hA [1, 2] rfl
  refine va_calli (va_runV (C := RX1) (b := aM) (As := [.int (pl + 16), .int a4]) (rest := [.int ((((ct pl + ct (pl + 2)) + (ct (pl + 4) + ct ((pl + 4) + 2))) + (ct (pl + 8) + ct ((pl + 8) + 2))) + (ct (pl + 12) + ct ((pl + 12) + 2)))]) ⟨hx, hb, hml, hown, hts⟩ (c_X1_setPair l dC dI H.size aM (pl + 16) a4 aW aT cnt cW words2_14) (cwV 2 hts gX4_load_X1_setPair rfl rfl rfl (by decide +kernel) ⟨Nat.le_of_ble_eq_true rfl, Nat.le_of_ble_eq_true rfl⟩) ⟨q_blind, va_recv hK hP (ci := 1) (q0 := 1) rfl rfl, fun U hU hW => ⟨rfl, q_pay hU hW hPc hKc hDc hN⟩⟩ rfl rfl hl.1 rfl (lv_room (Nat.le_of_ble_eq_true rfl)) dX4_load_64 ⟨show 1 + 0 ≤ 1 from by omega, show 6 + 0 ≤ 6 from by omega⟩) hS (fun q _ h => hFc q h) hFc (fun r_15 u9 t H locs ht hvm hw_16 hB hz1 hk1 hS => ?_)
  obtain ⟨words2_17, rfl⟩ : ∃ z, z = u9 := ⟨_, rfl⟩
  obtain ⟨hP1, hK1, hD1⟩ := hB
  rw [ht] at hP1
  obtain ⟨hP, hD⟩ := va_join (wr := [(g0, .inr (4, [.ref aM, .ref aP, .int st]))]) (w1 := [(aM, .inr (1, [.ref aW, .ref aT, .int cnt])), (aW, .inl (cW, 2048, .inl words2_17))]) hP hD [1, 2] [0] rfl rfl (by decide) (by decide) hk1 hFc hP1 hD1
  have hP : va_P (dC, dI) vwCl [(g0, .inr (4, [.ref aM, .ref aP, .int st])), (aM, .inr (1, [.ref aW, .ref aT, .int cnt])), (aW, .inl (cW, 2048, .inl words2_17))] H := hP
  have hD : va_D A [(g0, .inr (4, [.ref aM, .ref aP, .int st])), (aM, .inr (1, [.ref aW, .ref aT, .int cnt])), (aW, .inl (cW, 2048, .inl words2_17))] := hD
  refine W.widen (k := 1) (n := 6) (by omega) (by omega) ?_
  try dsimp only at hw_16
  obtain rfl := hw_16
  refine lv_iadd hx hb dX4_load_67 ?_
  have hP9 := hP.sub (ws' := [(g0, .inr (4, [.ref aM, .ref aP, .int st])), (aM, .inr (1, [.ref aW, .ref aT, .int cnt])), (aW, .inl (cW, 2048, .inl words2_17))]) [0, 1, 2] rfl
  have hD9 := hD.sub (ws' := [(g0, .inr (4, [.ref aM, .ref aP, .int st])), (aM, .inr (1, [.ref aW, .ref aT, .int cnt])), (aW, .inl (cW, 2048, .inl words2_17))]) [0, 1, 2] (by decide) rfl
  have hK9 := hK.sub (tys' := [(cW, .int)]) [0] rfl
  refine vx_ret ?_
  exact W.iret (v := ((((ct pl + ct (pl + 2)) + (ct (pl + 4) + ct ((pl + 4) + 2))) + (ct (pl + 8) + ct ((pl + 8) + 2))) + (ct (pl + 12) + ct ((pl + 12) + 2))) + (ct (pl + 16) + ct ((pl + 16) + 2))) hx hb hr (fun t ht hW => ⟨⟨((((ct pl + ct (pl + 2)) + (ct (pl + 4) + ct ((pl + 4) + 2))) + (ct (pl + 8) + ct ((pl + 8) + 2))) + (ct (pl + 12) + ct ((pl + 12) + 2))) + (ct (pl + 16) + ct ((pl + 16) + 2)), words2_17, rfl, ⟨rfl, hw_2⟩, by rw [ht]; exact hP9, va_K.moved hW.alike hK9, hD9⟩, hS.F ht⟩) hS.2.2 dX4_load_68
