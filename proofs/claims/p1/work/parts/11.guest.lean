theorem q_in8 {k : Int32} (h1 : ¬ k < 0) (h2 : k < 8) : vp_in k 8 := by
  rw [vp_in_iff]
  have a := Int32.not_lt.mp h1
  simp only [Int32.le_iff_toInt_le, Int32.lt_iff_toInt_lt] at a h2
  exact ⟨by simpa using a, by simpa using h2⟩
theorem q_n8a {k : Int32} (h1 : k < 0) : ¬ vp_in k 8 := fun h => h (Or.inl h1)
theorem q_n8b {k : Int32} (h2 : ¬ k < 8) : ¬ vp_in k 8 := by
  rw [vp_in_iff]
  intro h
  apply h2
  simp only [Int32.lt_iff_toInt_lt]
  simpa using h.2
theorem q_nA {sz q : Nat} (h : ¬ sz ≤ q) : ¬ va_A [] sz q := fun h1 => h1.elim (fun ⟨k, e, h2⟩ => by simp at h2) h
set_option maxHeartbeats 4000000 in
set_option maxRecDepth 100000 in
theorem c_X4_needWordAt (l : Launch) (hl0 : l.stackTraces = false) (dC : Nat → ClassId) (dI : Nat → Nat → Nat) (sz : Nat) (g0 : Nat) (aM : Nat) (aP : Nat) (st : Int32) (aW : Nat) (aT : Nat) (cnt : Int32) (pl : Int32)  : vx_Met l yX4_needWordAt wsX4_needWordAt ({ frames := 6, cells := 1, slots := 6, locals := 89 }) (va_Pc [.ref g0, .int pl] (q_prx dC dI sz [(g0, .inr (4, [.ref aM, .ref aP, .int st])), (aM, .inr (1, [.ref aW, .ref aT, .int cnt]))] [])) (va_Qv (fun (u9 : Unit) => fa pl 65535 = 0) (q_at dC dI (va_A [(g0, .inr (4, [.ref aM, .ref aP, .int st])), (aM, .inr (1, [.ref aW, .ref aT, .int cnt]))] sz) (fun (u9 : Unit) => []) (fun (u9 : Unit) => [(g0, .inr (4, [.ref aM, .ref aP, .int st])), (aM, .inr (1, [.ref aW, .ref aT, .int cnt]))])) (va_A [(g0, .inr (4, [.ref aM, .ref aP, .int st])), (aM, .inr (1, [.ref aW, .ref aT, .int cnt]))] sz)) (vx_X (fun (_ : Unit) => ¬ fa pl 65535 = 0) (fun E9 _ _ => E9 = "java/lang/IndexOutOfBoundsException") (fun q => sz ≤ q)) 1 6 (va_A [(g0, .inr (4, [.ref aM, .ref aP, .int st])), (aM, .inr (1, [.ref aW, .ref aT, .int cnt]))] sz) := by
  refine vx_ofW (cc := cX4_needWordAt) (maxL := 2) (ret := none) (by decide) rfl ?_
  intro p e s m args below meth c s₁ B hml htab hv
  obtain ⟨rfl, ⟨hsz, hP, hK, hD0, hN⟩, hT⟩ := hv
  have hx := B.exec
  have hb := B.bytes
  have hr := B.returns
  have hts := atoms_spec (ws := wsX4_needWordAt) B.pre
  have hown : s.vm.findClass RX4 = some m.cls := findClass_of_methodNamed B.named
  have hlocks := B.notSynchronized
  subst hsz
  have hD := hD0.self (sz := s.heap.size)
  generalize hAe : va_A [(g0, .inr (4, [.ref aM, .ref aP, .int st])), (aM, .inr (1, [.ref aW, .ref aT, .int cnt]))] s.heap.size = A at hD hT ⊢
  have hA : ∀ q : Nat, s.heap.size ≤ q → A q := fun q h => by rw [← hAe]; exact Or.inr h
  have hS : va_S A s.heap s.heap [] := va_S.rf
  have hP : va_P (dC, dI) vwCl [(g0, .inr (4, [.ref aM, .ref aP, .int st])), (aM, .inr (1, [.ref aW, .ref aT, .int cnt]))] s.heap := hP
  have hl := lv_entry ([.ref g0, .int pl]) (n := 2) (Nat.le_of_ble_eq_true rfl)
  rw [lg_entry_eq]
  generalize (lg_sl ([.ref g0, .int pl]) ++ List.replicate (2 - (lg_sl ([.ref g0, .int pl])).length) Slot.unset).toArray = ls at hl ⊢
  have hl : lv_has ls 2 [(0, .ref g0), (1, .int pl)] := hl
  refine lv_aload_n hx hb dX4_needWordAt_0 rfl (lv_at hl 0 rfl) ?_
  refine va_get (D := (dC, dI)) (ci := 4) (v := .ref aM) (C := RX4) (T := TX4) (N := 3) hx hb hts (by decide +kernel) hown hK hP 0 rfl rfl 0 (by decide) (hts (.fieldLink RX4 12 "WordGuest" "memory" "LWordGuest$Memory;") (by decide +kernel)) (fun _ h9 => h9) rfl dX4_needWordAt_1 ?_
  refine lv_iload_n hx hb dX4_needWordAt_4 rfl (lv_at hl 1 rfl) ?_
  refine lv_ldc (v := 65535) hx hb hown (hts (.constant RX4 33 (65535)) (by decide +kernel)) dX4_needWordAt_5 ?_
  have hPc := hP.sub (ws' := []) [] rfl
  have hDc := hD.sub (ws' := []) [] (by decide) rfl
  have hKc := hK.sub (tys' := []) [] rfl
  have hFc := va_free (wc := []) hD hS hA [] rfl
  refine va_calli (va_runV (C := RX1) (b := aM) (As := [.int pl, .int 65535]) (rest := []) ⟨hx, hb, hml, hown, hts⟩ (c_X1_faultAt l dC dI s.heap.size aM pl (65535 : Int32)) (cwV 2 hts gX4_needWordAt_X1_faultAt rfl rfl rfl (by decide +kernel) ⟨Nat.le_of_ble_eq_true rfl, Nat.le_of_ble_eq_true rfl⟩) ⟨q_blind, va_recv hK hP (ci := 1) (q0 := 1) rfl rfl, fun U hU hW => ⟨rfl, q_pay hU hW hPc hKc hDc hN⟩⟩ rfl rfl hl.1 rfl (lv_room (Nat.le_of_ble_eq_true rfl)) dX4_needWordAt_7 ⟨show 0 + 0 ≤ 1 from by omega, show 0 + 0 ≤ 6 from by omega⟩) hS (fun q _ h => hFc q h) hFc (fun r_1 u9 t H locs ht hvm hw_2 hB hz1 hk1 hS => ?_)
  obtain ⟨hP1, hK1, hD1⟩ := hB
  rw [ht] at hP1
  obtain ⟨hP, hD⟩ := va_join (wr := [(g0, .inr (4, [.ref aM, .ref aP, .int st])), (aM, .inr (1, [.ref aW, .ref aT, .int cnt]))]) (w1 := []) hP hD [] [0, 1] rfl rfl (by decide) (by decide) hk1 hFc hP1 hD1
  have hP : va_P (dC, dI) vwCl [(g0, .inr (4, [.ref aM, .ref aP, .int st])), (aM, .inr (1, [.ref aW, .ref aT, .int cnt]))] H := hP
  have hD : va_D A [(g0, .inr (4, [.ref aM, .ref aP, .int st])), (aM, .inr (1, [.ref aW, .ref aT, .int cnt]))] := hD
  refine W.widen (k := 0) (n := 0) (by omega) (by omega) ?_
  try dsimp only at hw_2
  obtain rfl := hw_2
  refine lv_if_eq (tgt := 21) hx hb dX4_needWordAt_10 (by decide) (fun c_3 => ?_) (fun c_3 => ?_)
  · have hP9 := hP.sub (ws' := [(g0, .inr (4, [.ref aM, .ref aP, .int st])), (aM, .inr (1, [.ref aW, .ref aT, .int cnt]))]) [0, 1] rfl
    have hD9 := hD.sub (ws' := [(g0, .inr (4, [.ref aM, .ref aP, .int st])), (aM, .inr (1, [.ref aW, .ref aT, .int cnt]))]) [0, 1] (by decide) rfl
    have hK9 := hK.sub (tys' := []) [] rfl
    refine vx_ret ?_
    refine W.widen (k := 1) (n := 6) (by omega) (by omega) ?_
    exact W.vret hx hb hr (fun t ht hW => ⟨⟨(), rfl, c_3, by rw [ht]; exact hP9, va_K.moved hW.alike hK9, hD9⟩, hS.F ht⟩) hS.2.2 dX4_needWordAt_21
  · refine vx_throw0 (names := ["java/lang/RuntimeException", "java/lang/Exception"]) (A := A) hx hb hl0 hown (by decide +kernel) (by decide +kernel) (hts (.classLink RX4 80 "java/lang/IndexOutOfBoundsException") (by decide +kernel)) (hts (.initialized "java/lang/IndexOutOfBoundsException") (by decide +kernel)) (vx_hat (B := q_nl) (fun w9 h9 => hts w9 (List.mem_cons_of_mem _ (List.mem_append_right _ h9))) (by decide +kernel) (fun w9 h9 => va_Nw.use (q_nl_on w9 h9) (hN w9 h9))) (by decide +kernel) hT.1 hT.2 hS (hl.1.trans hml.symm) dX4_needWordAt_13 dX4_needWordAt_16 dX4_needWordAt_17 dX4_needWordAt_20 (fun x9 h9 => (htab x9 h9).elim) (by decide) (by decide) (by decide) (by decide) hlocks (fun t9 hal hz9 hk9 => ⟨(), c_3, rfl, ⟨Nat.le_trans hz1 hz9, fun q h1 h2 => (hk9 q (Nat.lt_of_lt_of_le h1 hz1)).trans (hk1 q h1 (q_nA h2))⟩⟩) hS.2.2 (by decide) (by decide)
set_option maxHeartbeats 4000000 in
set_option maxRecDepth 100000 in
theorem c_X4_needRegister (l : Launch) (hl0 : l.stackTraces = false) (dC : Nat → ClassId) (dI : Nat → Nat → Nat) (sz : Nat) (g0 : Nat) (k : Int32)  : vx_Met l yX4_needRegister wsX4_needRegister ({ frames := 6, cells := 1, slots := 6, locals := 89 }) (va_Pc [.ref g0, .int k] (q_prx dC dI sz [] [])) (va_Qv (fun (u9 : Unit) => vp_in k 8) (q_at dC dI (va_A [] sz) (fun (u9 : Unit) => []) (fun (u9 : Unit) => [])) (va_A [] sz)) (vx_X (fun (_ : Unit) => ¬ vp_in k 8) (fun E9 _ _ => E9 = "java/lang/IndexOutOfBoundsException") (fun q => sz ≤ q)) 1 6 (va_A [] sz) := by
  refine vx_ofW (cc := cX4_needRegister) (maxL := 2) (ret := none) (by decide) rfl ?_
  intro p e s m args below meth c s₁ B hml htab hv
  obtain ⟨rfl, ⟨hsz, hP, hK, hD0, hN⟩, hT⟩ := hv
  have hx := B.exec
  have hb := B.bytes
  have hr := B.returns
  have hts := atoms_spec (ws := wsX4_needRegister) B.pre
  have hown : s.vm.findClass RX4 = some m.cls := findClass_of_methodNamed B.named
  have hlocks := B.notSynchronized
  subst hsz
  have hD := hD0.self (sz := s.heap.size)
  generalize hAe : va_A [] s.heap.size = A at hD hT ⊢
  have hA : ∀ q : Nat, s.heap.size ≤ q → A q := fun q h => by rw [← hAe]; exact Or.inr h
  have hS : va_S A s.heap s.heap [] := va_S.rf
  have hP : va_P (dC, dI) vwCl [] s.heap := hP
  have hl := lv_entry ([.ref g0, .int k]) (n := 2) (Nat.le_of_ble_eq_true rfl)
  rw [lg_entry_eq]
  generalize (lg_sl ([.ref g0, .int k]) ++ List.replicate (2 - (lg_sl ([.ref g0, .int k])).length) Slot.unset).toArray = ls at hl ⊢
  have hl : lv_has ls 2 [(0, .ref g0), (1, .int k)] := hl
  refine lv_iload_n hx hb dX4_needRegister_0 rfl (lv_at hl 1 rfl) ?_
  refine lv_if_lt (tgt := 10) hx hb dX4_needRegister_1 (by decide) (fun c_1 => ?_) (fun c_1 => ?_)
  · refine vx_throw0 (names := ["java/lang/RuntimeException", "java/lang/Exception"]) (A := A) hx hb hl0 hown (by decide +kernel) (by decide +kernel) (hts (.classLink RX4 80 "java/lang/IndexOutOfBoundsException") (by decide +kernel)) (hts (.initialized "java/lang/IndexOutOfBoundsException") (by decide +kernel)) (vx_hat (B := q_nl) (fun w9 h9 => hts w9 (List.mem_cons_of_mem _ (List.mem_append_right _ h9))) (by decide +kernel) (fun w9 h9 => va_Nw.use (q_nl_on w9 h9) (hN w9 h9))) (by decide +kernel) hT.1 hT.2 hS (hl.1.trans hml.symm) dX4_needRegister_10 dX4_needRegister_13 dX4_needRegister_14 dX4_needRegister_17 (fun x9 h9 => (htab x9 h9).elim) (by decide) (by decide) (by decide) (by decide) hlocks (fun t9 hal hz9 hk9 => ⟨(), q_n8a c_1, rfl, ⟨hz9, fun q h1 _ => hk9 q h1⟩⟩) hS.2.2 (by decide) (by decide)
  · refine lv_iload_n hx hb dX4_needRegister_4 rfl (lv_at hl 1 rfl) ?_
    refine lv_bipush (v := 8) hx hb dX4_needRegister_5 (by decide) ?_
    refine lv_icmp_lt (tgt := 18) hx hb dX4_needRegister_7 (by decide) (fun c_2 => ?_) (fun c_2 => ?_)
    · have hP9 := hP.sub (ws' := []) [] rfl
      have hD9 := hD.sub (ws' := []) [] (by decide) rfl
      have hK9 := hK.sub (tys' := []) [] rfl
      refine vx_ret ?_
      refine W.widen (k := 1) (n := 6) (by omega) (by omega) ?_
      exact W.vret hx hb hr (fun t ht hW => ⟨⟨(), rfl, q_in8 c_1 c_2, by rw [ht]; exact hP9, va_K.moved hW.alike hK9, hD9⟩, hS.F ht⟩) hS.2.2 dX4_needRegister_18
    · refine vx_throw0 (names := ["java/lang/RuntimeException", "java/lang/Exception"]) (A := A) hx hb hl0 hown (by decide +kernel) (by decide +kernel) (hts (.classLink RX4 80 "java/lang/IndexOutOfBoundsException") (by decide +kernel)) (hts (.initialized "java/lang/IndexOutOfBoundsException") (by decide +kernel)) (vx_hat (B := q_nl) (fun w9 h9 => hts w9 (List.mem_cons_of_mem _ (List.mem_append_right _ h9))) (by decide +kernel) (fun w9 h9 => va_Nw.use (q_nl_on w9 h9) (hN w9 h9))) (by decide +kernel) hT.1 hT.2 hS (hl.1.trans hml.symm) dX4_needRegister_10 dX4_needRegister_13 dX4_needRegister_14 dX4_needRegister_17 (fun x9 h9 => (htab x9 h9).elim) (by decide) (by decide) (by decide) (by decide) hlocks (fun t9 hal hz9 hk9 => ⟨(), q_n8b c_2, rfl, ⟨hz9, fun q h1 _ => hk9 q h1⟩⟩) hS.2.2 (by decide) (by decide)
set_option maxHeartbeats 4000000 in
set_option maxRecDepth 100000 in
theorem c_X4_word0 (l : Launch) (hl0 : l.stackTraces = false) (dC : Nat → ClassId) (dI : Nat → Nat → Nat) (sz : Nat) (g0 : Nat) (aM : Nat) (aP : Nat) (st : Int32) (aW : Nat) (aT : Nat) (cnt : Int32) (cW : ClassId) (pl : Int32)  : vx_Met l yX4_word wsX4_word ({ frames := 7, cells := 1, slots := 6, locals := 110 }) (va_Pc [.ref g0, .int pl] (q_prx dC dI sz [(g0, .inr (4, [.ref aM, .ref aP, .int st])), (aM, .inr (1, [.ref aW, .ref aT, .int cnt])), (aW, .inl (cW, 2048, .inl (fun _ => 0)))] [(cW, .int)])) (va_Qi (fun (r : Int32) (u9 : Unit) => (r = 0) ∧ (fa pl 65535 = 0)) (q_at dC dI (va_A [(g0, .inr (4, [.ref aM, .ref aP, .int st])), (aM, .inr (1, [.ref aW, .ref aT, .int cnt])), (aW, .inl (cW, 2048, .inl (fun _ => 0)))] sz) (fun (u9 : Unit) => [(cW, .int)]) (fun (u9 : Unit) => [(g0, .inr (4, [.ref aM, .ref aP, .int st])), (aM, .inr (1, [.ref aW, .ref aT, .int cnt])), (aW, .inl (cW, 2048, .inl (fun _ => 0)))])) (va_A [(g0, .inr (4, [.ref aM, .ref aP, .int st])), (aM, .inr (1, [.ref aW, .ref aT, .int cnt])), (aW, .inl (cW, 2048, .inl (fun _ => 0)))] sz)) (vx_X (fun (_ : Unit) => ¬ fa pl 65535 = 0) (fun E9 _ _ => E9 = "java/lang/IndexOutOfBoundsException") (fun q => sz ≤ q)) 1 6 (va_A [(g0, .inr (4, [.ref aM, .ref aP, .int st])), (aM, .inr (1, [.ref aW, .ref aT, .int cnt])), (aW, .inl (cW, 2048, .inl (fun _ => 0)))] sz) := by
  refine vx_ofW (cc := cX4_word) (maxL := 2) (ret := (some .int)) (by decide) rfl ?_
  intro p e s m args below meth c s₁ B hml htab hv
  obtain ⟨rfl, ⟨hsz, hP, hK, hD0, hN⟩, hT⟩ := hv
  have hx := B.exec
  have hb := B.bytes
  have hr := B.returns
  have hts := atoms_spec (ws := wsX4_word) B.pre
  have hown : s.vm.findClass RX4 = some m.cls := findClass_of_methodNamed B.named
  have hlocks := B.notSynchronized
  subst hsz
  have hD := hD0.self (sz := s.heap.size)
  generalize hAe : va_A [(g0, .inr (4, [.ref aM, .ref aP, .int st])), (aM, .inr (1, [.ref aW, .ref aT, .int cnt])), (aW, .inl (cW, 2048, .inl (fun _ => 0)))] s.heap.size = A at hD hT ⊢
  have hA : ∀ q : Nat, s.heap.size ≤ q → A q := fun q h => by rw [← hAe]; exact Or.inr h
  have hS : va_S A s.heap s.heap [] := va_S.rf
  have hP : va_P (dC, dI) vwCl [(g0, .inr (4, [.ref aM, .ref aP, .int st])), (aM, .inr (1, [.ref aW, .ref aT, .int cnt])), (aW, .inl (cW, 2048, .inl (fun _ => 0)))] s.heap := hP
  have hl := lv_entry ([.ref g0, .int pl]) (n := 2) (Nat.le_of_ble_eq_true rfl)
  rw [lg_entry_eq]
  generalize (lg_sl ([.ref g0, .int pl]) ++ List.replicate (2 - (lg_sl ([.ref g0, .int pl])).length) Slot.unset).toArray = ls at hl ⊢
  have hl : lv_has ls 2 [(0, .ref g0), (1, .int pl)] := hl
  refine lv_aload_n hx hb dX4_word_0 rfl (lv_at hl 0 rfl) ?_
  refine lv_iload_n hx hb dX4_word_1 rfl (lv_at hl 1 rfl) ?_
  have hPc := hP.sub (ws' := [(g0, .inr (4, [.ref aM, .ref aP, .int st])), (aM, .inr (1, [.ref aW, .ref aT, .int cnt]))]) [0, 1] rfl
  have hDc := hD.sub (ws' := [(g0, .inr (4, [.ref aM, .ref aP, .int st])), (aM, .inr (1, [.ref aW, .ref aT, .int cnt]))]) [0, 1] (by decide) rfl
  have hKc := hK.sub (tys' := []) [] rfl
  have hFc := va_free (wc := [(g0, .inr (4, [.ref aM, .ref aP, .int st])), (aM, .inr (1, [.ref aW, .ref aT, .int cnt]))]) hD hS hA [0, 1] rfl
  refine vx_callv (vx_runV (C := RX4) (b := g0) (As := [.int pl]) (rest := []) ⟨hx, hb, hml, hown, hts⟩ (c_X4_needWordAt l hl0 dC dI s.heap.size g0 aM aP st aW aT cnt pl) (cwV 1 hts gX4_word_X4_needWordAt rfl rfl rfl (by decide +kernel) ⟨Nat.le_of_ble_eq_true rfl, Nat.le_of_ble_eq_true rfl⟩) ⟨q_blindx, va_recv hK hP (ci := 4) (q0 := 0) rfl rfl, fun U hU hW => ⟨rfl, q_payx hU hW hPc hKc hDc hN hT hS hFc⟩⟩ rfl rfl hl.1 rfl (lv_room (Nat.le_of_ble_eq_true rfl)) dX4_word_2 ⟨show 0 + 1 ≤ 1 from by omega, show 0 + 6 ≤ 6 from by omega⟩) hS (fun q _ h => hFc q h) hFc (fun q h1 h2 => absurd h1 (Nat.not_lt.mpr h2)) (fun E9 ce9 q9 u9 t H9 locs ht hvm hw hB hz1 hk1 hS hq9 hv9 hc9 => ?_) (fun u9 t H locs ht hvm hw_2 hB hz1 hk1 hS => ?_)
  · obtain rfl := hB
    try dsimp only at hw
    exact vx_out (fun x9 h9 => (htab x9 h9).elim) hlocks hq9 hv9 hc9 (fun t9 ht9 hal => ⟨(), hw, rfl, by rw [ht9]; exact hz1, fun q h1 h2 => by rw [ht9]; exact hk1 q h1 h2⟩) hS.2.2 (by decide) (by decide)
  obtain ⟨hP1, hK1, hD1⟩ := hB
  rw [ht] at hP1
  obtain ⟨hP, hD⟩ := va_join (wr := [(aW, .inl (cW, 2048, .inl (fun _ => 0)))]) (w1 := [(g0, .inr (4, [.ref aM, .ref aP, .int st])), (aM, .inr (1, [.ref aW, .ref aT, .int cnt]))]) hP hD [0, 1] [2] rfl rfl (by decide) (by decide) hk1 hFc hP1 hD1
  have hP : va_P (dC, dI) vwCl [(aW, .inl (cW, 2048, .inl (fun _ => 0))), (g0, .inr (4, [.ref aM, .ref aP, .int st])), (aM, .inr (1, [.ref aW, .ref aT, .int cnt]))] H := hP
  have hD : va_D A [(aW, .inl (cW, 2048, .inl (fun _ => 0))), (g0, .inr (4, [.ref aM, .ref aP, .int st])), (aM, .inr (1, [.ref aW, .ref aT, .int cnt]))] := hD
  refine W.widen (k := 1) (n := 6) (by omega) (by omega) ?_
  try dsimp only at hw_2
  refine lv_aload_n hx hb dX4_word_5 rfl (lv_at hl 0 rfl) ?_
  refine va_get (D := (dC, dI)) (ci := 4) (v := .ref aM) (C := RX4) (T := TX4) (N := 3) hx hb hts (by decide +kernel) hown hK hP 1 rfl rfl 0 (by decide) (hts (.fieldLink RX4 12 "WordGuest" "memory" "LWordGuest$Memory;") (by decide +kernel)) (fun _ h9 => h9) rfl dX4_word_6 ?_
  refine lv_iload_n hx hb dX4_word_9 rfl (lv_at hl 1 rfl) ?_
  refine lv_ldc (v := 65535) hx hb hown (hts (.constant RX4 33 (65535)) (by decide +kernel)) dX4_word_10 ?_
  have hPc := hP.sub (ws' := [(aM, .inr (1, [.ref aW, .ref aT, .int cnt])), (aW, .inl (cW, 2048, .inl (fun _ => 0)))]) [2, 0] rfl
  have hDc := hD.sub (ws' := [(aM, .inr (1, [.ref aW, .ref aT, .int cnt])), (aW, .inl (cW, 2048, .inl (fun _ => 0)))]) [2, 0] (by decide) rfl
  have hKc := hK.sub (tys' := [(cW, .int)]) [0] rfl
  have hFc := va_free (wc := [(aM, .inr (1, [.ref aW, .ref aT, .int cnt])), (aW, .inl (cW, 2048, .inl (fun _ => 0)))]) hD hS hA [2, 0] rfl
  refine va_calli (va_runV (C := RX1) (b := aM) (As := [.int pl, .int 65535]) (rest := []) ⟨hx, hb, hml, hown, hts⟩ (c_X1_valueAt l dC dI H.size aM aW aT cnt cW (fun _ => 0) pl (65535 : Int32)) (cwV 2 hts gX4_word_X1_valueAt rfl rfl rfl (by decide +kernel) ⟨Nat.le_of_ble_eq_true rfl, Nat.le_of_ble_eq_true rfl⟩) ⟨q_blind, va_recv hK hP (ci := 1) (q0 := 2) rfl rfl, fun U hU hW => ⟨rfl, q_pay hU hW hPc hKc hDc hN⟩⟩ rfl rfl hl.1 rfl (lv_room (Nat.le_of_ble_eq_true rfl)) dX4_word_12 ⟨show 1 + 0 ≤ 1 from by omega, show 6 + 0 ≤ 6 from by omega⟩) hS (fun q _ h => hFc q h) hFc (fun r_3 u9 t H locs ht hvm hw_4 hB hz1 hk1 hS => ?_)
  obtain ⟨hP1, hK1, hD1⟩ := hB
  rw [ht] at hP1
  obtain ⟨hP, hD⟩ := va_join (wr := [(g0, .inr (4, [.ref aM, .ref aP, .int st]))]) (w1 := [(aM, .inr (1, [.ref aW, .ref aT, .int cnt])), (aW, .inl (cW, 2048, .inl (fun _ => 0)))]) hP hD [2, 0] [1] rfl rfl (by decide) (by decide) hk1 hFc hP1 hD1
  have hP : va_P (dC, dI) vwCl [(g0, .inr (4, [.ref aM, .ref aP, .int st])), (aM, .inr (1, [.ref aW, .ref aT, .int cnt])), (aW, .inl (cW, 2048, .inl (fun _ => 0)))] H := hP
  have hD : va_D A [(g0, .inr (4, [.ref aM, .ref aP, .int st])), (aM, .inr (1, [.ref aW, .ref aT, .int cnt])), (aW, .inl (cW, 2048, .inl (fun _ => 0)))] := hD
  refine W.widen (k := 1) (n := 6) (by omega) (by omega) ?_
  try dsimp only at hw_4
  obtain rfl := hw_4
  refine q_toc (y := 0) (q_zw _ _) ?_
  have hP9 := hP.sub (ws' := [(g0, .inr (4, [.ref aM, .ref aP, .int st])), (aM, .inr (1, [.ref aW, .ref aT, .int cnt])), (aW, .inl (cW, 2048, .inl (fun _ => 0)))]) [0, 1, 2] rfl
  have hD9 := hD.sub (ws' := [(g0, .inr (4, [.ref aM, .ref aP, .int st])), (aM, .inr (1, [.ref aW, .ref aT, .int cnt])), (aW, .inl (cW, 2048, .inl (fun _ => 0)))]) [0, 1, 2] (by decide) rfl
  have hK9 := hK.sub (tys' := [(cW, .int)]) [0] rfl
  refine vx_ret ?_
  exact W.iret (v := 0) hx hb hr (fun t ht hW => ⟨⟨0, (), rfl, ⟨rfl, hw_2⟩, by rw [ht]; exact hP9, va_K.moved hW.alike hK9, hD9⟩, hS.F ht⟩) hS.2.2 dX4_word_15
set_option maxHeartbeats 4000000 in
set_option maxRecDepth 100000 in
theorem c_X4_poke0 (l : Launch) (hl0 : l.stackTraces = false) (dC : Nat → ClassId) (dI : Nat → Nat → Nat) (sz : Nat) (g0 : Nat) (aM : Nat) (aP : Nat) (st : Int32) (aW : Nat) (aT : Nat) (cnt : Int32) (cW : ClassId) (pl : Int32) (v : Int32)  : vx_Met l yX4_poke wsX4_poke ({ frames := 7, cells := 1, slots := 6, locals := 110 }) (va_Pc [.ref g0, .int pl, .int v] (q_prx dC dI sz [(g0, .inr (4, [.ref aM, .ref aP, .int st])), (aM, .inr (1, [.ref aW, .ref aT, .int cnt])), (aW, .inl (cW, 2048, .inl (fun _ => 0)))] [(cW, .int)])) (va_Qi (fun (r : Int32) (u9 : (Nat → Int32)) => (r = (if (0 : Int32) = v &&& 65535 then 0 else 1)) ∧ (fa pl 65535 = 0)) (q_at dC dI (va_A [(g0, .inr (4, [.ref aM, .ref aP, .int st])), (aM, .inr (1, [.ref aW, .ref aT, .int cnt])), (aW, .inl (cW, 2048, .inl (fun _ => 0)))] sz) (fun (u9 : (Nat → Int32)) => [(cW, .int)]) (fun (u9 : (Nat → Int32)) => [(g0, .inr (4, [.ref aM, .ref aP, .int st])), (aM, .inr (1, [.ref aW, .ref aT, .int cnt])), (aW, .inl (cW, 2048, .inl u9))])) (va_A [(g0, .inr (4, [.ref aM, .ref aP, .int st])), (aM, .inr (1, [.ref aW, .ref aT, .int cnt])), (aW, .inl (cW, 2048, .inl (fun _ => 0)))] sz)) (vx_X (fun (_ : Unit) => ¬ fa pl 65535 = 0) (fun E9 _ _ => E9 = "java/lang/IndexOutOfBoundsException") (fun q => sz ≤ q)) 1 6 (va_A [(g0, .inr (4, [.ref aM, .ref aP, .int st])), (aM, .inr (1, [.ref aW, .ref aT, .int cnt])), (aW, .inl (cW, 2048, .inl (fun _ => 0)))] sz) := by
  refine vx_ofW (cc := cX4_poke) (maxL := 4) (ret := (some .boolean)) (by decide) rfl ?_
  intro p e s m args below meth c s₁ B hml htab hv
  obtain ⟨rfl, ⟨hsz, hP, hK, hD0, hN⟩, hT⟩ := hv
  have hx := B.exec
  have hb := B.bytes
  have hr := B.returns
  have hts := atoms_spec (ws := wsX4_poke) B.pre
  have hown : s.vm.findClass RX4 = some m.cls := findClass_of_methodNamed B.named
  have hlocks := B.notSynchronized
  subst hsz
  have hD := hD0.self (sz := s.heap.size)
  generalize hAe : va_A [(g0, .inr (4, [.ref aM, .ref aP, .int st])), (aM, .inr (1, [.ref aW, .ref aT, .int cnt])), (aW, .inl (cW, 2048, .inl (fun _ => 0)))] s.heap.size = A at hD hT ⊢
  have hA : ∀ q : Nat, s.heap.size ≤ q → A q := fun q h => by rw [← hAe]; exact Or.inr h
  have hS : va_S A s.heap s.heap [] := va_S.rf
  have hP : va_P (dC, dI) vwCl [(g0, .inr (4, [.ref aM, .ref aP, .int st])), (aM, .inr (1, [.ref aW, .ref aT, .int cnt])), (aW, .inl (cW, 2048, .inl (fun _ => 0)))] s.heap := hP
  have hl := lv_entry ([.ref g0, .int pl, .int v]) (n := 4) (Nat.le_of_ble_eq_true rfl)
  rw [lg_entry_eq]
  generalize (lg_sl ([.ref g0, .int pl, .int v]) ++ List.replicate (4 - (lg_sl ([.ref g0, .int pl, .int v])).length) Slot.unset).toArray = ls at hl ⊢
  have hl : lv_has ls 4 [(0, .ref g0), (1, .int pl), (2, .int v)] := hl
  refine lv_aload_n hx hb dX4_poke_0 rfl (lv_at hl 0 rfl) ?_
  refine lv_iload_n hx hb dX4_poke_1 rfl (lv_at hl 1 rfl) ?_
  have hPc := hP.sub (ws' := [(g0, .inr (4, [.ref aM, .ref aP, .int st])), (aM, .inr (1, [.ref aW, .ref aT, .int cnt]))]) [0, 1] rfl
  have hDc := hD.sub (ws' := [(g0, .inr (4, [.ref aM, .ref aP, .int st])), (aM, .inr (1, [.ref aW, .ref aT, .int cnt]))]) [0, 1] (by decide) rfl
  have hKc := hK.sub (tys' := []) [] rfl
  have hFc := va_free (wc := [(g0, .inr (4, [.ref aM, .ref aP, .int st])), (aM, .inr (1, [.ref aW, .ref aT, .int cnt]))]) hD hS hA [0, 1] rfl
  refine vx_callv (vx_runV (C := RX4) (b := g0) (As := [.int pl]) (rest := []) ⟨hx, hb, hml, hown, hts⟩ (c_X4_needWordAt l hl0 dC dI s.heap.size g0 aM aP st aW aT cnt pl) (cwV 1 hts gX4_poke_X4_needWordAt rfl rfl rfl (by decide +kernel) ⟨Nat.le_of_ble_eq_true rfl, Nat.le_of_ble_eq_true rfl⟩) ⟨q_blindx, va_recv hK hP (ci := 4) (q0 := 0) rfl rfl, fun U hU hW => ⟨rfl, q_payx hU hW hPc hKc hDc hN hT hS hFc⟩⟩ rfl rfl hl.1 rfl (lv_room (Nat.le_of_ble_eq_true rfl)) dX4_poke_2 ⟨show 0 + 1 ≤ 1 from by omega, show 0 + 6 ≤ 6 from by omega⟩) hS (fun q _ h => hFc q h) hFc (fun q h1 h2 => absurd h1 (Nat.not_lt.mpr h2)) (fun E9 ce9 q9 u9 t H9 locs ht hvm hw hB hz1 hk1 hS hq9 hv9 hc9 => ?_) (fun u9 t H locs ht hvm hw_2 hB hz1 hk1 hS => ?_)
  · obtain rfl := hB
    try dsimp only at hw
    exact vx_out (fun x9 h9 => (htab x9 h9).elim) hlocks hq9 hv9 hc9 (fun t9 ht9 hal => ⟨(), hw, rfl, by rw [ht9]; exact hz1, fun q h1 h2 => by rw [ht9]; exact hk1 q h1 h2⟩) hS.2.2 (by decide) (by decide)
  obtain ⟨hP1, hK1, hD1⟩ := hB
  rw [ht] at hP1
  obtain ⟨hP, hD⟩ := va_join (wr := [(aW, .inl (cW, 2048, .inl (fun _ => 0)))]) (w1 := [(g0, .inr (4, [.ref aM, .ref aP, .int st])), (aM, .inr (1, [.ref aW, .ref aT, .int cnt]))]) hP hD [0, 1] [2] rfl rfl (by decide) (by decide) hk1 hFc hP1 hD1
  have hP : va_P (dC, dI) vwCl [(aW, .inl (cW, 2048, .inl (fun _ => 0))), (g0, .inr (4, [.ref aM, .ref aP, .int st])), (aM, .inr (1, [.ref aW, .ref aT, .int cnt]))] H := hP
  have hD : va_D A [(aW, .inl (cW, 2048, .inl (fun _ => 0))), (g0, .inr (4, [.ref aM, .ref aP, .int st])), (aM, .inr (1, [.ref aW, .ref aT, .int cnt]))] := hD
  refine W.widen (k := 1) (n := 6) (by omega) (by omega) ?_
  try dsimp only at hw_2
  refine lv_aload_n hx hb dX4_poke_5 rfl (lv_at hl 0 rfl) ?_
  refine va_get (D := (dC, dI)) (ci := 4) (v := .ref aM) (C := RX4) (T := TX4) (N := 3) hx hb hts (by decide +kernel) hown hK hP 1 rfl rfl 0 (by decide) (hts (.fieldLink RX4 12 "WordGuest" "memory" "LWordGuest$Memory;") (by decide +kernel)) (fun _ h9 => h9) rfl dX4_poke_6 ?_
  refine lv_iload_n hx hb dX4_poke_9 rfl (lv_at hl 1 rfl) ?_
  refine lv_ldc (v := 65535) hx hb hown (hts (.constant RX4 33 (65535)) (by decide +kernel)) dX4_poke_10 ?_
  have hPc := hP.sub (ws' := [(aM, .inr (1, [.ref aW, .ref aT, .int cnt])), (aW, .inl (cW, 2048, .inl (fun _ => 0)))]) [2, 0] rfl
  have hDc := hD.sub (ws' := [(aM, .inr (1, [.ref aW, .ref aT, .int cnt])), (aW, .inl (cW, 2048, .inl (fun _ => 0)))]) [2, 0] (by decide) rfl
  have hKc := hK.sub (tys' := [(cW, .int)]) [0] rfl
  have hFc := va_free (wc := [(aM, .inr (1, [.ref aW, .ref aT, .int cnt])), (aW, .inl (cW, 2048, .inl (fun _ => 0)))]) hD hS hA [2, 0] rfl
  refine va_calli (va_runV (C := RX1) (b := aM) (As := [.int pl, .int 65535]) (rest := []) ⟨hx, hb, hml, hown, hts⟩ (c_X1_valueAt l dC dI H.size aM aW aT cnt cW (fun _ => 0) pl (65535 : Int32)) (cwV 2 hts gX4_poke_X1_valueAt rfl rfl rfl (by decide +kernel) ⟨Nat.le_of_ble_eq_true rfl, Nat.le_of_ble_eq_true rfl⟩) ⟨q_blind, va_recv hK hP (ci := 1) (q0 := 2) rfl rfl, fun U hU hW => ⟨rfl, q_pay hU hW hPc hKc hDc hN⟩⟩ rfl rfl hl.1 rfl (lv_room (Nat.le_of_ble_eq_true rfl)) dX4_poke_12 ⟨show 1 + 0 ≤ 1 from by omega, show 6 + 0 ≤ 6 from by omega⟩) hS (fun q _ h => hFc q h) hFc (fun r_3 u9 t H locs ht hvm hw_4 hB hz1 hk1 hS => ?_)
  obtain ⟨hP1, hK1, hD1⟩ := hB
  rw [ht] at hP1
  obtain ⟨hP, hD⟩ := va_join (wr := [(g0, .inr (4, [.ref aM, .ref aP, .int st]))]) (w1 := [(aM, .inr (1, [.ref aW, .ref aT, .int cnt])), (aW, .inl (cW, 2048, .inl (fun _ => 0)))]) hP hD [2, 0] [1] rfl rfl (by decide) (by decide) hk1 hFc hP1 hD1
  have hP : va_P (dC, dI) vwCl [(g0, .inr (4, [.ref aM, .ref aP, .int st])), (aM, .inr (1, [.ref aW, .ref aT, .int cnt])), (aW, .inl (cW, 2048, .inl (fun _ => 0)))] H := hP
  have hD : va_D A [(g0, .inr (4, [.ref aM, .ref aP, .int st])), (aM, .inr (1, [.ref aW, .ref aT, .int cnt])), (aW, .inl (cW, 2048, .inl (fun _ => 0)))] := hD
  refine W.widen (k := 1) (n := 6) (by omega) (by omega) ?_
  try dsimp only at hw_4
  obtain rfl := hw_4
  refine q_toc (y := 0) (q_zw _ _) ?_
  refine lv_istore_n (lv' := [(3, .int 0), (0, .ref g0), (1, .int pl), (2, .int v)]) hx hb dX4_poke_15 rfl hl (by decide) rfl (fun ls hl => ?_)
  refine lv_aload_n hx hb dX4_poke_16 rfl (lv_at hl 1 rfl) ?_
  refine va_get (D := (dC, dI)) (ci := 4) (v := .ref aM) (C := RX4) (T := TX4) (N := 3) hx hb hts (by decide +kernel) hown hK hP 0 rfl rfl 0 (by decide) (hts (.fieldLink RX4 12 "WordGuest" "memory" "LWordGuest$Memory;") (by decide +kernel)) (fun _ h9 => h9) rfl dX4_poke_17 ?_
  refine lv_iload_n hx hb dX4_poke_20 rfl (lv_at hl 2 rfl) ?_
  refine lv_iload_n hx hb dX4_poke_21 rfl (lv_at hl 3 rfl) ?_
  have hPc := hP.sub (ws' := [(aM, .inr (1, [.ref aW, .ref aT, .int cnt])), (aW, .inl (cW, 2048, .inl (fun _ => 0)))]) [1, 2] rfl
  have hDc := hD.sub (ws' := [(aM, .inr (1, [.ref aW, .ref aT, .int cnt])), (aW, .inl (cW, 2048, .inl (fun _ => 0)))]) [1, 2] (by decide) rfl
  have hKc := hK.sub (tys' := [(cW, .int)]) [0] rfl
  have hFc := va_free (wc := [(aM, .inr (1, [.ref aW, .ref aT, .int cnt])), (aW, .inl (cW, 2048, .inl (fun _ => 0)))]) hD hS hA [1, 2] rfl
  refine va_callv (va_runV (C := RX1) (b := aM) (As := [.int pl, .int v]) (rest := []) ⟨hx, hb, hml, hown, hts⟩ (c_X1_setWord l dC dI H.size aM aW aT cnt cW (fun _ => 0) pl v) (cwV 2 hts gX4_poke_X1_setWord rfl rfl rfl (by decide +kernel) ⟨Nat.le_of_ble_eq_true rfl, Nat.le_of_ble_eq_true rfl⟩) ⟨q_blind, va_recv hK hP (ci := 1) (q0 := 1) rfl rfl, fun U hU hW => ⟨rfl, q_pay hU hW hPc hKc hDc hN⟩⟩ rfl rfl hl.1 rfl (lv_room (Nat.le_of_ble_eq_true rfl)) dX4_poke_22 ⟨show 1 + 0 ≤ 1 from by omega, show 6 + 0 ≤ 6 from by omega⟩) hS (fun q _ h => hFc q h) hFc (fun u9 t H locs ht hvm hw_6 hB hz1 hk1 hS => ?_)
  obtain ⟨words2_7, rfl⟩ : ∃ z, z = u9 := ⟨_, rfl⟩
  obtain ⟨hP1, hK1, hD1⟩ := hB
  rw [ht] at hP1
  obtain ⟨hP, hD⟩ := va_join (wr := [(g0, .inr (4, [.ref aM, .ref aP, .int st]))]) (w1 := [(aM, .inr (1, [.ref aW, .ref aT, .int cnt])), (aW, .inl (cW, 2048, .inl words2_7))]) hP hD [1, 2] [0] rfl rfl (by decide) (by decide) hk1 hFc hP1 hD1
  have hP : va_P (dC, dI) vwCl [(g0, .inr (4, [.ref aM, .ref aP, .int st])), (aM, .inr (1, [.ref aW, .ref aT, .int cnt])), (aW, .inl (cW, 2048, .inl words2_7))] H := hP
  have hD : va_D A [(g0, .inr (4, [.ref aM, .ref aP, .int st])), (aM, .inr (1, [.ref aW, .ref aT, .int cnt])), (aW, .inl (cW, 2048, .inl words2_7))] := hD
  refine W.widen (k := 1) (n := 6) (by omega) (by omega) ?_
  try dsimp only at hw_6
  refine lv_iload_n hx hb dX4_poke_25 rfl (lv_at hl 0 rfl) ?_
  refine lv_iload_n hx hb dX4_poke_26 rfl (lv_at hl 3 rfl) ?_
  refine lv_ldc (v := 65535) hx hb hown (hts (.constant RX4 33 (65535)) (by decide +kernel)) dX4_poke_27 ?_
  refine lv_iand hx hb dX4_poke_29 ?_
  refine lv_icmp_eq (tgt := 37) hx hb dX4_poke_30 (by decide) (fun c_8 => ?_) (fun c_8 => ?_)
  · refine lv_iconst (v := 0) hx hb dX4_poke_37 (by decide) ?_
    have hP9 := hP.sub (ws' := [(g0, .inr (4, [.ref aM, .ref aP, .int st])), (aM, .inr (1, [.ref aW, .ref aT, .int cnt])), (aW, .inl (cW, 2048, .inl words2_7))]) [0, 1, 2] rfl
    have hD9 := hD.sub (ws' := [(g0, .inr (4, [.ref aM, .ref aP, .int st])), (aM, .inr (1, [.ref aW, .ref aT, .int cnt])), (aW, .inl (cW, 2048, .inl words2_7))]) [0, 1, 2] (by decide) rfl
    have hK9 := hK.sub (tys' := [(cW, .int)]) [0] rfl
    refine vx_ret ?_
    exact W.zret (v := 0) (ty := .boolean) hx hb hr (by decide) (fun t ht hW => ⟨⟨0, words2_7, rfl, ⟨by rw [if_pos c_8], hw_2⟩, by rw [ht]; exact hP9, va_K.moved hW.alike hK9, hD9⟩, hS.F ht⟩) hS.2.2 dX4_poke_38
  · refine lv_iconst (v := 1) hx hb dX4_poke_33 (by decide) ?_
    refine lv_goto (tgt := 38) hx hb dX4_poke_34 (by decide) ?_
    have hP9 := hP.sub (ws' := [(g0, .inr (4, [.ref aM, .ref aP, .int st])), (aM, .inr (1, [.ref aW, .ref aT, .int cnt])), (aW, .inl (cW, 2048, .inl words2_7))]) [0, 1, 2] rfl
    have hD9 := hD.sub (ws' := [(g0, .inr (4, [.ref aM, .ref aP, .int st])), (aM, .inr (1, [.ref aW, .ref aT, .int cnt])), (aW, .inl (cW, 2048, .inl words2_7))]) [0, 1, 2] (by decide) rfl
    have hK9 := hK.sub (tys' := [(cW, .int)]) [0] rfl
    refine vx_ret ?_
    exact W.zret (v := 1) (ty := .boolean) hx hb hr (by decide) (fun t ht hW => ⟨⟨1, words2_7, rfl, ⟨by rw [if_neg c_8], hw_2⟩, by rw [ht]; exact hP9, va_K.moved hW.alike hK9, hD9⟩, hS.F ht⟩) hS.2.2 dX4_poke_38
set_option maxHeartbeats 4000000 in
set_option maxRecDepth 100000 in
theorem c_X4_register0 (l : Launch) (hl0 : l.stackTraces = false) (dC : Nat → ClassId) (dI : Nat → Nat → Nat) (sz : Nat) (g0 : Nat) (aM : Nat) (aP : Nat) (st : Int32) (aR : Nat) (aF : Nat) (aM9 : Nat) (aA : Nat) (aB : Nat) (fault : Int32) (cA : ClassId) (k : Int32)  : vx_Met l yX4_register wsX4_register ({ frames := 7, cells := 1, slots := 6, locals := 110 }) (va_Pc [.ref g0, .int k] (q_prx dC dI sz [(g0, .inr (4, [.ref aM, .ref aP, .int st])), (aP, .inr (3, [.ref aR, .ref aF])), (aR, .inr (2, [.ref aM9, .ref aA, .ref aB, .int fault])), (aA, .inl (cA, 8, .inl (fun _ => 0)))] [(cA, .int)])) (va_Qi (fun (r : Int32) (u9 : Unit) => (r = 0) ∧ (vp_in k 8)) (q_at dC dI (va_A [(g0, .inr (4, [.ref aM, .ref aP, .int st])), (aP, .inr (3, [.ref aR, .ref aF])), (aR, .inr (2, [.ref aM9, .ref aA, .ref aB, .int fault])), (aA, .inl (cA, 8, .inl (fun _ => 0)))] sz) (fun (u9 : Unit) => [(cA, .int)]) (fun (u9 : Unit) => [(g0, .inr (4, [.ref aM, .ref aP, .int st])), (aP, .inr (3, [.ref aR, .ref aF])), (aR, .inr (2, [.ref aM9, .ref aA, .ref aB, .int fault])), (aA, .inl (cA, 8, .inl (fun _ => 0)))])) (va_A [(g0, .inr (4, [.ref aM, .ref aP, .int st])), (aP, .inr (3, [.ref aR, .ref aF])), (aR, .inr (2, [.ref aM9, .ref aA, .ref aB, .int fault])), (aA, .inl (cA, 8, .inl (fun _ => 0)))] sz)) (vx_X (fun (_ : Unit) => ¬ vp_in k 8) (fun E9 _ _ => E9 = "java/lang/IndexOutOfBoundsException") (fun q => sz ≤ q)) 1 6 (va_A [(g0, .inr (4, [.ref aM, .ref aP, .int st])), (aP, .inr (3, [.ref aR, .ref aF])), (aR, .inr (2, [.ref aM9, .ref aA, .ref aB, .int fault])), (aA, .inl (cA, 8, .inl (fun _ => 0)))] sz) := by
  refine vx_ofW (cc := cX4_register) (maxL := 2) (ret := (some .int)) (by decide) rfl ?_
  intro p e s m args below meth c s₁ B hml htab hv
  obtain ⟨rfl, ⟨hsz, hP, hK, hD0, hN⟩, hT⟩ := hv
  have hx := B.exec
  have hb := B.bytes
  have hr := B.returns
  have hts := atoms_spec (ws := wsX4_register) B.pre
  have hown : s.vm.findClass RX4 = some m.cls := findClass_of_methodNamed B.named
  have hlocks := B.notSynchronized
  subst hsz
  have hD := hD0.self (sz := s.heap.size)
  generalize hAe : va_A [(g0, .inr (4, [.ref aM, .ref aP, .int st])), (aP, .inr (3, [.ref aR, .ref aF])), (aR, .inr (2, [.ref aM9, .ref aA, .ref aB, .int fault])), (aA, .inl (cA, 8, .inl (fun _ => 0)))] s.heap.size = A at hD hT ⊢
  have hA : ∀ q : Nat, s.heap.size ≤ q → A q := fun q h => by rw [← hAe]; exact Or.inr h
  have hS : va_S A s.heap s.heap [] := va_S.rf
  have hP : va_P (dC, dI) vwCl [(g0, .inr (4, [.ref aM, .ref aP, .int st])), (aP, .inr (3, [.ref aR, .ref aF])), (aR, .inr (2, [.ref aM9, .ref aA, .ref aB, .int fault])), (aA, .inl (cA, 8, .inl (fun _ => 0)))] s.heap := hP
  have hl := lv_entry ([.ref g0, .int k]) (n := 2) (Nat.le_of_ble_eq_true rfl)
  rw [lg_entry_eq]
  generalize (lg_sl ([.ref g0, .int k]) ++ List.replicate (2 - (lg_sl ([.ref g0, .int k])).length) Slot.unset).toArray = ls at hl ⊢
  have hl : lv_has ls 2 [(0, .ref g0), (1, .int k)] := hl
  refine lv_aload_n hx hb dX4_register_0 rfl (lv_at hl 0 rfl) ?_
  refine lv_iload_n hx hb dX4_register_1 rfl (lv_at hl 1 rfl) ?_
  have hPc := hP.sub (ws' := []) [] rfl
  have hDc := hD.sub (ws' := []) [] (by decide) rfl
  have hKc := hK.sub (tys' := []) [] rfl
  have hFc := va_free (wc := []) hD hS hA [] rfl
  refine vx_callv (vx_runV (C := RX4) (b := g0) (As := [.int k]) (rest := []) ⟨hx, hb, hml, hown, hts⟩ (c_X4_needRegister l hl0 dC dI s.heap.size g0 k) (cwV 1 hts gX4_register_X4_needRegister rfl rfl rfl (by decide +kernel) ⟨Nat.le_of_ble_eq_true rfl, Nat.le_of_ble_eq_true rfl⟩) ⟨q_blindx, va_recv hK hP (ci := 4) (q0 := 0) rfl rfl, fun U hU hW => ⟨rfl, q_payx hU hW hPc hKc hDc hN hT hS hFc⟩⟩ rfl rfl hl.1 rfl (lv_room (Nat.le_of_ble_eq_true rfl)) dX4_register_2 ⟨show 0 + 1 ≤ 1 from by omega, show 0 + 6 ≤ 6 from by omega⟩) hS (fun q _ h => hFc q h) hFc (fun q h1 h2 => absurd h1 (Nat.not_lt.mpr h2)) (fun E9 ce9 q9 u9 t H9 locs ht hvm hw hB hz1 hk1 hS hq9 hv9 hc9 => ?_) (fun u9 t H locs ht hvm hw_2 hB hz1 hk1 hS => ?_)
  · obtain rfl := hB
    try dsimp only at hw
    exact vx_out (fun x9 h9 => (htab x9 h9).elim) hlocks hq9 hv9 hc9 (fun t9 ht9 hal => ⟨(), hw, rfl, by rw [ht9]; exact hz1, fun q h1 h2 => by rw [ht9]; exact hk1 q h1 h2⟩) hS.2.2 (by decide) (by decide)
  obtain ⟨hP1, hK1, hD1⟩ := hB
  rw [ht] at hP1
  obtain ⟨hP, hD⟩ := va_join (wr := [(g0, .inr (4, [.ref aM, .ref aP, .int st])), (aP, .inr (3, [.ref aR, .ref aF])), (aR, .inr (2, [.ref aM9, .ref aA, .ref aB, .int fault])), (aA, .inl (cA, 8, .inl (fun _ => 0)))]) (w1 := []) hP hD [] [0, 1, 2, 3] rfl rfl (by decide) (by decide) hk1 hFc hP1 hD1
  have hP : va_P (dC, dI) vwCl [(g0, .inr (4, [.ref aM, .ref aP, .int st])), (aP, .inr (3, [.ref aR, .ref aF])), (aR, .inr (2, [.ref aM9, .ref aA, .ref aB, .int fault])), (aA, .inl (cA, 8, .inl (fun _ => 0)))] H := hP
  have hD : va_D A [(g0, .inr (4, [.ref aM, .ref aP, .int st])), (aP, .inr (3, [.ref aR, .ref aF])), (aR, .inr (2, [.ref aM9, .ref aA, .ref aB, .int fault])), (aA, .inl (cA, 8, .inl (fun _ => 0)))] := hD
  refine W.widen (k := 1) (n := 6) (by omega) (by omega) ?_
  try dsimp only at hw_2
  refine lv_aload_n hx hb dX4_register_5 rfl (lv_at hl 0 rfl) ?_
  refine va_get (D := (dC, dI)) (ci := 4) (v := .ref aP) (C := RX4) (T := TX4) (N := 3) hx hb hts (by decide +kernel) hown hK hP 0 rfl rfl 1 (by decide) (hts (.fieldLink RX4 21 "WordGuest" "processor" "LWordGuest$Processor;") (by decide +kernel)) (fun _ h9 => h9) rfl dX4_register_6 ?_
  refine va_getN (D := (dC, dI)) (ci := 3) (v := .ref aR) (C := RX3) (T := TX3) (N := 2) hx hb hts (by decide +kernel) hown hK hP 1 rfl rfl 0 (by decide) ((va_Nw.use rfl (hN _ (List.mem_of_getElem? (i := 11) rfl)))) (fun _ h9 => h9) rfl dX4_register_9 ?_
  refine va_getN (D := (dC, dI)) (ci := 2) (v := .ref aA) (C := RX2) (T := TX2) (N := 4) hx hb hts (by decide +kernel) hown hK hP 2 rfl rfl 1 (by decide) ((va_Nw.use rfl (hN _ (List.mem_of_getElem? (i := 8) rfl)))) (fun _ h9 => h9) rfl dX4_register_12 ?_
  refine lv_iload_n hx hb dX4_register_15 rfl (lv_at hl 1 rfl) ?_
  refine va_iald hx hb hK hP 3 0 rfl rfl hw_2 dX4_register_16 ?_
  refine q_toc (y := 0) rfl ?_
  have hP9 := hP.sub (ws' := [(g0, .inr (4, [.ref aM, .ref aP, .int st])), (aP, .inr (3, [.ref aR, .ref aF])), (aR, .inr (2, [.ref aM9, .ref aA, .ref aB, .int fault])), (aA, .inl (cA, 8, .inl (fun _ => 0)))]) [0, 1, 2, 3] rfl
  have hD9 := hD.sub (ws' := [(g0, .inr (4, [.ref aM, .ref aP, .int st])), (aP, .inr (3, [.ref aR, .ref aF])), (aR, .inr (2, [.ref aM9, .ref aA, .ref aB, .int fault])), (aA, .inl (cA, 8, .inl (fun _ => 0)))]) [0, 1, 2, 3] (by decide) rfl
  have hK9 := hK.sub (tys' := [(cA, .int)]) [0] rfl
  refine vx_ret ?_
  exact W.iret (v := 0) hx hb hr (fun t ht hW => ⟨⟨0, (), rfl, ⟨rfl, hw_2⟩, by rw [ht]; exact hP9, va_K.moved hW.alike hK9, hD9⟩, hS.F ht⟩) hS.2.2 dX4_register_17
set_option maxHeartbeats 4000000 in
set_option maxRecDepth 100000 in
theorem c_X4_put0 (l : Launch) (hl0 : l.stackTraces = false) (dC : Nat → ClassId) (dI : Nat → Nat → Nat) (sz : Nat) (g0 : Nat) (aM : Nat) (aP : Nat) (st : Int32) (aR : Nat) (aF : Nat) (aM9 : Nat) (aA : Nat) (aB : Nat) (fault : Int32) (cA : ClassId) (regs : Nat → Int32) (k : Int32) (v : Int32)  : vx_Met l yX4_put wsX4_put ({ frames := 7, cells := 1, slots := 6, locals := 110 }) (va_Pc [.ref g0, .int k, .int v] (q_prx dC dI sz [(g0, .inr (4, [.ref aM, .ref aP, .int st])), (aP, .inr (3, [.ref aR, .ref aF])), (aR, .inr (2, [.ref aM9, .ref aA, .ref aB, .int fault])), (aA, .inl (cA, 8, .inl regs))] [(cA, .int)])) (va_Qv (fun (u9 : (Nat → Int32)) => vp_in k 8) (q_at dC dI (va_A [(g0, .inr (4, [.ref aM, .ref aP, .int st])), (aP, .inr (3, [.ref aR, .ref aF])), (aR, .inr (2, [.ref aM9, .ref aA, .ref aB, .int fault])), (aA, .inl (cA, 8, .inl regs))] sz) (fun (u9 : (Nat → Int32)) => [(cA, .int)]) (fun (u9 : (Nat → Int32)) => [(g0, .inr (4, [.ref aM, .ref aP, .int st])), (aP, .inr (3, [.ref aR, .ref aF])), (aR, .inr (2, [.ref aM9, .ref aA, .ref aB, .int fault])), (aA, .inl (cA, 8, .inl u9))])) (va_A [(g0, .inr (4, [.ref aM, .ref aP, .int st])), (aP, .inr (3, [.ref aR, .ref aF])), (aR, .inr (2, [.ref aM9, .ref aA, .ref aB, .int fault])), (aA, .inl (cA, 8, .inl regs))] sz)) (vx_X (fun (_ : Unit) => ¬ vp_in k 8) (fun E9 _ _ => E9 = "java/lang/IndexOutOfBoundsException") (fun q => sz ≤ q)) 1 6 (va_A [(g0, .inr (4, [.ref aM, .ref aP, .int st])), (aP, .inr (3, [.ref aR, .ref aF])), (aR, .inr (2, [.ref aM9, .ref aA, .ref aB, .int fault])), (aA, .inl (cA, 8, .inl regs))] sz) := by
  refine vx_ofW (cc := cX4_put) (maxL := 3) (ret := none) (by decide) rfl ?_
  intro p e s m args below meth c s₁ B hml htab hv
  obtain ⟨rfl, ⟨hsz, hP, hK, hD0, hN⟩, hT⟩ := hv
  have hx := B.exec
  have hb := B.bytes
  have hr := B.returns
  have hts := atoms_spec (ws := wsX4_put) B.pre
  have hown : s.vm.findClass RX4 = some m.cls := findClass_of_methodNamed B.named
  have hlocks := B.notSynchronized
  subst hsz
  have hD := hD0.self (sz := s.heap.size)
  generalize hAe : va_A [(g0, .inr (4, [.ref aM, .ref aP, .int st])), (aP, .inr (3, [.ref aR, .ref aF])), (aR, .inr (2, [.ref aM9, .ref aA, .ref aB, .int fault])), (aA, .inl (cA, 8, .inl regs))] s.heap.size = A at hD hT ⊢
  have hA : ∀ q : Nat, s.heap.size ≤ q → A q := fun q h => by rw [← hAe]; exact Or.inr h
  have hS : va_S A s.heap s.heap [] := va_S.rf
  have hP : va_P (dC, dI) vwCl [(g0, .inr (4, [.ref aM, .ref aP, .int st])), (aP, .inr (3, [.ref aR, .ref aF])), (aR, .inr (2, [.ref aM9, .ref aA, .ref aB, .int fault])), (aA, .inl (cA, 8, .inl regs))] s.heap := hP
  have hl := lv_entry ([.ref g0, .int k, .int v]) (n := 3) (Nat.le_of_ble_eq_true rfl)
  rw [lg_entry_eq]
  generalize (lg_sl ([.ref g0, .int k, .int v]) ++ List.replicate (3 - (lg_sl ([.ref g0, .int k, .int v])).length) Slot.unset).toArray = ls at hl ⊢
  have hl : lv_has ls 3 [(0, .ref g0), (1, .int k), (2, .int v)] := hl
  refine lv_aload_n hx hb dX4_put_0 rfl (lv_at hl 0 rfl) ?_
  refine lv_iload_n hx hb dX4_put_1 rfl (lv_at hl 1 rfl) ?_
  have hPc := hP.sub (ws' := []) [] rfl
  have hDc := hD.sub (ws' := []) [] (by decide) rfl
  have hKc := hK.sub (tys' := []) [] rfl
  have hFc := va_free (wc := []) hD hS hA [] rfl
  refine vx_callv (vx_runV (C := RX4) (b := g0) (As := [.int k]) (rest := []) ⟨hx, hb, hml, hown, hts⟩ (c_X4_needRegister l hl0 dC dI s.heap.size g0 k) (cwV 1 hts gX4_put_X4_needRegister rfl rfl rfl (by decide +kernel) ⟨Nat.le_of_ble_eq_true rfl, Nat.le_of_ble_eq_true rfl⟩) ⟨q_blindx, va_recv hK hP (ci := 4) (q0 := 0) rfl rfl, fun U hU hW => ⟨rfl, q_payx hU hW hPc hKc hDc hN hT hS hFc⟩⟩ rfl rfl hl.1 rfl (lv_room (Nat.le_of_ble_eq_true rfl)) dX4_put_2 ⟨show 0 + 1 ≤ 1 from by omega, show 0 + 6 ≤ 6 from by omega⟩) hS (fun q _ h => hFc q h) hFc (fun q h1 h2 => absurd h1 (Nat.not_lt.mpr h2)) (fun E9 ce9 q9 u9 t H9 locs ht hvm hw hB hz1 hk1 hS hq9 hv9 hc9 => ?_) (fun u9 t H locs ht hvm hw_2 hB hz1 hk1 hS => ?_)
  · obtain rfl := hB
    try dsimp only at hw
    exact vx_out (fun x9 h9 => (htab x9 h9).elim) hlocks hq9 hv9 hc9 (fun t9 ht9 hal => ⟨(), hw, rfl, by rw [ht9]; exact hz1, fun q h1 h2 => by rw [ht9]; exact hk1 q h1 h2⟩) hS.2.2 (by decide) (by decide)
  obtain ⟨hP1, hK1, hD1⟩ := hB
  rw [ht] at hP1
  obtain ⟨hP, hD⟩ := va_join (wr := [(g0, .inr (4, [.ref aM, .ref aP, .int st])), (aP, .inr (3, [.ref aR, .ref aF])), (aR, .inr (2, [.ref aM9, .ref aA, .ref aB, .int fault])), (aA, .inl (cA, 8, .inl regs))]) (w1 := []) hP hD [] [0, 1, 2, 3] rfl rfl (by decide) (by decide) hk1 hFc hP1 hD1
  have hP : va_P (dC, dI) vwCl [(g0, .inr (4, [.ref aM, .ref aP, .int st])), (aP, .inr (3, [.ref aR, .ref aF])), (aR, .inr (2, [.ref aM9, .ref aA, .ref aB, .int fault])), (aA, .inl (cA, 8, .inl regs))] H := hP
  have hD : va_D A [(g0, .inr (4, [.ref aM, .ref aP, .int st])), (aP, .inr (3, [.ref aR, .ref aF])), (aR, .inr (2, [.ref aM9, .ref aA, .ref aB, .int fault])), (aA, .inl (cA, 8, .inl regs))] := hD
  refine W.widen (k := 1) (n := 6) (by omega) (by omega) ?_
  try dsimp only at hw_2
  refine lv_aload_n hx hb dX4_put_5 rfl (lv_at hl 0 rfl) ?_
  refine va_get (D := (dC, dI)) (ci := 4) (v := .ref aP) (C := RX4) (T := TX4) (N := 3) hx hb hts (by decide +kernel) hown hK hP 0 rfl rfl 1 (by decide) (hts (.fieldLink RX4 21 "WordGuest" "processor" "LWordGuest$Processor;") (by decide +kernel)) (fun _ h9 => h9) rfl dX4_put_6 ?_
  refine va_getN (D := (dC, dI)) (ci := 3) (v := .ref aR) (C := RX3) (T := TX3) (N := 2) hx hb hts (by decide +kernel) hown hK hP 1 rfl rfl 0 (by decide) ((va_Nw.use rfl (hN _ (List.mem_of_getElem? (i := 11) rfl)))) (fun _ h9 => h9) rfl dX4_put_9 ?_
  refine va_getN (D := (dC, dI)) (ci := 2) (v := .ref aA) (C := RX2) (T := TX2) (N := 4) hx hb hts (by decide +kernel) hown hK hP 2 rfl rfl 1 (by decide) ((va_Nw.use rfl (hN _ (List.mem_of_getElem? (i := 8) rfl)))) (fun _ h9 => h9) rfl dX4_put_12 ?_
  refine lv_iload_n hx hb dX4_put_15 rfl (lv_at hl 1 rfl) ?_
  refine lv_iload_n hx hb dX4_put_16 rfl (lv_at hl 2 rfl) ?_
  refine lv_ldc (v := 65535) hx hb hown (hts (.constant RX4 33 (65535)) (by decide +kernel)) dX4_put_17 ?_
  refine lv_iand hx hb dX4_put_19 ?_
  refine va_iast hx hb hK hP hD hS 3 0 rfl rfl hw_2 dX4_put_20 (fun H locs hP hD hS => ?_)
  have hP : va_P (dC, dI) vwCl [(g0, .inr (4, [.ref aM, .ref aP, .int st])), (aP, .inr (3, [.ref aR, .ref aF])), (aR, .inr (2, [.ref aM9, .ref aA, .ref aB, .int fault])), (aA, .inl (cA, 8, .inl (upd regs k.toNatClampNeg (v &&& 65535))))] H := hP
  have hD : va_D A [(g0, .inr (4, [.ref aM, .ref aP, .int st])), (aP, .inr (3, [.ref aR, .ref aF])), (aR, .inr (2, [.ref aM9, .ref aA, .ref aB, .int fault])), (aA, .inl (cA, 8, .inl (upd regs k.toNatClampNeg (v &&& 65535))))] := hD
  have hP9 := hP.sub (ws' := [(g0, .inr (4, [.ref aM, .ref aP, .int st])), (aP, .inr (3, [.ref aR, .ref aF])), (aR, .inr (2, [.ref aM9, .ref aA, .ref aB, .int fault])), (aA, .inl (cA, 8, .inl (upd regs k.toNatClampNeg (v &&& 65535))))]) [0, 1, 2, 3] rfl
  have hD9 := hD.sub (ws' := [(g0, .inr (4, [.ref aM, .ref aP, .int st])), (aP, .inr (3, [.ref aR, .ref aF])), (aR, .inr (2, [.ref aM9, .ref aA, .ref aB, .int fault])), (aA, .inl (cA, 8, .inl (upd regs k.toNatClampNeg (v &&& 65535))))]) [0, 1, 2, 3] (by decide) rfl
  have hK9 := hK.sub (tys' := [(cA, .int)]) [0] rfl
  refine vx_ret ?_
  exact W.vret hx hb hr (fun t ht hW => ⟨⟨(upd regs k.toNatClampNeg (v &&& 65535)), rfl, hw_2, by rw [ht]; exact hP9, va_K.moved hW.alike hK9, hD9⟩, hS.F ht⟩) hS.2.2 dX4_put_21
set_option maxHeartbeats 4000000 in
set_option maxRecDepth 100000 in
theorem c_X4_flags0 (l : Launch) (dC : Nat → ClassId) (dI : Nat → Nat → Nat) (sz : Nat) (g0 : Nat) (aM : Nat) (aP : Nat) (st : Int32) (aR : Nat) (aF : Nat)  : Met l yX4_flags wsX4_flags ({ frames := 1, cells := 0, slots := 0, locals := 20 }) (va_Pc [.ref g0] (q_pre dC dI sz [(g0, .inr (4, [.ref aM, .ref aP, .int st])), (aP, .inr (3, [.ref aR, .ref aF])), (aF, .inr (0, [.int 0, .int 0, .int 0, .int 0]))] [])) (va_Qi (fun (r : Int32) (u9 : Unit) => r = 0) (q_at dC dI (va_A [(g0, .inr (4, [.ref aM, .ref aP, .int st])), (aP, .inr (3, [.ref aR, .ref aF])), (aF, .inr (0, [.int 0, .int 0, .int 0, .int 0]))] sz) (fun (u9 : Unit) => []) (fun (u9 : Unit) => [(g0, .inr (4, [.ref aM, .ref aP, .int st])), (aP, .inr (3, [.ref aR, .ref aF])), (aF, .inr (0, [.int 0, .int 0, .int 0, .int 0]))])) (va_A [(g0, .inr (4, [.ref aM, .ref aP, .int st])), (aP, .inr (3, [.ref aR, .ref aF])), (aF, .inr (0, [.int 0, .int 0, .int 0, .int 0]))] sz)) 0 0 (va_A [(g0, .inr (4, [.ref aM, .ref aP, .int st])), (aP, .inr (3, [.ref aR, .ref aF])), (aF, .inr (0, [.int 0, .int 0, .int 0, .int 0]))] sz) := by
  refine Met.ofW (cc := cX4_flags) (maxL := 1) (ret := (some .int)) (by decide) rfl ?_
  intro p e s m args below meth c s₁ B hml hv
  obtain ⟨rfl, hsz, hP, hK, hD0, hN⟩ := hv
  have hx := B.exec
  have hb := B.bytes
  have hr := B.returns
  have hts := atoms_spec (ws := wsX4_flags) B.pre
  have hown : s.vm.findClass RX4 = some m.cls := findClass_of_methodNamed B.named
  have hlocks := B.notSynchronized
  subst hsz
  have hD := hD0.self (sz := s.heap.size)
  generalize hAe : va_A [(g0, .inr (4, [.ref aM, .ref aP, .int st])), (aP, .inr (3, [.ref aR, .ref aF])), (aF, .inr (0, [.int 0, .int 0, .int 0, .int 0]))] s.heap.size = A at hD ⊢
  have hA : ∀ q : Nat, s.heap.size ≤ q → A q := fun q h => by rw [← hAe]; exact Or.inr h
  have hS : va_S A s.heap s.heap [] := va_S.rf
  have hP : va_P (dC, dI) vwCl [(g0, .inr (4, [.ref aM, .ref aP, .int st])), (aP, .inr (3, [.ref aR, .ref aF])), (aF, .inr (0, [.int 0, .int 0, .int 0, .int 0]))] s.heap := hP
  have hl := lv_entry ([.ref g0]) (n := 1) (Nat.le_of_ble_eq_true rfl)
  rw [lg_entry_eq]
  generalize (lg_sl ([.ref g0]) ++ List.replicate (1 - (lg_sl ([.ref g0])).length) Slot.unset).toArray = ls at hl ⊢
  have hl : lv_has ls 1 [(0, .ref g0)] := hl
  refine lv_aload_n hx hb dX4_flags_0 rfl (lv_at hl 0 rfl) ?_
  refine va_get (D := (dC, dI)) (ci := 4) (v := .ref aP) (C := RX4) (T := TX4) (N := 3) hx hb hts (by decide +kernel) hown hK hP 0 rfl rfl 1 (by decide) (hts (.fieldLink RX4 21 "WordGuest" "processor" "LWordGuest$Processor;") (by decide +kernel)) (fun _ h9 => h9) rfl dX4_flags_1 ?_
  refine va_getN (D := (dC, dI)) (ci := 3) (v := .ref aF) (C := RX3) (T := TX3) (N := 2) hx hb hts (by decide +kernel) hown hK hP 1 rfl rfl 1 (by decide) ((va_Nw.use rfl (hN _ (List.mem_of_getElem? (i := 12) rfl)))) (fun _ h9 => h9) rfl dX4_flags_4 ?_
  have hPc := hP.sub (ws' := [(aF, .inr (0, [.int 0, .int 0, .int 0, .int 0]))]) [2] rfl
  have hDc := hD.sub (ws' := [(aF, .inr (0, [.int 0, .int 0, .int 0, .int 0]))]) [2] (by decide) rfl
  have hKc := hK.sub (tys' := []) [] rfl
  have hFc := va_free (wc := [(aF, .inr (0, [.int 0, .int 0, .int 0, .int 0]))]) hD hS hA [2] rfl
  refine va_calli (va_runV (C := RX0) (b := aF) (As := []) (rest := []) ⟨hx, hb, hml, hown, hts⟩ (c_X0_number l dC dI s.heap.size aF) (cwV 0 hts gX4_flags_X0_number rfl rfl rfl (by decide +kernel) ⟨Nat.le_of_ble_eq_true rfl, Nat.le_of_ble_eq_true rfl⟩) ⟨q_blind, va_recv hK hP (ci := 0) (q0 := 2) rfl rfl, fun U hU hW => ⟨rfl, q_pay hU hW hPc hKc hDc hN⟩⟩ rfl rfl hl.1 rfl (lv_room (Nat.le_of_ble_eq_true rfl)) dX4_flags_7 ⟨show 0 + 0 ≤ 0 from by omega, show 0 + 0 ≤ 0 from by omega⟩) hS (fun q _ h => hFc q h) hFc (fun r_1 u9 t H locs ht hvm hw_2 hB hz1 hk1 hS => ?_)
  obtain ⟨hP1, hK1, hD1⟩ := hB
  rw [ht] at hP1
  obtain ⟨hP, hD⟩ := va_join (wr := [(g0, .inr (4, [.ref aM, .ref aP, .int st])), (aP, .inr (3, [.ref aR, .ref aF]))]) (w1 := [(aF, .inr (0, [.int 0, .int 0, .int 0, .int 0]))]) hP hD [2] [0, 1] rfl rfl (by decide) (by decide) hk1 hFc hP1 hD1
  have hP : va_P (dC, dI) vwCl [(g0, .inr (4, [.ref aM, .ref aP, .int st])), (aP, .inr (3, [.ref aR, .ref aF])), (aF, .inr (0, [.int 0, .int 0, .int 0, .int 0]))] H := hP
  have hD : va_D A [(g0, .inr (4, [.ref aM, .ref aP, .int st])), (aP, .inr (3, [.ref aR, .ref aF])), (aF, .inr (0, [.int 0, .int 0, .int 0, .int 0]))] := hD
  refine W.widen (k := 0) (n := 0) (by omega) (by omega) ?_
  try dsimp only at hw_2
  obtain rfl := hw_2
  refine q_toc (y := 0) (by first | rfl | decide) ?_
  have hP9 := hP.sub (ws' := [(g0, .inr (4, [.ref aM, .ref aP, .int st])), (aP, .inr (3, [.ref aR, .ref aF])), (aF, .inr (0, [.int 0, .int 0, .int 0, .int 0]))]) [0, 1, 2] rfl
  have hD9 := hD.sub (ws' := [(g0, .inr (4, [.ref aM, .ref aP, .int st])), (aP, .inr (3, [.ref aR, .ref aF])), (aF, .inr (0, [.int 0, .int 0, .int 0, .int 0]))]) [0, 1, 2] (by decide) rfl
  have hK9 := hK.sub (tys' := []) [] rfl
  exact W.iret (v := 0) hx hb hr (fun t ht hW => ⟨⟨0, (), rfl, rfl, by rw [ht]; exact hP9, va_K.moved hW.alike hK9, hD9⟩, hS.F ht⟩) hS.2.2 dX4_flags_10
set_option maxHeartbeats 4000000 in
set_option maxRecDepth 100000 in
theorem c_X4_flag0 (l : Launch) (dC : Nat → ClassId) (dI : Nat → Nat → Nat) (sz : Nat) (g0 : Nat) (aM : Nat) (aP : Nat) (st : Int32) (aR : Nat) (aF : Nat) (n : Int32) (z : Int32) (v : Int32) (c9 : Int32) (k : Int32)  : Met l yX4_flag wsX4_flag ({ frames := 1, cells := 0, slots := 0, locals := 21 }) (va_Pc [.ref g0, .int k] (q_pre dC dI sz [(g0, .inr (4, [.ref aM, .ref aP, .int st])), (aP, .inr (3, [.ref aR, .ref aF])), (aF, .inr (0, [.int n, .int z, .int v, .int c9]))] [])) (va_Qv (fun (u9 : Int32 × Int32 × Int32 × Int32) => True) (q_at dC dI (va_A [(g0, .inr (4, [.ref aM, .ref aP, .int st])), (aP, .inr (3, [.ref aR, .ref aF])), (aF, .inr (0, [.int n, .int z, .int v, .int c9]))] sz) (fun (u9 : Int32 × Int32 × Int32 × Int32) => []) (fun (u9 : Int32 × Int32 × Int32 × Int32) => [(g0, .inr (4, [.ref aM, .ref aP, .int st])), (aP, .inr (3, [.ref aR, .ref aF])), (aF, .inr (0, [.int u9.1, .int u9.2.1, .int u9.2.2.1, .int u9.2.2.2]))])) (va_A [(g0, .inr (4, [.ref aM, .ref aP, .int st])), (aP, .inr (3, [.ref aR, .ref aF])), (aF, .inr (0, [.int n, .int z, .int v, .int c9]))] sz)) 0 0 (va_A [(g0, .inr (4, [.ref aM, .ref aP, .int st])), (aP, .inr (3, [.ref aR, .ref aF])), (aF, .inr (0, [.int n, .int z, .int v, .int c9]))] sz) := by
  refine Met.ofW (cc := cX4_flag) (maxL := 2) (ret := none) (by decide) rfl ?_
  intro p e s m args below meth c s₁ B hml hv
  obtain ⟨rfl, hsz, hP, hK, hD0, hN⟩ := hv
  have hx := B.exec
  have hb := B.bytes
  have hr := B.returns
  have hts := atoms_spec (ws := wsX4_flag) B.pre
  have hown : s.vm.findClass RX4 = some m.cls := findClass_of_methodNamed B.named
  have hlocks := B.notSynchronized
  subst hsz
  have hD := hD0.self (sz := s.heap.size)
  generalize hAe : va_A [(g0, .inr (4, [.ref aM, .ref aP, .int st])), (aP, .inr (3, [.ref aR, .ref aF])), (aF, .inr (0, [.int n, .int z, .int v, .int c9]))] s.heap.size = A at hD ⊢
  have hA : ∀ q : Nat, s.heap.size ≤ q → A q := fun q h => by rw [← hAe]; exact Or.inr h
  have hS : va_S A s.heap s.heap [] := va_S.rf
  have hP : va_P (dC, dI) vwCl [(g0, .inr (4, [.ref aM, .ref aP, .int st])), (aP, .inr (3, [.ref aR, .ref aF])), (aF, .inr (0, [.int n, .int z, .int v, .int c9]))] s.heap := hP
  have hl := lv_entry ([.ref g0, .int k]) (n := 2) (Nat.le_of_ble_eq_true rfl)
  rw [lg_entry_eq]
  generalize (lg_sl ([.ref g0, .int k]) ++ List.replicate (2 - (lg_sl ([.ref g0, .int k])).length) Slot.unset).toArray = ls at hl ⊢
  have hl : lv_has ls 2 [(0, .ref g0), (1, .int k)] := hl
  refine lv_aload_n hx hb dX4_flag_0 rfl (lv_at hl 0 rfl) ?_
  refine va_get (D := (dC, dI)) (ci := 4) (v := .ref aP) (C := RX4) (T := TX4) (N := 3) hx hb hts (by decide +kernel) hown hK hP 0 rfl rfl 1 (by decide) (hts (.fieldLink RX4 21 "WordGuest" "processor" "LWordGuest$Processor;") (by decide +kernel)) (fun _ h9 => h9) rfl dX4_flag_1 ?_
  refine va_getN (D := (dC, dI)) (ci := 3) (v := .ref aF) (C := RX3) (T := TX3) (N := 2) hx hb hts (by decide +kernel) hown hK hP 1 rfl rfl 1 (by decide) ((va_Nw.use rfl (hN _ (List.mem_of_getElem? (i := 12) rfl)))) (fun _ h9 => h9) rfl dX4_flag_4 ?_
  refine lv_iload_n hx hb dX4_flag_7 rfl (lv_at hl 1 rfl) ?_
  have hPc := hP.sub (ws' := [(aF, .inr (0, [.int n, .int z, .int v, .int c9]))]) [2] rfl
  have hDc := hD.sub (ws' := [(aF, .inr (0, [.int n, .int z, .int v, .int c9]))]) [2] (by decide) rfl
  have hKc := hK.sub (tys' := []) [] rfl
  have hFc := va_free (wc := [(aF, .inr (0, [.int n, .int z, .int v, .int c9]))]) hD hS hA [2] rfl
  refine va_callv (va_runV (C := RX0) (b := aF) (As := [.int k]) (rest := []) ⟨hx, hb, hml, hown, hts⟩ (c_X0_become l dC dI s.heap.size aF n z v c9 k) (cwV 1 hts gX4_flag_X0_become rfl rfl rfl (by decide +kernel) ⟨Nat.le_of_ble_eq_true rfl, Nat.le_of_ble_eq_true rfl⟩) ⟨q_blind, va_recv hK hP (ci := 0) (q0 := 2) rfl rfl, fun U hU hW => ⟨rfl, q_pay hU hW hPc hKc hDc hN⟩⟩ rfl rfl hl.1 rfl (lv_room (Nat.le_of_ble_eq_true rfl)) dX4_flag_8 ⟨show 0 + 0 ≤ 0 from by omega, show 0 + 0 ≤ 0 from by omega⟩) hS (fun q _ h => hFc q h) hFc (fun u9 t H locs ht hvm hw_2 hB hz1 hk1 hS => ?_)
  obtain ⟨n2_3, z2_4, v2_5, c2_6⟩ := u9
  obtain ⟨hP1, hK1, hD1⟩ := hB
  rw [ht] at hP1
  obtain ⟨hP, hD⟩ := va_join (wr := [(g0, .inr (4, [.ref aM, .ref aP, .int st])), (aP, .inr (3, [.ref aR, .ref aF]))]) (w1 := [(aF, .inr (0, [.int n2_3, .int z2_4, .int v2_5, .int c2_6]))]) hP hD [2] [0, 1] rfl rfl (by decide) (by decide) hk1 hFc hP1 hD1
  have hP : va_P (dC, dI) vwCl [(g0, .inr (4, [.ref aM, .ref aP, .int st])), (aP, .inr (3, [.ref aR, .ref aF])), (aF, .inr (0, [.int n2_3, .int z2_4, .int v2_5, .int c2_6]))] H := hP
  have hD : va_D A [(g0, .inr (4, [.ref aM, .ref aP, .int st])), (aP, .inr (3, [.ref aR, .ref aF])), (aF, .inr (0, [.int n2_3, .int z2_4, .int v2_5, .int c2_6]))] := hD
  refine W.widen (k := 0) (n := 0) (by omega) (by omega) ?_
  try dsimp only at hw_2
  have hP9 := hP.sub (ws' := [(g0, .inr (4, [.ref aM, .ref aP, .int st])), (aP, .inr (3, [.ref aR, .ref aF])), (aF, .inr (0, [.int n2_3, .int z2_4, .int v2_5, .int c2_6]))]) [0, 1, 2] rfl
  have hD9 := hD.sub (ws' := [(g0, .inr (4, [.ref aM, .ref aP, .int st])), (aP, .inr (3, [.ref aR, .ref aF])), (aF, .inr (0, [.int n2_3, .int z2_4, .int v2_5, .int c2_6]))]) [0, 1, 2] (by decide) rfl
  have hK9 := hK.sub (tys' := []) [] rfl
  exact W.vret hx hb hr (fun t ht hW => ⟨⟨(n2_3, z2_4, v2_5, c2_6), rfl, trivial, by rw [ht]; exact hP9, va_K.moved hW.alike hK9, hD9⟩, hS.F ht⟩) hS.2.2 dX4_flag_11
set_option maxHeartbeats 4000000 in
set_option maxRecDepth 100000 in
theorem c_X4_steps (l : Launch) (dC : Nat → ClassId) (dI : Nat → Nat → Nat) (sz : Nat) (g0 : Nat) (aM : Nat) (aP : Nat) (st : Int32)  : Met l yX4_steps wsX4_steps ({ frames := 0, cells := 0, slots := 0, locals := 0 }) (va_Pc [.ref g0] (q_pre dC dI sz [(g0, .inr (4, [.ref aM, .ref aP, .int st]))] [])) (va_Qi (fun (r : Int32) (u9 : Unit) => r = st) (q_at dC dI (va_A [(g0, .inr (4, [.ref aM, .ref aP, .int st]))] sz) (fun (u9 : Unit) => []) (fun (u9 : Unit) => [(g0, .inr (4, [.ref aM, .ref aP, .int st]))])) (va_A [(g0, .inr (4, [.ref aM, .ref aP, .int st]))] sz)) 0 0 (va_A [(g0, .inr (4, [.ref aM, .ref aP, .int st]))] sz) := by
  refine Met.ofW (cc := cX4_steps) (maxL := 1) (ret := (some .int)) (by decide) rfl ?_
  intro p e s m args below meth c s₁ B hml hv
  obtain ⟨rfl, hsz, hP, hK, hD0, hN⟩ := hv
  have hx := B.exec
  have hb := B.bytes
  have hr := B.returns
  have hts := atoms_spec (ws := wsX4_steps) B.pre
  have hown : s.vm.findClass RX4 = some m.cls := findClass_of_methodNamed B.named
  have hlocks := B.notSynchronized
  subst hsz
  have hD := hD0.self (sz := s.heap.size)
  generalize hAe : va_A [(g0, .inr (4, [.ref aM, .ref aP, .int st]))] s.heap.size = A at hD ⊢
  have hA : ∀ q : Nat, s.heap.size ≤ q → A q := fun q h => by rw [← hAe]; exact Or.inr h
  have hS : va_S A s.heap s.heap [] := va_S.rf
  have hP : va_P (dC, dI) vwCl [(g0, .inr (4, [.ref aM, .ref aP, .int st]))] s.heap := hP
  have hl := lv_entry ([.ref g0]) (n := 1) (Nat.le_of_ble_eq_true rfl)
  rw [lg_entry_eq]
  generalize (lg_sl ([.ref g0]) ++ List.replicate (1 - (lg_sl ([.ref g0])).length) Slot.unset).toArray = ls at hl ⊢
  have hl : lv_has ls 1 [(0, .ref g0)] := hl
  refine lv_aload_n hx hb dX4_steps_0 rfl (lv_at hl 0 rfl) ?_
  refine va_get (D := (dC, dI)) (ci := 4) (v := .int st) (C := RX4) (T := TX4) (N := 3) hx hb hts (by decide +kernel) hown hK hP 0 rfl rfl 2 (by decide) (hts (.fieldLink RX4 70 "WordGuest" "latestSteps" "I") (by decide +kernel)) (fun _ h9 => h9) rfl dX4_steps_1 ?_
  have hP9 := hP.sub (ws' := [(g0, .inr (4, [.ref aM, .ref aP, .int st]))]) [0] rfl
  have hD9 := hD.sub (ws' := [(g0, .inr (4, [.ref aM, .ref aP, .int st]))]) [0] (by decide) rfl
  have hK9 := hK.sub (tys' := []) [] rfl
  exact W.iret (v := st) hx hb hr (fun t ht hW => ⟨⟨st, (), rfl, rfl, by rw [ht]; exact hP9, va_K.moved hW.alike hK9, hD9⟩, hS.F ht⟩) hS.2.2 dX4_steps_4
set_option maxHeartbeats 4000000 in
set_option maxRecDepth 100000 in
theorem c_X4_outputs (l : Launch) (dC : Nat → ClassId) (dI : Nat → Nat → Nat) (sz : Nat) (g0 : Nat) (aM : Nat) (aP : Nat) (st : Int32) (aW : Nat) (aT : Nat) (cnt : Int32)  : Met l yX4_outputs wsX4_outputs ({ frames := 0, cells := 0, slots := 0, locals := 0 }) (va_Pc [.ref g0] (q_pre dC dI sz [(g0, .inr (4, [.ref aM, .ref aP, .int st])), (aM, .inr (1, [.ref aW, .ref aT, .int cnt]))] [])) (va_Qi (fun (r : Int32) (u9 : Unit) => r = cnt) (q_at dC dI (va_A [(g0, .inr (4, [.ref aM, .ref aP, .int st])), (aM, .inr (1, [.ref aW, .ref aT, .int cnt]))] sz) (fun (u9 : Unit) => []) (fun (u9 : Unit) => [(g0, .inr (4, [.ref aM, .ref aP, .int st])), (aM, .inr (1, [.ref aW, .ref aT, .int cnt]))])) (va_A [(g0, .inr (4, [.ref aM, .ref aP, .int st])), (aM, .inr (1, [.ref aW, .ref aT, .int cnt]))] sz)) 0 0 (va_A [(g0, .inr (4, [.ref aM, .ref aP, .int st])), (aM, .inr (1, [.ref aW, .ref aT, .int cnt]))] sz) := by
  refine Met.ofW (cc := cX4_outputs) (maxL := 1) (ret := (some .int)) (by decide) rfl ?_
  intro p e s m args below meth c s₁ B hml hv
  obtain ⟨rfl, hsz, hP, hK, hD0, hN⟩ := hv
  have hx := B.exec
  have hb := B.bytes
  have hr := B.returns
  have hts := atoms_spec (ws := wsX4_outputs) B.pre
  have hown : s.vm.findClass RX4 = some m.cls := findClass_of_methodNamed B.named
  have hlocks := B.notSynchronized
  subst hsz
  have hD := hD0.self (sz := s.heap.size)
  generalize hAe : va_A [(g0, .inr (4, [.ref aM, .ref aP, .int st])), (aM, .inr (1, [.ref aW, .ref aT, .int cnt]))] s.heap.size = A at hD ⊢
  have hA : ∀ q : Nat, s.heap.size ≤ q → A q := fun q h => by rw [← hAe]; exact Or.inr h
  have hS : va_S A s.heap s.heap [] := va_S.rf
  have hP : va_P (dC, dI) vwCl [(g0, .inr (4, [.ref aM, .ref aP, .int st])), (aM, .inr (1, [.ref aW, .ref aT, .int cnt]))] s.heap := hP
  have hl := lv_entry ([.ref g0]) (n := 1) (Nat.le_of_ble_eq_true rfl)
  rw [lg_entry_eq]
  generalize (lg_sl ([.ref g0]) ++ List.replicate (1 - (lg_sl ([.ref g0])).length) Slot.unset).toArray = ls at hl ⊢
  have hl : lv_has ls 1 [(0, .ref g0)] := hl
  refine lv_aload_n hx hb dX4_outputs_0 rfl (lv_at hl 0 rfl) ?_
  refine va_get (D := (dC, dI)) (ci := 4) (v := .ref aM) (C := RX4) (T := TX4) (N := 3) hx hb hts (by decide +kernel) hown hK hP 0 rfl rfl 0 (by decide) (hts (.fieldLink RX4 12 "WordGuest" "memory" "LWordGuest$Memory;") (by decide +kernel)) (fun _ h9 => h9) rfl dX4_outputs_1 ?_
  refine va_getN (D := (dC, dI)) (ci := 1) (v := .int cnt) (C := RX1) (T := TX1) (N := 3) hx hb hts (by decide +kernel) hown hK hP 1 rfl rfl 2 (by decide) ((va_Nw.use rfl (hN _ (List.mem_of_getElem? (i := 2) rfl)))) (fun _ h9 => h9) rfl dX4_outputs_4 ?_
  have hP9 := hP.sub (ws' := [(g0, .inr (4, [.ref aM, .ref aP, .int st])), (aM, .inr (1, [.ref aW, .ref aT, .int cnt]))]) [0, 1] rfl
  have hD9 := hD.sub (ws' := [(g0, .inr (4, [.ref aM, .ref aP, .int st])), (aM, .inr (1, [.ref aW, .ref aT, .int cnt]))]) [0, 1] (by decide) rfl
  have hK9 := hK.sub (tys' := []) [] rfl
  exact W.iret (v := cnt) hx hb hr (fun t ht hW => ⟨⟨cnt, (), rfl, rfl, by rw [ht]; exact hP9, va_K.moved hW.alike hK9, hD9⟩, hS.F ht⟩) hS.2.2 dX4_outputs_7
