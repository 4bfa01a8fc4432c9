set_option maxHeartbeats 4000000 in
set_option maxRecDepth 100000 in
theorem c_X5_word (l : Launch) (dC : Nat → ClassId) (dI : Nat → Nat → Nat) (sz : Nat) (m0 : Nat) (mB : Nat) (mR : Nat) (mO : Nat) (mN : Nat) (cY : ClassId) (pl : Int32)  : Met l yX5_word wsX5_word ({ frames := 1, cells := 0, slots := 0, locals := 21 }) (va_Pc [.ref m0, .int pl] (q_pre dC dI sz [(m0, .inr (5, [.int 0, .ref mB, .ref mR, .int 0, .ref mO, .int 0, .int 0, .ref mN, .int 0, .int 0, .int 0, .int 0, .int 0, .int 0, .int 0, .int 0, .int 0])), (mB, .inl (cY, 4096, .inl (fun _ => 0)))] [(cY, .int)])) (va_Qi (fun (r : Int32) (u9 : Int32) => (r = 0) ∧ ((¬ iw pl = 0 ∧ u9 = 0) ∨ (iw pl = 0 ∧ u9 = 1))) (q_at dC dI (va_A [(m0, .inr (5, [.int 0, .ref mB, .ref mR, .int 0, .ref mO, .int 0, .int 0, .ref mN, .int 0, .int 0, .int 0, .int 0, .int 0, .int 0, .int 0, .int 0, .int 0])), (mB, .inl (cY, 4096, .inl (fun _ => 0)))] sz) (fun (u9 : Int32) => [(cY, .int)]) (fun (u9 : Int32) => [(m0, .inr (5, [.int u9, .ref mB, .ref mR, .int 0, .ref mO, .int 0, .int 0, .ref mN, .int 0, .int 0, .int 0, .int 0, .int 0, .int 0, .int 0, .int 0, .int 0])), (mB, .inl (cY, 4096, .inl (fun _ => 0)))])) (va_A [(m0, .inr (5, [.int 0, .ref mB, .ref mR, .int 0, .ref mO, .int 0, .int 0, .ref mN, .int 0, .int 0, .int 0, .int 0, .int 0, .int 0, .int 0, .int 0, .int 0])), (mB, .inl (cY, 4096, .inl (fun _ => 0)))] sz)) 0 0 (va_A [(m0, .inr (5, [.int 0, .ref mB, .ref mR, .int 0, .ref mO, .int 0, .int 0, .ref mN, .int 0, .int 0, .int 0, .int 0, .int 0, .int 0, .int 0, .int 0, .int 0])), (mB, .inl (cY, 4096, .inl (fun _ => 0)))] sz) := by
  refine Met.ofW (cc := cX5_word) (maxL := 2) (ret := (some .int)) (by decide) rfl ?_
  intro p e s m args below meth c s₁ B hml hv
  obtain ⟨rfl, hsz, hP, hK, hD0, hN⟩ := hv
  have hx := B.exec
  have hb := B.bytes
  have hr := B.returns
  have hts := atoms_spec (ws := wsX5_word) B.pre
  have hown : s.vm.findClass RX5 = some m.cls := findClass_of_methodNamed B.named
  have hlocks := B.notSynchronized
  subst hsz
  have hD := hD0.self (sz := s.heap.size)
  generalize hAe : va_A [(m0, .inr (5, [.int 0, .ref mB, .ref mR, .int 0, .ref mO, .int 0, .int 0, .ref mN, .int 0, .int 0, .int 0, .int 0, .int 0, .int 0, .int 0, .int 0, .int 0])), (mB, .inl (cY, 4096, .inl (fun _ => 0)))] s.heap.size = A at hD ⊢
  have hA : ∀ q : Nat, s.heap.size ≤ q → A q := fun q h => by rw [← hAe]; exact Or.inr h
  have hS : va_S A s.heap s.heap [] := va_S.rf
  have hP : va_P (dC, dI) vwCl [(m0, .inr (5, [.int 0, .ref mB, .ref mR, .int 0, .ref mO, .int 0, .int 0, .ref mN, .int 0, .int 0, .int 0, .int 0, .int 0, .int 0, .int 0, .int 0, .int 0])), (mB, .inl (cY, 4096, .inl (fun _ => 0)))] s.heap := hP
  have hl := lv_entry ([.ref m0, .int pl]) (n := 2) (Nat.le_of_ble_eq_true rfl)
  rw [lg_entry_eq]
  generalize (lg_sl ([.ref m0, .int pl]) ++ List.replicate (2 - (lg_sl ([.ref m0, .int pl])).length) Slot.unset).toArray = ls at hl ⊢
  have hl : lv_has ls 2 [(0, .ref m0), (1, .int pl)] := hl
  refine lv_aload_n hx hb dX5_word_0 rfl (lv_at hl 0 rfl) ?_
  refine lv_iload_n hx hb dX5_word_1 rfl (lv_at hl 1 rfl) ?_
  have hPc := hP.sub (ws' := []) [] rfl
  have hDc := hD.sub (ws' := []) [] (by decide) rfl
  have hKc := hK.sub (tys' := []) [] rfl
  have hFc := va_free (wc := []) hD hS hA [] rfl
  refine va_calli (va_runS (As := [.int pl]) (rest := [.ref m0]) ⟨hx, hb, hml, hown, hts⟩ (c_X5_isWord l dC dI s.heap.size pl) (va_cwS 1 hts gX5_word_X5_isWord rfl rfl rfl (by decide +kernel) ⟨Nat.le_of_ble_eq_true rfl, Nat.le_of_ble_eq_true rfl⟩) ⟨q_blind, fun U hU hW => ⟨rfl, q_pay hU hW hPc hKc hDc hN⟩⟩ rfl rfl hl.1 rfl (lv_room (Nat.le_of_ble_eq_true rfl)) dX5_word_2 ⟨show 0 + 0 ≤ 0 from by omega, show 0 + 0 ≤ 0 from by omega⟩) hS (fun q _ h => hFc q h) hFc (fun r_1 u9 t H locs ht hvm hw_2 hB hz1 hk1 hS => ?_)
  obtain ⟨hP1, hK1, hD1⟩ := hB
  rw [ht] at hP1
  obtain ⟨hP, hD⟩ := va_join (wr := [(m0, .inr (5, [.int 0, .ref mB, .ref mR, .int 0, .ref mO, .int 0, .int 0, .ref mN, .int 0, .int 0, .int 0, .int 0, .int 0, .int 0, .int 0, .int 0, .int 0])), (mB, .inl (cY, 4096, .inl (fun _ => 0)))]) (w1 := []) hP hD [] [0, 1] rfl rfl (by decide) (by decide) hk1 hFc hP1 hD1
  have hP : va_P (dC, dI) vwCl [(m0, .inr (5, [.int 0, .ref mB, .ref mR, .int 0, .ref mO, .int 0, .int 0, .ref mN, .int 0, .int 0, .int 0, .int 0, .int 0, .int 0, .int 0, .int 0, .int 0])), (mB, .inl (cY, 4096, .inl (fun _ => 0)))] H := hP
  have hD : va_D A [(m0, .inr (5, [.int 0, .ref mB, .ref mR, .int 0, .ref mO, .int 0, .int 0, .ref mN, .int 0, .int 0, .int 0, .int 0, .int 0, .int 0, .int 0, .int 0, .int 0])), (mB, .inl (cY, 4096, .inl (fun _ => 0)))] := hD
  refine W.widen (k := 0) (n := 0) (by omega) (by omega) ?_
  try dsimp only at hw_2
  obtain rfl := hw_2
  refine lv_if_eq (tgt := 12) hx hb dX5_word_5 (by decide) (fun c_3 => ?_) (fun c_3 => ?_)
  · refine lv_iconst (v := 1) hx hb dX5_word_12 (by decide) ?_
    refine va_put (D := (dC, dI)) (ci := 5) (v := .int 1) (ty := .int) (C := RX5) (T := TX5) (N := 17) hx hb hts (by decide +kernel) tyX5 tyX5_ok nmX5 hown hK hP hD hS 0 rfl rfl 0 (by decide) (hts (.fieldLink RX5 22 "WordGuestModel" "thrown" "I") (by decide +kernel)) (fun _ h9 => h9) rfl (by decide +kernel) rfl rfl (Nat.le_of_ble_eq_true rfl) dX5_word_13 (fun H locs hP hD hS => ?_)
    have hP : va_P (dC, dI) vwCl [(m0, .inr (5, [.int 1, .ref mB, .ref mR, .int 0, .ref mO, .int 0, .int 0, .ref mN, .int 0, .int 0, .int 0, .int 0, .int 0, .int 0, .int 0, .int 0, .int 0])), (mB, .inl (cY, 4096, .inl (fun _ => 0)))] H := hP
    have hD : va_D A [(m0, .inr (5, [.int 1, .ref mB, .ref mR, .int 0, .ref mO, .int 0, .int 0, .ref mN, .int 0, .int 0, .int 0, .int 0, .int 0, .int 0, .int 0, .int 0, .int 0])), (mB, .inl (cY, 4096, .inl (fun _ => 0)))] := hD
    refine lv_aload_n hx hb dX5_word_16 rfl (lv_at hl 0 rfl) ?_
    refine va_get (D := (dC, dI)) (ci := 5) (v := .int 1) (C := RX5) (T := TX5) (N := 17) hx hb hts (by decide +kernel) hown hK hP 0 rfl rfl 0 (by decide) (hts (.fieldLink RX5 22 "WordGuestModel" "thrown" "I") (by decide +kernel)) (fun _ h9 => h9) rfl dX5_word_17 ?_
    refine lv_if_le (tgt := 27) hx hb dX5_word_20 (by decide) (fun c9 => absurd c9 (by decide)) (fun c_4 => ?_)
    refine lv_iconst (v := 0) hx hb dX5_word_23 (by decide) ?_
    refine lv_goto (tgt := 32) hx hb dX5_word_24 (by decide) ?_
    have hP9 := hP.sub (ws' := [(m0, .inr (5, [.int 1, .ref mB, .ref mR, .int 0, .ref mO, .int 0, .int 0, .ref mN, .int 0, .int 0, .int 0, .int 0, .int 0, .int 0, .int 0, .int 0, .int 0])), (mB, .inl (cY, 4096, .inl (fun _ => 0)))]) [0, 1] rfl
    have hD9 := hD.sub (ws' := [(m0, .inr (5, [.int 1, .ref mB, .ref mR, .int 0, .ref mO, .int 0, .int 0, .ref mN, .int 0, .int 0, .int 0, .int 0, .int 0, .int 0, .int 0, .int 0, .int 0])), (mB, .inl (cY, 4096, .inl (fun _ => 0)))]) [0, 1] (by decide) rfl
    have hK9 := hK.sub (tys' := [(cY, .int)]) [0] rfl
    exact W.iret (v := 0) hx hb hr (fun t ht hW => ⟨⟨0, 1, rfl, ⟨rfl, Or.inr ⟨c_3, rfl⟩⟩, by rw [ht]; exact hP9, va_K.moved hW.alike hK9, hD9⟩, hS.F ht⟩) hS.2.2 dX5_word_32
  · refine lv_iconst (v := 0) hx hb dX5_word_8 (by decide) ?_
    refine lv_goto (tgt := 13) hx hb dX5_word_9 (by decide) ?_
    refine va_put (D := (dC, dI)) (ci := 5) (v := .int 0) (ty := .int) (C := RX5) (T := TX5) (N := 17) hx hb hts (by decide +kernel) tyX5 tyX5_ok nmX5 hown hK hP hD hS 0 rfl rfl 0 (by decide) (hts (.fieldLink RX5 22 "WordGuestModel" "thrown" "I") (by decide +kernel)) (fun _ h9 => h9) rfl (by decide +kernel) rfl rfl (Nat.le_of_ble_eq_true rfl) dX5_word_13 (fun H locs hP hD hS => ?_)
    have hP : va_P (dC, dI) vwCl [(m0, .inr (5, [.int 0, .ref mB, .ref mR, .int 0, .ref mO, .int 0, .int 0, .ref mN, .int 0, .int 0, .int 0, .int 0, .int 0, .int 0, .int 0, .int 0, .int 0])), (mB, .inl (cY, 4096, .inl (fun _ => 0)))] H := hP
    have hD : va_D A [(m0, .inr (5, [.int 0, .ref mB, .ref mR, .int 0, .ref mO, .int 0, .int 0, .ref mN, .int 0, .int 0, .int 0, .int 0, .int 0, .int 0, .int 0, .int 0, .int 0])), (mB, .inl (cY, 4096, .inl (fun _ => 0)))] := hD
    refine lv_aload_n hx hb dX5_word_16 rfl (lv_at hl 0 rfl) ?_
    refine va_get (D := (dC, dI)) (ci := 5) (v := .int 0) (C := RX5) (T := TX5) (N := 17) hx hb hts (by decide +kernel) hown hK hP 0 rfl rfl 0 (by decide) (hts (.fieldLink RX5 22 "WordGuestModel" "thrown" "I") (by decide +kernel)) (fun _ h9 => h9) rfl dX5_word_17 ?_
    refine lv_if_le (tgt := 27) hx hb dX5_word_20 (by decide) (fun c_5 => ?_) (fun c9 => absurd (by decide) c9)
    refine lv_aload_n hx hb dX5_word_27 rfl (lv_at hl 0 rfl) ?_
    refine lv_iload_n hx hb dX5_word_28 rfl (lv_at hl 1 rfl) ?_
    have hPc := hP.sub (ws' := [(m0, .inr (5, [.int 0, .ref mB, .ref mR, .int 0, .ref mO, .int 0, .int 0, .ref mN, .int 0, .int 0, .int 0, .int 0, .int 0, .int 0, .int 0, .int 0, .int 0])), (mB, .inl (cY, 4096, .inl (fun _ => 0)))]) [0, 1] rfl
    have hDc := hD.sub (ws' := [(m0, .inr (5, [.int 0, .ref mB, .ref mR, .int 0, .ref mO, .int 0, .int 0, .ref mN, .int 0, .int 0, .int 0, .int 0, .int 0, .int 0, .int 0, .int 0, .int 0])), (mB, .inl (cY, 4096, .inl (fun _ => 0)))]) [0, 1] (by decide) rfl
    have hKc := hK.sub (tys' := [(cY, .int)]) [0] rfl
    have hFc := va_free (wc := [(m0, .inr (5, [.int 0, .ref mB, .ref mR, .int 0, .ref mO, .int 0, .int 0, .ref mN, .int 0, .int 0, .int 0, .int 0, .int 0, .int 0, .int 0, .int 0, .int 0])), (mB, .inl (cY, 4096, .inl (fun _ => 0)))]) hD hS hA [0, 1] rfl
    refine va_calli (va_runV (C := RX5) (b := m0) (As := [.int pl]) (rest := []) ⟨hx, hb, hml, hown, hts⟩ (c_X5_wordAt l dC dI H.size m0 mB mR mO mN cY pl (iw_in c_3) (iw_in1 c_3)) (cwV 1 hts gX5_word_X5_wordAt rfl rfl rfl (by decide +kernel) ⟨Nat.le_of_ble_eq_true rfl, Nat.le_of_ble_eq_true rfl⟩) ⟨q_blind, va_recv hK hP (ci := 5) (q0 := 0) rfl rfl, fun U hU hW => ⟨rfl, q_pay hU hW hPc hKc hDc hN⟩⟩ rfl rfl hl.1 rfl (lv_room (Nat.le_of_ble_eq_true rfl)) dX5_word_29 ⟨show 0 + 0 ≤ 0 from by omega, show 0 + 0 ≤ 0 from by omega⟩) hS (fun q _ h => hFc q h) hFc (fun r_6 u9 t H locs ht hvm hw_7 hB hz1 hk1 hS => ?_)
    obtain ⟨hP1, hK1, hD1⟩ := hB
    rw [ht] at hP1
    obtain ⟨hP, hD⟩ := va_join (wr := []) (w1 := [(m0, .inr (5, [.int 0, .ref mB, .ref mR, .int 0, .ref mO, .int 0, .int 0, .ref mN, .int 0, .int 0, .int 0, .int 0, .int 0, .int 0, .int 0, .int 0, .int 0])), (mB, .inl (cY, 4096, .inl (fun _ => 0)))]) hP hD [0, 1] [] rfl rfl (by decide) (by decide) hk1 hFc hP1 hD1
    have hP : va_P (dC, dI) vwCl [(m0, .inr (5, [.int 0, .ref mB, .ref mR, .int 0, .ref mO, .int 0, .int 0, .ref mN, .int 0, .int 0, .int 0, .int 0, .int 0, .int 0, .int 0, .int 0, .int 0])), (mB, .inl (cY, 4096, .inl (fun _ => 0)))] H := hP
    have hD : va_D A [(m0, .inr (5, [.int 0, .ref mB, .ref mR, .int 0, .ref mO, .int 0, .int 0, .ref mN, .int 0, .int 0, .int 0, .int 0, .int 0, .int 0, .int 0, .int 0, .int 0])), (mB, .inl (cY, 4096, .inl (fun _ => 0)))] := hD
    refine W.widen (k := 0) (n := 0) (by omega) (by omega) ?_
    try dsimp only at hw_7
    obtain rfl := hw_7
    refine q_toc (y := 0) rfl ?_
    have hP9 := hP.sub (ws' := [(m0, .inr (5, [.int 0, .ref mB, .ref mR, .int 0, .ref mO, .int 0, .int 0, .ref mN, .int 0, .int 0, .int 0, .int 0, .int 0, .int 0, .int 0, .int 0, .int 0])), (mB, .inl (cY, 4096, .inl (fun _ => 0)))]) [0, 1] rfl
    have hD9 := hD.sub (ws' := [(m0, .inr (5, [.int 0, .ref mB, .ref mR, .int 0, .ref mO, .int 0, .int 0, .ref mN, .int 0, .int 0, .int 0, .int 0, .int 0, .int 0, .int 0, .int 0, .int 0])), (mB, .inl (cY, 4096, .inl (fun _ => 0)))]) [0, 1] (by decide) rfl
    have hK9 := hK.sub (tys' := [(cY, .int)]) [0] rfl
    exact W.iret (v := 0) hx hb hr (fun t ht hW => ⟨⟨0, 0, rfl, ⟨rfl, Or.inl ⟨c_3, rfl⟩⟩, by rw [ht]; exact hP9, va_K.moved hW.alike hK9, hD9⟩, hS.F ht⟩) hS.2.2 dX5_word_32
set_option maxHeartbeats 4000000 in
set_option maxRecDepth 100000 in
theorem c_X5_poke (l : Launch) (dC : Nat → ClassId) (dI : Nat → Nat → Nat) (sz : Nat) (m0 : Nat) (mB : Nat) (mR : Nat) (mO : Nat) (mN : Nat) (cY : ClassId) (pl : Int32) (v : Int32)  : Met l yX5_poke wsX5_poke ({ frames := 1, cells := 0, slots := 0, locals := 22 }) (va_Pc [.ref m0, .int pl, .int v] (q_pre dC dI sz [(m0, .inr (5, [.int 0, .ref mB, .ref mR, .int 0, .ref mO, .int 0, .int 0, .ref mN, .int 0, .int 0, .int 0, .int 0, .int 0, .int 0, .int 0, .int 0, .int 0])), (mB, .inl (cY, 4096, .inl (fun _ => 0)))] [(cY, .int)])) (va_Qi (fun (r : Int32) (u9 : Int32 × (Nat → Int32)) => (¬ iw pl = 0 ∧ u9.1 = 0 ∧ r = (if (0 : Int32) = v &&& 65535 then 0 else 1)) ∨ (iw pl = 0 ∧ u9.1 = 1 ∧ r = 0)) (q_at dC dI (va_A [(m0, .inr (5, [.int 0, .ref mB, .ref mR, .int 0, .ref mO, .int 0, .int 0, .ref mN, .int 0, .int 0, .int 0, .int 0, .int 0, .int 0, .int 0, .int 0, .int 0])), (mB, .inl (cY, 4096, .inl (fun _ => 0)))] sz) (fun (u9 : Int32 × (Nat → Int32)) => [(cY, .int)]) (fun (u9 : Int32 × (Nat → Int32)) => [(m0, .inr (5, [.int u9.1, .ref mB, .ref mR, .int 0, .ref mO, .int 0, .int 0, .ref mN, .int 0, .int 0, .int 0, .int 0, .int 0, .int 0, .int 0, .int 0, .int 0])), (mB, .inl (cY, 4096, .inl u9.2))])) (va_A [(m0, .inr (5, [.int 0, .ref mB, .ref mR, .int 0, .ref mO, .int 0, .int 0, .ref mN, .int 0, .int 0, .int 0, .int 0, .int 0, .int 0, .int 0, .int 0, .int 0])), (mB, .inl (cY, 4096, .inl (fun _ => 0)))] sz)) 0 0 (va_A [(m0, .inr (5, [.int 0, .ref mB, .ref mR, .int 0, .ref mO, .int 0, .int 0, .ref mN, .int 0, .int 0, .int 0, .int 0, .int 0, .int 0, .int 0, .int 0, .int 0])), (mB, .inl (cY, 4096, .inl (fun _ => 0)))] sz) := by
  refine Met.ofW (cc := cX5_poke) (maxL := 4) (ret := (some .boolean)) (by decide) rfl ?_
  intro p e s m args below meth c s₁ B hml hv
  obtain ⟨rfl, hsz, hP, hK, hD0, hN⟩ := hv
  have hx := B.exec
  have hb := B.bytes
  have hr := B.returns
  have hts := atoms_spec (ws := wsX5_poke) B.pre
  have hown : s.vm.findClass RX5 = some m.cls := findClass_of_methodNamed B.named
  have hlocks := B.notSynchronized
  subst hsz
  have hD := hD0.self (sz := s.heap.size)
  generalize hAe : va_A [(m0, .inr (5, [.int 0, .ref mB, .ref mR, .int 0, .ref mO, .int 0, .int 0, .ref mN, .int 0, .int 0, .int 0, .int 0, .int 0, .int 0, .int 0, .int 0, .int 0])), (mB, .inl (cY, 4096, .inl (fun _ => 0)))] s.heap.size = A at hD ⊢
  have hA : ∀ q : Nat, s.heap.size ≤ q → A q := fun q h => by rw [← hAe]; exact Or.inr h
  have hS : va_S A s.heap s.heap [] := va_S.rf
  have hP : va_P (dC, dI) vwCl [(m0, .inr (5, [.int 0, .ref mB, .ref mR, .int 0, .ref mO, .int 0, .int 0, .ref mN, .int 0, .int 0, .int 0, .int 0, .int 0, .int 0, .int 0, .int 0, .int 0])), (mB, .inl (cY, 4096, .inl (fun _ => 0)))] s.heap := hP
  have hl := lv_entry ([.ref m0, .int pl, .int v]) (n := 4) (Nat.le_of_ble_eq_true rfl)
  rw [lg_entry_eq]
  generalize (lg_sl ([.ref m0, .int pl, .int v]) ++ List.replicate (4 - (lg_sl ([.ref m0, .int pl, .int v])).length) Slot.unset).toArray = ls at hl ⊢
  have hl : lv_has ls 4 [(0, .ref m0), (1, .int pl), (2, .int v)] := hl
  refine lv_aload_n hx hb dX5_poke_0 rfl (lv_at hl 0 rfl) ?_
  refine lv_iload_n hx hb dX5_poke_1 rfl (lv_at hl 1 rfl) ?_
  have hPc := hP.sub (ws' := []) [] rfl
  have hDc := hD.sub (ws' := []) [] (by decide) rfl
  have hKc := hK.sub (tys' := []) [] rfl
  have hFc := va_free (wc := []) hD hS hA [] rfl
  refine va_calli (va_runS (As := [.int pl]) (rest := [.ref m0]) ⟨hx, hb, hml, hown, hts⟩ (c_X5_isWord l dC dI s.heap.size pl) (va_cwS 1 hts gX5_poke_X5_isWord rfl rfl rfl (by decide +kernel) ⟨Nat.le_of_ble_eq_true rfl, Nat.le_of_ble_eq_true rfl⟩) ⟨q_blind, fun U hU hW => ⟨rfl, q_pay hU hW hPc hKc hDc hN⟩⟩ rfl rfl hl.1 rfl (lv_room (Nat.le_of_ble_eq_true rfl)) dX5_poke_2 ⟨show 0 + 0 ≤ 0 from by omega, show 0 + 0 ≤ 0 from by omega⟩) hS (fun q _ h => hFc q h) hFc (fun r_1 u9 t H locs ht hvm hw_2 hB hz1 hk1 hS => ?_)
  obtain ⟨hP1, hK1, hD1⟩ := hB
  rw [ht] at hP1
  obtain ⟨hP, hD⟩ := va_join (wr := [(m0, .inr (5, [.int 0, .ref mB, .ref mR, .int 0, .ref mO, .int 0, .int 0, .ref mN, .int 0, .int 0, .int 0, .int 0, .int 0, .int 0, .int 0, .int 0, .int 0])), (mB, .inl (cY, 4096, .inl (fun _ => 0)))]) (w1 := []) hP hD [] [0, 1] rfl rfl (by decide) (by decide) hk1 hFc hP1 hD1
  have hP : va_P (dC, dI) vwCl [(m0, .inr (5, [.int 0, .ref mB, .ref mR, .int 0, .ref mO, .int 0, .int 0, .ref mN, .int 0, .int 0, .int 0, .int 0, .int 0, .int 0, .int 0, .int 0, .int 0])), (mB, .inl (cY, 4096, .inl (fun _ => 0)))] H := hP
  have hD : va_D A [(m0, .inr (5, [.int 0, .ref mB, .ref mR, .int 0, .ref mO, .int 0, .int 0, .ref mN, .int 0, .int 0, .int 0, .int 0, .int 0, .int 0, .int 0, .int 0, .int 0])), (mB, .inl (cY, 4096, .inl (fun _ => 0)))] := hD
  refine W.widen (k := 0) (n := 0) (by omega) (by omega) ?_
  try dsimp only at hw_2
  obtain rfl := hw_2
  refine lv_if_eq (tgt := 12) hx hb dX5_poke_5 (by decide) (fun c_3 => ?_) (fun c_3 => ?_)
  · refine lv_iconst (v := 1) hx hb dX5_poke_12 (by decide) ?_
    refine va_put (D := (dC, dI)) (ci := 5) (v := .int 1) (ty := .int) (C := RX5) (T := TX5) (N := 17) hx hb hts (by decide +kernel) tyX5 tyX5_ok nmX5 hown hK hP hD hS 0 rfl rfl 0 (by decide) (hts (.fieldLink RX5 22 "WordGuestModel" "thrown" "I") (by decide +kernel)) (fun _ h9 => h9) rfl (by decide +kernel) rfl rfl (Nat.le_of_ble_eq_true rfl) dX5_poke_13 (fun H locs hP hD hS => ?_)
    have hP : va_P (dC, dI) vwCl [(m0, .inr (5, [.int 1, .ref mB, .ref mR, .int 0, .ref mO, .int 0, .int 0, .ref mN, .int 0, .int 0, .int 0, .int 0, .int 0, .int 0, .int 0, .int 0, .int 0])), (mB, .inl (cY, 4096, .inl (fun _ => 0)))] H := hP
    have hD : va_D A [(m0, .inr (5, [.int 1, .ref mB, .ref mR, .int 0, .ref mO, .int 0, .int 0, .ref mN, .int 0, .int 0, .int 0, .int 0, .int 0, .int 0, .int 0, .int 0, .int 0])), (mB, .inl (cY, 4096, .inl (fun _ => 0)))] := hD
    refine lv_aload_n hx hb dX5_poke_16 rfl (lv_at hl 0 rfl) ?_
    refine va_get (D := (dC, dI)) (ci := 5) (v := .int 1) (C := RX5) (T := TX5) (N := 17) hx hb hts (by decide +kernel) hown hK hP 0 rfl rfl 0 (by decide) (hts (.fieldLink RX5 22 "WordGuestModel" "thrown" "I") (by decide +kernel)) (fun _ h9 => h9) rfl dX5_poke_17 ?_
    refine lv_if_le (tgt := 25) hx hb dX5_poke_20 (by decide) (fun c9 => absurd c9 (by decide)) (fun c_4 => ?_)
    refine lv_iconst (v := 0) hx hb dX5_poke_23 (by decide) ?_
    have hP9 := hP.sub (ws' := [(m0, .inr (5, [.int 1, .ref mB, .ref mR, .int 0, .ref mO, .int 0, .int 0, .ref mN, .int 0, .int 0, .int 0, .int 0, .int 0, .int 0, .int 0, .int 0, .int 0])), (mB, .inl (cY, 4096, .inl (fun _ => 0)))]) [0, 1] rfl
    have hD9 := hD.sub (ws' := [(m0, .inr (5, [.int 1, .ref mB, .ref mR, .int 0, .ref mO, .int 0, .int 0, .ref mN, .int 0, .int 0, .int 0, .int 0, .int 0, .int 0, .int 0, .int 0, .int 0])), (mB, .inl (cY, 4096, .inl (fun _ => 0)))]) [0, 1] (by decide) rfl
    have hK9 := hK.sub (tys' := [(cY, .int)]) [0] rfl
    exact W.zret (v := 0) (ty := .boolean) hx hb hr (by decide) (fun t ht hW => ⟨⟨0, (1, (fun _ => 0)), rfl, Or.inr ⟨c_3, rfl, rfl⟩, by rw [ht]; exact hP9, va_K.moved hW.alike hK9, hD9⟩, hS.F ht⟩) hS.2.2 dX5_poke_24
  · refine lv_iconst (v := 0) hx hb dX5_poke_8 (by decide) ?_
    refine lv_goto (tgt := 13) hx hb dX5_poke_9 (by decide) ?_
    refine va_put (D := (dC, dI)) (ci := 5) (v := .int 0) (ty := .int) (C := RX5) (T := TX5) (N := 17) hx hb hts (by decide +kernel) tyX5 tyX5_ok nmX5 hown hK hP hD hS 0 rfl rfl 0 (by decide) (hts (.fieldLink RX5 22 "WordGuestModel" "thrown" "I") (by decide +kernel)) (fun _ h9 => h9) rfl (by decide +kernel) rfl rfl (Nat.le_of_ble_eq_true rfl) dX5_poke_13 (fun H locs hP hD hS => ?_)
    have hP : va_P (dC, dI) vwCl [(m0, .inr (5, [.int 0, .ref mB, .ref mR, .int 0, .ref mO, .int 0, .int 0, .ref mN, .int 0, .int 0, .int 0, .int 0, .int 0, .int 0, .int 0, .int 0, .int 0])), (mB, .inl (cY, 4096, .inl (fun _ => 0)))] H := hP
    have hD : va_D A [(m0, .inr (5, [.int 0, .ref mB, .ref mR, .int 0, .ref mO, .int 0, .int 0, .ref mN, .int 0, .int 0, .int 0, .int 0, .int 0, .int 0, .int 0, .int 0, .int 0])), (mB, .inl (cY, 4096, .inl (fun _ => 0)))] := hD
    refine lv_aload_n hx hb dX5_poke_16 rfl (lv_at hl 0 rfl) ?_
    refine va_get (D := (dC, dI)) (ci := 5) (v := .int 0) (C := RX5) (T := TX5) (N := 17) hx hb hts (by decide +kernel) hown hK hP 0 rfl rfl 0 (by decide) (hts (.fieldLink RX5 22 "WordGuestModel" "thrown" "I") (by decide +kernel)) (fun _ h9 => h9) rfl dX5_poke_17 ?_
    refine lv_if_le (tgt := 25) hx hb dX5_poke_20 (by decide) (fun c_5 => ?_) (fun c9 => absurd (by decide) c9)
    refine lv_aload_n hx hb dX5_poke_25 rfl (lv_at hl 0 rfl) ?_
    refine lv_iload_n hx hb dX5_poke_26 rfl (lv_at hl 1 rfl) ?_
    have hPc := hP.sub (ws' := [(m0, .inr (5, [.int 0, .ref mB, .ref mR, .int 0, .ref mO, .int 0, .int 0, .ref mN, .int 0, .int 0, .int 0, .int 0, .int 0, .int 0, .int 0, .int 0, .int 0])), (mB, .inl (cY, 4096, .inl (fun _ => 0)))]) [0, 1] rfl
    have hDc := hD.sub (ws' := [(m0, .inr (5, [.int 0, .ref mB, .ref mR, .int 0, .ref mO, .int 0, .int 0, .ref mN, .int 0, .int 0, .int 0, .int 0, .int 0, .int 0, .int 0, .int 0, .int 0])), (mB, .inl (cY, 4096, .inl (fun _ => 0)))]) [0, 1] (by decide) rfl
    have hKc := hK.sub (tys' := [(cY, .int)]) [0] rfl
    have hFc := va_free (wc := [(m0, .inr (5, [.int 0, .ref mB, .ref mR, .int 0, .ref mO, .int 0, .int 0, .ref mN, .int 0, .int 0, .int 0, .int 0, .int 0, .int 0, .int 0, .int 0, .int 0])), (mB, .inl (cY, 4096, .inl (fun _ => 0)))]) hD hS hA [0, 1] rfl
    refine va_calli (va_runV (C := RX5) (b := m0) (As := [.int pl]) (rest := []) ⟨hx, hb, hml, hown, hts⟩ (c_X5_wordAt l dC dI H.size m0 mB mR mO mN cY pl (iw_in c_3) (iw_in1 c_3)) (cwV 1 hts gX5_poke_X5_wordAt rfl rfl rfl (by decide +kernel) ⟨Nat.le_of_ble_eq_true rfl, Nat.le_of_ble_eq_true rfl⟩) ⟨q_blind, va_recv hK hP (ci := 5) (q0 := 0) rfl rfl, fun U hU hW => ⟨rfl, q_pay hU hW hPc hKc hDc hN⟩⟩ rfl rfl hl.1 rfl (lv_room (Nat.le_of_ble_eq_true rfl)) dX5_poke_27 ⟨show 0 + 0 ≤ 0 from by omega, show 0 + 0 ≤ 0 from by omega⟩) hS (fun q _ h => hFc q h) hFc (fun r_6 u9 t H locs ht hvm hw_7 hB hz1 hk1 hS => ?_)
    obtain ⟨hP1, hK1, hD1⟩ := hB
    rw [ht] at hP1
    obtain ⟨hP, hD⟩ := va_join (wr := []) (w1 := [(m0, .inr (5, [.int 0, .ref mB, .ref mR, .int 0, .ref mO, .int 0, .int 0, .ref mN, .int 0, .int 0, .int 0, .int 0, .int 0, .int 0, .int 0, .int 0, .int 0])), (mB, .inl (cY, 4096, .inl (fun _ => 0)))]) hP hD [0, 1] [] rfl rfl (by decide) (by decide) hk1 hFc hP1 hD1
    have hP : va_P (dC, dI) vwCl [(m0, .inr (5, [.int 0, .ref mB, .ref mR, .int 0, .ref mO, .int 0, .int 0, .ref mN, .int 0, .int 0, .int 0, .int 0, .int 0, .int 0, .int 0, .int 0, .int 0])), (mB, .inl (cY, 4096, .inl (fun _ => 0)))] H := hP
    have hD : va_D A [(m0, .inr (5, [.int 0, .ref mB, .ref mR, .int 0, .ref mO, .int 0, .int 0, .ref mN, .int 0, .int 0, .int 0, .int 0, .int 0, .int 0, .int 0, .int 0, .int 0])), (mB, .inl (cY, 4096, .inl (fun _ => 0)))] := hD
    refine W.widen (k := 0) (n := 0) (by omega) (by omega) ?_
    try dsimp only at hw_7
    obtain rfl := hw_7
    refine q_toc (y := 0) rfl ?_
    refine lv_iload_n hx hb dX5_poke_30 rfl (lv_at hl 2 rfl) ?_
    refine lv_ldc (v := 65535) hx hb hown (hts (.constant RX5 30 (65535)) (by decide +kernel)) dX5_poke_31 ?_
    refine lv_iand hx hb dX5_poke_33 ?_
    refine lv_icmp_eq (tgt := 41) hx hb dX5_poke_34 (by decide) (fun c_8 => ?_) (fun c_8 => ?_)
    · refine lv_iconst (v := 0) hx hb dX5_poke_41 (by decide) ?_
      refine lv_istore_n (lv' := [(3, .int 0), (0, .ref m0), (1, .int pl), (2, .int v)]) hx hb dX5_poke_42 rfl hl (by decide) rfl (fun ls hl => ?_)
      refine lv_aload_n hx hb dX5_poke_43 rfl (lv_at hl 1 rfl) ?_
      refine lv_iload_n hx hb dX5_poke_44 rfl (lv_at hl 2 rfl) ?_
      refine lv_iload_n hx hb dX5_poke_45 rfl (lv_at hl 3 rfl) ?_
      have hPc := hP.sub (ws' := [(m0, .inr (5, [.int 0, .ref mB, .ref mR, .int 0, .ref mO, .int 0, .int 0, .ref mN, .int 0, .int 0, .int 0, .int 0, .int 0, .int 0, .int 0, .int 0, .int 0])), (mB, .inl (cY, 4096, .inl (fun _ => 0)))]) [0, 1] rfl
      have hDc := hD.sub (ws' := [(m0, .inr (5, [.int 0, .ref mB, .ref mR, .int 0, .ref mO, .int 0, .int 0, .ref mN, .int 0, .int 0, .int 0, .int 0, .int 0, .int 0, .int 0, .int 0, .int 0])), (mB, .inl (cY, 4096, .inl (fun _ => 0)))]) [0, 1] (by decide) rfl
      have hKc := hK.sub (tys' := [(cY, .int)]) [0] rfl
      have hFc := va_free (wc := [(m0, .inr (5, [.int 0, .ref mB, .ref mR, .int 0, .ref mO, .int 0, .int 0, .ref mN, .int 0, .int 0, .int 0, .int 0, .int 0, .int 0, .int 0, .int 0, .int 0])), (mB, .inl (cY, 4096, .inl (fun _ => 0)))]) hD hS hA [0, 1] rfl
      refine va_callv (va_runV (C := RX5) (b := m0) (As := [.int pl, .int v]) (rest := []) ⟨hx, hb, hml, hown, hts⟩ (c_X5_setWord l dC dI H.size m0 mB mR mO mN cY (fun _ => 0) pl v (iw_in c_3) (iw_in1 c_3)) (cwV 2 hts gX5_poke_X5_setWord rfl rfl rfl (by decide +kernel) ⟨Nat.le_of_ble_eq_true rfl, Nat.le_of_ble_eq_true rfl⟩) ⟨q_blind, va_recv hK hP (ci := 5) (q0 := 0) rfl rfl, fun U hU hW => ⟨rfl, q_pay hU hW hPc hKc hDc hN⟩⟩ rfl rfl hl.1 rfl (lv_room (Nat.le_of_ble_eq_true rfl)) dX5_poke_46 ⟨show 0 + 0 ≤ 0 from by omega, show 0 + 0 ≤ 0 from by omega⟩) hS (fun q _ h => hFc q h) hFc (fun u9 t H locs ht hvm hw_10 hB hz1 hk1 hS => ?_)
      obtain ⟨bf2_11, rfl⟩ : ∃ z, z = u9 := ⟨_, rfl⟩
      obtain ⟨hP1, hK1, hD1⟩ := hB
      rw [ht] at hP1
      obtain ⟨hP, hD⟩ := va_join (wr := []) (w1 := [(m0, .inr (5, [.int 0, .ref mB, .ref mR, .int 0, .ref mO, .int 0, .int 0, .ref mN, .int 0, .int 0, .int 0, .int 0, .int 0, .int 0, .int 0, .int 0, .int 0])), (mB, .inl (cY, 4096, .inl bf2_11))]) hP hD [0, 1] [] rfl rfl (by decide) (by decide) hk1 hFc hP1 hD1
      have hP : va_P (dC, dI) vwCl [(m0, .inr (5, [.int 0, .ref mB, .ref mR, .int 0, .ref mO, .int 0, .int 0, .ref mN, .int 0, .int 0, .int 0, .int 0, .int 0, .int 0, .int 0, .int 0, .int 0])), (mB, .inl (cY, 4096, .inl bf2_11))] H := hP
      have hD : va_D A [(m0, .inr (5, [.int 0, .ref mB, .ref mR, .int 0, .ref mO, .int 0, .int 0, .ref mN, .int 0, .int 0, .int 0, .int 0, .int 0, .int 0, .int 0, .int 0, .int 0])), (mB, .inl (cY, 4096, .inl bf2_11))] := hD
      refine W.widen (k := 0) (n := 0) (by omega) (by omega) ?_
      try dsimp only at hw_10
      refine lv_iload_n hx hb dX5_poke_49 rfl (lv_at hl 0 rfl) ?_
      have hP9 := hP.sub (ws' := [(m0, .inr (5, [.int 0, .ref mB, .ref mR, .int 0, .ref mO, .int 0, .int 0, .ref mN, .int 0, .int 0, .int 0, .int 0, .int 0, .int 0, .int 0, .int 0, .int 0])), (mB, .inl (cY, 4096, .inl bf2_11))]) [0, 1] rfl
      have hD9 := hD.sub (ws' := [(m0, .inr (5, [.int 0, .ref mB, .ref mR, .int 0, .ref mO, .int 0, .int 0, .ref mN, .int 0, .int 0, .int 0, .int 0, .int 0, .int 0, .int 0, .int 0, .int 0])), (mB, .inl (cY, 4096, .inl bf2_11))]) [0, 1] (by decide) rfl
      have hK9 := hK.sub (tys' := [(cY, .int)]) [0] rfl
      exact W.zret (v := 0) (ty := .boolean) hx hb hr (by decide) (fun t ht hW => ⟨⟨0, (0, bf2_11), rfl, Or.inl ⟨c_3, rfl, by rw [if_pos c_8]⟩, by rw [ht]; exact hP9, va_K.moved hW.alike hK9, hD9⟩, hS.F ht⟩) hS.2.2 dX5_poke_50
    · refine lv_iconst (v := 1) hx hb dX5_poke_37 (by decide) ?_
      refine lv_goto (tgt := 42) hx hb dX5_poke_38 (by decide) ?_
      refine lv_istore_n (lv' := [(3, .int 1), (0, .ref m0), (1, .int pl), (2, .int v)]) hx hb dX5_poke_42 rfl hl (by decide) rfl (fun ls hl => ?_)
      refine lv_aload_n hx hb dX5_poke_43 rfl (lv_at hl 1 rfl) ?_
      refine lv_iload_n hx hb dX5_poke_44 rfl (lv_at hl 2 rfl) ?_
      refine lv_iload_n hx hb dX5_poke_45 rfl (lv_at hl 3 rfl) ?_
      have hPc := hP.sub (ws' := [(m0, .inr (5, [.int 0, .ref mB, .ref mR, .int 0, .ref mO, .int 0, .int 0, .ref mN, .int 0, .int 0, .int 0, .int 0, .int 0, .int 0, .int 0, .int 0, .int 0])), (mB, .inl (cY, 4096, .inl (fun _ => 0)))]) [0, 1] rfl
      have hDc := hD.sub (ws' := [(m0, .inr (5, [.int 0, .ref mB, .ref mR, .int 0, .ref mO, .int 0, .int 0, .ref mN, .int 0, .int 0, .int 0, .int 0, .int 0, .int 0, .int 0, .int 0, .int 0])), (mB, .inl (cY, 4096, .inl (fun _ => 0)))]) [0, 1] (by decide) rfl
      have hKc := hK.sub (tys' := [(cY, .int)]) [0] rfl
      have hFc := va_free (wc := [(m0, .inr (5, [.int 0, .ref mB, .ref mR, .int 0, .ref mO, .int 0, .int 0, .ref mN, .int 0, .int 0, .int 0, .int 0, .int 0, .int 0, .int 0, .int 0, .int 0])), (mB, .inl (cY, 4096, .inl (fun _ => 0)))]) hD hS hA [0, 1] rfl
      refine va_callv (va_runV (C := RX5) (b := m0) (As := [.int pl, .int v]) (rest := []) ⟨hx, hb, hml, hown, hts⟩ (c_X5_setWord l dC dI H.size m0 mB mR mO mN cY (fun _ => 0) pl v (iw_in c_3) (iw_in1 c_3)) (cwV 2 hts gX5_poke_X5_setWord rfl rfl rfl (by decide +kernel) ⟨Nat.le_of_ble_eq_true rfl, Nat.le_of_ble_eq_true rfl⟩) ⟨q_blind, va_recv hK hP (ci := 5) (q0 := 0) rfl rfl, fun U hU hW => ⟨rfl, q_pay hU hW hPc hKc hDc hN⟩⟩ rfl rfl hl.1 rfl (lv_room (Nat.le_of_ble_eq_true rfl)) dX5_poke_46 ⟨show 0 + 0 ≤ 0 from by omega, show 0 + 0 ≤ 0 from by omega⟩) hS (fun q _ h => hFc q h) hFc (fun u9 t H locs ht hvm hw_13 hB hz1 hk1 hS => ?_)
      obtain ⟨bf2_14, rfl⟩ : ∃ z, z = u9 := ⟨_, rfl⟩
      obtain ⟨hP1, hK1, hD1⟩ := hB
      rw [ht] at hP1
      obtain ⟨hP, hD⟩ := va_join (wr := []) (w1 := [(m0, .inr (5, [.int 0, .ref mB, .ref mR, .int 0, .ref mO, .int 0, .int 0, .ref mN, .int 0, .int 0, .int 0, .int 0, .int 0, .int 0, .int 0, .int 0, .int 0])), (mB, .inl (cY, 4096, .inl bf2_14))]) hP hD [0, 1] [] rfl rfl (by decide) (by decide) hk1 hFc hP1 hD1
      have hP : va_P (dC, dI) vwCl [(m0, .inr (5, [.int 0, .ref mB, .ref mR, .int 0, .ref mO, .int 0, .int 0, .ref mN, .int 0, .int 0, .int 0, .int 0, .int 0, .int 0, .int 0, .int 0, .int 0])), (mB, .inl (cY, 4096, .inl bf2_14))] H := hP
      have hD : va_D A [(m0, .inr (5, [.int 0, .ref mB, .ref mR, .int 0, .ref mO, .int 0, .int 0, .ref mN, .int 0, .int 0, .int 0, .int 0, .int 0, .int 0, .int 0, .int 0, .int 0])), (mB, .inl (cY, 4096, .inl bf2_14))] := hD
      refine W.widen (k := 0) (n := 0) (by omega) (by omega) ?_
      try dsimp only at hw_13
      refine lv_iload_n hx hb dX5_poke_49 rfl (lv_at hl 0 rfl) ?_
      have hP9 := hP.sub (ws' := [(m0, .inr (5, [.int 0, .ref mB, .ref mR, .int 0, .ref mO, .int 0, .int 0, .ref mN, .int 0, .int 0, .int 0, .int 0, .int 0, .int 0, .int 0, .int 0, .int 0])), (mB, .inl (cY, 4096, .inl bf2_14))]) [0, 1] rfl
      have hD9 := hD.sub (ws' := [(m0, .inr (5, [.int 0, .ref mB, .ref mR, .int 0, .ref mO, .int 0, .int 0, .ref mN, .int 0, .int 0, .int 0, .int 0, .int 0, .int 0, .int 0, .int 0, .int 0])), (mB, .inl (cY, 4096, .inl bf2_14))]) [0, 1] (by decide) rfl
      have hK9 := hK.sub (tys' := [(cY, .int)]) [0] rfl
      exact W.zret (v := 1) (ty := .boolean) hx hb hr (by decide) (fun t ht hW => ⟨⟨1, (0, bf2_14), rfl, Or.inl ⟨c_3, rfl, by rw [if_neg c_8]⟩, by rw [ht]; exact hP9, va_K.moved hW.alike hK9, hD9⟩, hS.F ht⟩) hS.2.2 dX5_poke_50
set_option maxHeartbeats 4000000 in
set_option maxRecDepth 100000 in
theorem c_X5_register (l : Launch) (dC : Nat → ClassId) (dI : Nat → Nat → Nat) (sz : Nat) (m0 : Nat) (mB : Nat) (mR : Nat) (mO : Nat) (mN : Nat) (cG : ClassId) (k : Int32)  : Met l yX5_register wsX5_register ({ frames := 0, cells := 0, slots := 0, locals := 0 }) (va_Pc [.ref m0, .int k] (q_pre dC dI sz [(m0, .inr (5, [.int 0, .ref mB, .ref mR, .int 0, .ref mO, .int 0, .int 0, .ref mN, .int 0, .int 0, .int 0, .int 0, .int 0, .int 0, .int 0, .int 0, .int 0])), (mR, .inl (cG, 8, .inl (fun _ => 0)))] [(cG, .int)])) (va_Qi (fun (r : Int32) (u9 : Int32) => (r = 0) ∧ ((vp_in k 8 ∧ u9 = 0) ∨ (¬ vp_in k 8 ∧ u9 = 1))) (q_at dC dI (va_A [(m0, .inr (5, [.int 0, .ref mB, .ref mR, .int 0, .ref mO, .int 0, .int 0, .ref mN, .int 0, .int 0, .int 0, .int 0, .int 0, .int 0, .int 0, .int 0, .int 0])), (mR, .inl (cG, 8, .inl (fun _ => 0)))] sz) (fun (u9 : Int32) => [(cG, .int)]) (fun (u9 : Int32) => [(m0, .inr (5, [.int u9, .ref mB, .ref mR, .int 0, .ref mO, .int 0, .int 0, .ref mN, .int 0, .int 0, .int 0, .int 0, .int 0, .int 0, .int 0, .int 0, .int 0])), (mR, .inl (cG, 8, .inl (fun _ => 0)))])) (va_A [(m0, .inr (5, [.int 0, .ref mB, .ref mR, .int 0, .ref mO, .int 0, .int 0, .ref mN, .int 0, .int 0, .int 0, .int 0, .int 0, .int 0, .int 0, .int 0, .int 0])), (mR, .inl (cG, 8, .inl (fun _ => 0)))] sz)) 0 0 (va_A [(m0, .inr (5, [.int 0, .ref mB, .ref mR, .int 0, .ref mO, .int 0, .int 0, .ref mN, .int 0, .int 0, .int 0, .int 0, .int 0, .int 0, .int 0, .int 0, .int 0])), (mR, .inl (cG, 8, .inl (fun _ => 0)))] sz) := by
  refine Met.ofW (cc := cX5_register) (maxL := 2) (ret := (some .int)) (by decide) rfl ?_
  intro p e s m args below meth c s₁ B hml hv
  obtain ⟨rfl, hsz, hP, hK, hD0, hN⟩ := hv
  have hx := B.exec
  have hb := B.bytes
  have hr := B.returns
  have hts := atoms_spec (ws := wsX5_register) B.pre
  have hown : s.vm.findClass RX5 = some m.cls := findClass_of_methodNamed B.named
  have hlocks := B.notSynchronized
  subst hsz
  have hD := hD0.self (sz := s.heap.size)
  generalize hAe : va_A [(m0, .inr (5, [.int 0, .ref mB, .ref mR, .int 0, .ref mO, .int 0, .int 0, .ref mN, .int 0, .int 0, .int 0, .int 0, .int 0, .int 0, .int 0, .int 0, .int 0])), (mR, .inl (cG, 8, .inl (fun _ => 0)))] s.heap.size = A at hD ⊢
  have hA : ∀ q : Nat, s.heap.size ≤ q → A q := fun q h => by rw [← hAe]; exact Or.inr h
  have hS : va_S A s.heap s.heap [] := va_S.rf
  have hP : va_P (dC, dI) vwCl [(m0, .inr (5, [.int 0, .ref mB, .ref mR, .int 0, .ref mO, .int 0, .int 0, .ref mN, .int 0, .int 0, .int 0, .int 0, .int 0, .int 0, .int 0, .int 0, .int 0])), (mR, .inl (cG, 8, .inl (fun _ => 0)))] s.heap := hP
  have hl := lv_entry ([.ref m0, .int k]) (n := 2) (Nat.le_of_ble_eq_true rfl)
  rw [lg_entry_eq]
  generalize (lg_sl ([.ref m0, .int k]) ++ List.replicate (2 - (lg_sl ([.ref m0, .int k])).length) Slot.unset).toArray = ls at hl ⊢
  have hl : lv_has ls 2 [(0, .ref m0), (1, .int k)] := hl
  refine lv_aload_n hx hb dX5_register_0 rfl (lv_at hl 0 rfl) ?_
  refine lv_iload_n hx hb dX5_register_1 rfl (lv_at hl 1 rfl) ?_
  refine lv_if_lt (tgt := 15) hx hb dX5_register_2 (by decide) (fun c_1 => ?_) (fun c_1 => ?_)
  · refine lv_iconst (v := 1) hx hb dX5_register_15 (by decide) ?_
    refine va_put (D := (dC, dI)) (ci := 5) (v := .int 1) (ty := .int) (C := RX5) (T := TX5) (N := 17) hx hb hts (by decide +kernel) tyX5 tyX5_ok nmX5 hown hK hP hD hS 0 rfl rfl 0 (by decide) (hts (.fieldLink RX5 22 "WordGuestModel" "thrown" "I") (by decide +kernel)) (fun _ h9 => h9) rfl (by decide +kernel) rfl rfl (Nat.le_of_ble_eq_true rfl) dX5_register_16 (fun H locs hP hD hS => ?_)
    have hP : va_P (dC, dI) vwCl [(m0, .inr (5, [.int 1, .ref mB, .ref mR, .int 0, .ref mO, .int 0, .int 0, .ref mN, .int 0, .int 0, .int 0, .int 0, .int 0, .int 0, .int 0, .int 0, .int 0])), (mR, .inl (cG, 8, .inl (fun _ => 0)))] H := hP
    have hD : va_D A [(m0, .inr (5, [.int 1, .ref mB, .ref mR, .int 0, .ref mO, .int 0, .int 0, .ref mN, .int 0, .int 0, .int 0, .int 0, .int 0, .int 0, .int 0, .int 0, .int 0])), (mR, .inl (cG, 8, .inl (fun _ => 0)))] := hD
    refine lv_aload_n hx hb dX5_register_19 rfl (lv_at hl 0 rfl) ?_
    refine va_get (D := (dC, dI)) (ci := 5) (v := .int 1) (C := RX5) (T := TX5) (N := 17) hx hb hts (by decide +kernel) hown hK hP 0 rfl rfl 0 (by decide) (hts (.fieldLink RX5 22 "WordGuestModel" "thrown" "I") (by decide +kernel)) (fun _ h9 => h9) rfl dX5_register_20 ?_
    refine lv_if_le (tgt := 30) hx hb dX5_register_23 (by decide) (fun c9 => absurd c9 (by decide)) (fun c_2 => ?_)
    refine lv_iconst (v := 0) hx hb dX5_register_26 (by decide) ?_
    refine lv_goto (tgt := 36) hx hb dX5_register_27 (by decide) ?_
    have hP9 := hP.sub (ws' := [(m0, .inr (5, [.int 1, .ref mB, .ref mR, .int 0, .ref mO, .int 0, .int 0, .ref mN, .int 0, .int 0, .int 0, .int 0, .int 0, .int 0, .int 0, .int 0, .int 0])), (mR, .inl (cG, 8, .inl (fun _ => 0)))]) [0, 1] rfl
    have hD9 := hD.sub (ws' := [(m0, .inr (5, [.int 1, .ref mB, .ref mR, .int 0, .ref mO, .int 0, .int 0, .ref mN, .int 0, .int 0, .int 0, .int 0, .int 0, .int 0, .int 0, .int 0, .int 0])), (mR, .inl (cG, 8, .inl (fun _ => 0)))]) [0, 1] (by decide) rfl
    have hK9 := hK.sub (tys' := [(cG, .int)]) [0] rfl
    exact W.iret (v := 0) hx hb hr (fun t ht hW => ⟨⟨0, 1, rfl, ⟨rfl, Or.inr ⟨q_n8a c_1, rfl⟩⟩, by rw [ht]; exact hP9, va_K.moved hW.alike hK9, hD9⟩, hS.F ht⟩) hS.2.2 dX5_register_36
  · refine lv_iload_n hx hb dX5_register_5 rfl (lv_at hl 1 rfl) ?_
    refine lv_bipush (v := 8) hx hb dX5_register_6 (by decide) ?_
    refine lv_icmp_ge (tgt := 15) hx hb dX5_register_8 (by decide) (fun c_3 => ?_) (fun c_3 => ?_)
    · refine lv_iconst (v := 1) hx hb dX5_register_15 (by decide) ?_
      refine va_put (D := (dC, dI)) (ci := 5) (v := .int 1) (ty := .int) (C := RX5) (T := TX5) (N := 17) hx hb hts (by decide +kernel) tyX5 tyX5_ok nmX5 hown hK hP hD hS 0 rfl rfl 0 (by decide) (hts (.fieldLink RX5 22 "WordGuestModel" "thrown" "I") (by decide +kernel)) (fun _ h9 => h9) rfl (by decide +kernel) rfl rfl (Nat.le_of_ble_eq_true rfl) dX5_register_16 (fun H locs hP hD hS => ?_)
      have hP : va_P (dC, dI) vwCl [(m0, .inr (5, [.int 1, .ref mB, .ref mR, .int 0, .ref mO, .int 0, .int 0, .ref mN, .int 0, .int 0, .int 0, .int 0, .int 0, .int 0, .int 0, .int 0, .int 0])), (mR, .inl (cG, 8, .inl (fun _ => 0)))] H := hP
      have hD : va_D A [(m0, .inr (5, [.int 1, .ref mB, .ref mR, .int 0, .ref mO, .int 0, .int 0, .ref mN, .int 0, .int 0, .int 0, .int 0, .int 0, .int 0, .int 0, .int 0, .int 0])), (mR, .inl (cG, 8, .inl (fun _ => 0)))] := hD
      refine lv_aload_n hx hb dX5_register_19 rfl (lv_at hl 0 rfl) ?_
      refine va_get (D := (dC, dI)) (ci := 5) (v := .int 1) (C := RX5) (T := TX5) (N := 17) hx hb hts (by decide +kernel) hown hK hP 0 rfl rfl 0 (by decide) (hts (.fieldLink RX5 22 "WordGuestModel" "thrown" "I") (by decide +kernel)) (fun _ h9 => h9) rfl dX5_register_20 ?_
      refine lv_if_le (tgt := 30) hx hb dX5_register_23 (by decide) (fun c9 => absurd c9 (by decide)) (fun c_4 => ?_)
      refine lv_iconst (v := 0) hx hb dX5_register_26 (by decide) ?_
      refine lv_goto (tgt := 36) hx hb dX5_register_27 (by decide) ?_
      have hP9 := hP.sub (ws' := [(m0, .inr (5, [.int 1, .ref mB, .ref mR, .int 0, .ref mO, .int 0, .int 0, .ref mN, .int 0, .int 0, .int 0, .int 0, .int 0, .int 0, .int 0, .int 0, .int 0])), (mR, .inl (cG, 8, .inl (fun _ => 0)))]) [0, 1] rfl
      have hD9 := hD.sub (ws' := [(m0, .inr (5, [.int 1, .ref mB, .ref mR, .int 0, .ref mO, .int 0, .int 0, .ref mN, .int 0, .int 0, .int 0, .int 0, .int 0, .int 0, .int 0, .int 0, .int 0])), (mR, .inl (cG, 8, .inl (fun _ => 0)))]) [0, 1] (by decide) rfl
      have hK9 := hK.sub (tys' := [(cG, .int)]) [0] rfl
      exact W.iret (v := 0) hx hb hr (fun t ht hW => ⟨⟨0, 1, rfl, ⟨rfl, Or.inr ⟨q_n8b (Int32.not_lt.mpr c_3), rfl⟩⟩, by rw [ht]; exact hP9, va_K.moved hW.alike hK9, hD9⟩, hS.F ht⟩) hS.2.2 dX5_register_36
    · refine lv_iconst (v := 0) hx hb dX5_register_11 (by decide) ?_
      refine lv_goto (tgt := 16) hx hb dX5_register_12 (by decide) ?_
      refine va_put (D := (dC, dI)) (ci := 5) (v := .int 0) (ty := .int) (C := RX5) (T := TX5) (N := 17) hx hb hts (by decide +kernel) tyX5 tyX5_ok nmX5 hown hK hP hD hS 0 rfl rfl 0 (by decide) (hts (.fieldLink RX5 22 "WordGuestModel" "thrown" "I") (by decide +kernel)) (fun _ h9 => h9) rfl (by decide +kernel) rfl rfl (Nat.le_of_ble_eq_true rfl) dX5_register_16 (fun H locs hP hD hS => ?_)
      have hP : va_P (dC, dI) vwCl [(m0, .inr (5, [.int 0, .ref mB, .ref mR, .int 0, .ref mO, .int 0, .int 0, .ref mN, .int 0, .int 0, .int 0, .int 0, .int 0, .int 0, .int 0, .int 0, .int 0])), (mR, .inl (cG, 8, .inl (fun _ => 0)))] H := hP
      have hD : va_D A [(m0, .inr (5, [.int 0, .ref mB, .ref mR, .int 0, .ref mO, .int 0, .int 0, .ref mN, .int 0, .int 0, .int 0, .int 0, .int 0, .int 0, .int 0, .int 0, .int 0])), (mR, .inl (cG, 8, .inl (fun _ => 0)))] := hD
      refine lv_aload_n hx hb dX5_register_19 rfl (lv_at hl 0 rfl) ?_
      refine va_get (D := (dC, dI)) (ci := 5) (v := .int 0) (C := RX5) (T := TX5) (N := 17) hx hb hts (by decide +kernel) hown hK hP 0 rfl rfl 0 (by decide) (hts (.fieldLink RX5 22 "WordGuestModel" "thrown" "I") (by decide +kernel)) (fun _ h9 => h9) rfl dX5_register_20 ?_
      refine lv_if_le (tgt := 30) hx hb dX5_register_23 (by decide) (fun c_5 => ?_) (fun c9 => absurd (by decide) c9)
      refine lv_aload_n hx hb dX5_register_30 rfl (lv_at hl 0 rfl) ?_
      refine va_get (D := (dC, dI)) (ci := 5) (v := .ref mR) (C := RX5) (T := TX5) (N := 17) hx hb hts (by decide +kernel) hown hK hP 0 rfl rfl 2 (by decide) (hts (.fieldLink RX5 13 "WordGuestModel" "registers" "[I") (by decide +kernel)) (fun _ h9 => h9) rfl dX5_register_31 ?_
      refine lv_iload_n hx hb dX5_register_34 rfl (lv_at hl 1 rfl) ?_
      refine va_iald hx hb hK hP 1 0 rfl rfl (q_in8 c_1 (Int32.not_le.mp c_3)) dX5_register_35 ?_
      refine q_toc (y := 0) rfl ?_
      have hP9 := hP.sub (ws' := [(m0, .inr (5, [.int 0, .ref mB, .ref mR, .int 0, .ref mO, .int 0, .int 0, .ref mN, .int 0, .int 0, .int 0, .int 0, .int 0, .int 0, .int 0, .int 0, .int 0])), (mR, .inl (cG, 8, .inl (fun _ => 0)))]) [0, 1] rfl
      have hD9 := hD.sub (ws' := [(m0, .inr (5, [.int 0, .ref mB, .ref mR, .int 0, .ref mO, .int 0, .int 0, .ref mN, .int 0, .int 0, .int 0, .int 0, .int 0, .int 0, .int 0, .int 0, .int 0])), (mR, .inl (cG, 8, .inl (fun _ => 0)))]) [0, 1] (by decide) rfl
      have hK9 := hK.sub (tys' := [(cG, .int)]) [0] rfl
      exact W.iret (v := 0) hx hb hr (fun t ht hW => ⟨⟨0, 0, rfl, ⟨rfl, Or.inl ⟨q_in8 c_1 (Int32.not_le.mp c_3), rfl⟩⟩, by rw [ht]; exact hP9, va_K.moved hW.alike hK9, hD9⟩, hS.F ht⟩) hS.2.2 dX5_register_36
set_option maxHeartbeats 4000000 in
set_option maxRecDepth 100000 in
theorem c_X5_put (l : Launch) (dC : Nat → ClassId) (dI : Nat → Nat → Nat) (sz : Nat) (m0 : Nat) (mB : Nat) (mR : Nat) (mO : Nat) (mN : Nat) (cG : ClassId) (k : Int32) (v : Int32)  : Met l yX5_put wsX5_put ({ frames := 0, cells := 0, slots := 0, locals := 0 }) (va_Pc [.ref m0, .int k, .int v] (q_pre dC dI sz [(m0, .inr (5, [.int 0, .ref mB, .ref mR, .int 0, .ref mO, .int 0, .int 0, .ref mN, .int 0, .int 0, .int 0, .int 0, .int 0, .int 0, .int 0, .int 0, .int 0])), (mR, .inl (cG, 8, .inl (fun _ => 0)))] [(cG, .int)])) (va_Qv (fun (u9 : Int32 × (Nat → Int32)) => (vp_in k 8 ∧ u9.1 = 0) ∨ (¬ vp_in k 8 ∧ u9.1 = 1)) (q_at dC dI (va_A [(m0, .inr (5, [.int 0, .ref mB, .ref mR, .int 0, .ref mO, .int 0, .int 0, .ref mN, .int 0, .int 0, .int 0, .int 0, .int 0, .int 0, .int 0, .int 0, .int 0])), (mR, .inl (cG, 8, .inl (fun _ => 0)))] sz) (fun (u9 : Int32 × (Nat → Int32)) => [(cG, .int)]) (fun (u9 : Int32 × (Nat → Int32)) => [(m0, .inr (5, [.int u9.1, .ref mB, .ref mR, .int 0, .ref mO, .int 0, .int 0, .ref mN, .int 0, .int 0, .int 0, .int 0, .int 0, .int 0, .int 0, .int 0, .int 0])), (mR, .inl (cG, 8, .inl u9.2))])) (va_A [(m0, .inr (5, [.int 0, .ref mB, .ref mR, .int 0, .ref mO, .int 0, .int 0, .ref mN, .int 0, .int 0, .int 0, .int 0, .int 0, .int 0, .int 0, .int 0, .int 0])), (mR, .inl (cG, 8, .inl (fun _ => 0)))] sz)) 0 0 (va_A [(m0, .inr (5, [.int 0, .ref mB, .ref mR, .int 0, .ref mO, .int 0, .int 0, .ref mN, .int 0, .int 0, .int 0, .int 0, .int 0, .int 0, .int 0, .int 0, .int 0])), (mR, .inl (cG, 8, .inl (fun _ => 0)))] sz) := by
  refine Met.ofW (cc := cX5_put) (maxL := 3) (ret := none) (by decide) rfl ?_
  intro p e s m args below meth c s₁ B hml hv
  obtain ⟨rfl, hsz, hP, hK, hD0, hN⟩ := hv
  have hx := B.exec
  have hb := B.bytes
  have hr := B.returns
  have hts := atoms_spec (ws := wsX5_put) B.pre
  have hown : s.vm.findClass RX5 = some m.cls := findClass_of_methodNamed B.named
  have hlocks := B.notSynchronized
  subst hsz
  have hD := hD0.self (sz := s.heap.size)
  generalize hAe : va_A [(m0, .inr (5, [.int 0, .ref mB, .ref mR, .int 0, .ref mO, .int 0, .int 0, .ref mN, .int 0, .int 0, .int 0, .int 0, .int 0, .int 0, .int 0, .int 0, .int 0])), (mR, .inl (cG, 8, .inl (fun _ => 0)))] s.heap.size = A at hD ⊢
  have hA : ∀ q : Nat, s.heap.size ≤ q → A q := fun q h => by rw [← hAe]; exact Or.inr h
  have hS : va_S A s.heap s.heap [] := va_S.rf
  have hP : va_P (dC, dI) vwCl [(m0, .inr (5, [.int 0, .ref mB, .ref mR, .int 0, .ref mO, .int 0, .int 0, .ref mN, .int 0, .int 0, .int 0, .int 0, .int 0, .int 0, .int 0, .int 0, .int 0])), (mR, .inl (cG, 8, .inl (fun _ => 0)))] s.heap := hP
  have hl := lv_entry ([.ref m0, .int k, .int v]) (n := 3) (Nat.le_of_ble_eq_true rfl)
  rw [lg_entry_eq]
  generalize (lg_sl ([.ref m0, .int k, .int v]) ++ List.replicate (3 - (lg_sl ([.ref m0, .int k, .int v])).length) Slot.unset).toArray = ls at hl ⊢
  have hl : lv_has ls 3 [(0, .ref m0), (1, .int k), (2, .int v)] := hl
  refine lv_aload_n hx hb dX5_put_0 rfl (lv_at hl 0 rfl) ?_
  refine lv_iload_n hx hb dX5_put_1 rfl (lv_at hl 1 rfl) ?_
  refine lv_if_lt (tgt := 15) hx hb dX5_put_2 (by decide) (fun c_1 => ?_) (fun c_1 => ?_)
  · refine lv_iconst (v := 1) hx hb dX5_put_15 (by decide) ?_
    refine va_put (D := (dC, dI)) (ci := 5) (v := .int 1) (ty := .int) (C := RX5) (T := TX5) (N := 17) hx hb hts (by decide +kernel) tyX5 tyX5_ok nmX5 hown hK hP hD hS 0 rfl rfl 0 (by decide) (hts (.fieldLink RX5 22 "WordGuestModel" "thrown" "I") (by decide +kernel)) (fun _ h9 => h9) rfl (by decide +kernel) rfl rfl (Nat.le_of_ble_eq_true rfl) dX5_put_16 (fun H locs hP hD hS => ?_)
    have hP : va_P (dC, dI) vwCl [(m0, .inr (5, [.int 1, .ref mB, .ref mR, .int 0, .ref mO, .int 0, .int 0, .ref mN, .int 0, .int 0, .int 0, .int 0, .int 0, .int 0, .int 0, .int 0, .int 0])), (mR, .inl (cG, 8, .inl (fun _ => 0)))] H := hP
    have hD : va_D A [(m0, .inr (5, [.int 1, .ref mB, .ref mR, .int 0, .ref mO, .int 0, .int 0, .ref mN, .int 0, .int 0, .int 0, .int 0, .int 0, .int 0, .int 0, .int 0, .int 0])), (mR, .inl (cG, 8, .inl (fun _ => 0)))] := hD
    refine lv_aload_n hx hb dX5_put_19 rfl (lv_at hl 0 rfl) ?_
    refine va_get (D := (dC, dI)) (ci := 5) (v := .int 1) (C := RX5) (T := TX5) (N := 17) hx hb hts (by decide +kernel) hown hK hP 0 rfl rfl 0 (by decide) (hts (.fieldLink RX5 22 "WordGuestModel" "thrown" "I") (by decide +kernel)) (fun _ h9 => h9) rfl dX5_put_20 ?_
    refine lv_if_ne (tgt := 36) hx hb dX5_put_23 (by decide) (fun c_2 => ?_) (fun c9 => absurd c9 (by decide))
    have hP9 := hP.sub (ws' := [(m0, .inr (5, [.int 1, .ref mB, .ref mR, .int 0, .ref mO, .int 0, .int 0, .ref mN, .int 0, .int 0, .int 0, .int 0, .int 0, .int 0, .int 0, .int 0, .int 0])), (mR, .inl (cG, 8, .inl (fun _ => 0)))]) [0, 1] rfl
    have hD9 := hD.sub (ws' := [(m0, .inr (5, [.int 1, .ref mB, .ref mR, .int 0, .ref mO, .int 0, .int 0, .ref mN, .int 0, .int 0, .int 0, .int 0, .int 0, .int 0, .int 0, .int 0, .int 0])), (mR, .inl (cG, 8, .inl (fun _ => 0)))]) [0, 1] (by decide) rfl
    have hK9 := hK.sub (tys' := [(cG, .int)]) [0] rfl
    exact W.vret hx hb hr (fun t ht hW => ⟨⟨(1, (fun _ => 0)), rfl, Or.inr ⟨q_n8a c_1, rfl⟩, by rw [ht]; exact hP9, va_K.moved hW.alike hK9, hD9⟩, hS.F ht⟩) hS.2.2 dX5_put_36
  · refine lv_iload_n hx hb dX5_put_5 rfl (lv_at hl 1 rfl) ?_
    refine lv_bipush (v := 8) hx hb dX5_put_6 (by decide) ?_
    refine lv_icmp_ge (tgt := 15) hx hb dX5_put_8 (by decide) (fun c_3 => ?_) (fun c_3 => ?_)
    · refine lv_iconst (v := 1) hx hb dX5_put_15 (by decide) ?_
      refine va_put (D := (dC, dI)) (ci := 5) (v := .int 1) (ty := .int) (C := RX5) (T := TX5) (N := 17) hx hb hts (by decide +kernel) tyX5 tyX5_ok nmX5 hown hK hP hD hS 0 rfl rfl 0 (by decide) (hts (.fieldLink RX5 22 "WordGuestModel" "thrown" "I") (by decide +kernel)) (fun _ h9 => h9) rfl (by decide +kernel) rfl rfl (Nat.le_of_ble_eq_true rfl) dX5_put_16 (fun H locs hP hD hS => ?_)
      have hP : va_P (dC, dI) vwCl [(m0, .inr (5, [.int 1, .ref mB, .ref mR, .int 0, .ref mO, .int 0, .int 0, .ref mN, .int 0, .int 0, .int 0, .int 0, .int 0, .int 0, .int 0, .int 0, .int 0])), (mR, .inl (cG, 8, .inl (fun _ => 0)))] H := hP
      have hD : va_D A [(m0, .inr (5, [.int 1, .ref mB, .ref mR, .int 0, .ref mO, .int 0, .int 0, .ref mN, .int 0, .int 0, .int 0, .int 0, .int 0, .int 0, .int 0, .int 0, .int 0])), (mR, .inl (cG, 8, .inl (fun _ => 0)))] := hD
      refine lv_aload_n hx hb dX5_put_19 rfl (lv_at hl 0 rfl) ?_
      refine va_get (D := (dC, dI)) (ci := 5) (v := .int 1) (C := RX5) (T := TX5) (N := 17) hx hb hts (by decide +kernel) hown hK hP 0 rfl rfl 0 (by decide) (hts (.fieldLink RX5 22 "WordGuestModel" "thrown" "I") (by decide +kernel)) (fun _ h9 => h9) rfl dX5_put_20 ?_
      refine lv_if_ne (tgt := 36) hx hb dX5_put_23 (by decide) (fun c_4 => ?_) (fun c9 => absurd c9 (by decide))
      have hP9 := hP.sub (ws' := [(m0, .inr (5, [.int 1, .ref mB, .ref mR, .int 0, .ref mO, .int 0, .int 0, .ref mN, .int 0, .int 0, .int 0, .int 0, .int 0, .int 0, .int 0, .int 0, .int 0])), (mR, .inl (cG, 8, .inl (fun _ => 0)))]) [0, 1] rfl
      have hD9 := hD.sub (ws' := [(m0, .inr (5, [.int 1, .ref mB, .ref mR, .int 0, .ref mO, .int 0, .int 0, .ref mN, .int 0, .int 0, .int 0, .int 0, .int 0, .int 0, .int 0, .int 0, .int 0])), (mR, .inl (cG, 8, .inl (fun _ => 0)))]) [0, 1] (by decide) rfl
      have hK9 := hK.sub (tys' := [(cG, .int)]) [0] rfl
      exact W.vret hx hb hr (fun t ht hW => ⟨⟨(1, (fun _ => 0)), rfl, Or.inr ⟨q_n8b (Int32.not_lt.mpr c_3), rfl⟩, by rw [ht]; exact hP9, va_K.moved hW.alike hK9, hD9⟩, hS.F ht⟩) hS.2.2 dX5_put_36
    · refine lv_iconst (v := 0) hx hb dX5_put_11 (by decide) ?_
      refine lv_goto (tgt := 16) hx hb dX5_put_12 (by decide) ?_
      refine va_put (D := (dC, dI)) (ci := 5) (v := .int 0) (ty := .int) (C := RX5) (T := TX5) (N := 17) hx hb hts (by decide +kernel) tyX5 tyX5_ok nmX5 hown hK hP hD hS 0 rfl rfl 0 (by decide) (hts (.fieldLink RX5 22 "WordGuestModel" "thrown" "I") (by decide +kernel)) (fun _ h9 => h9) rfl (by decide +kernel) rfl rfl (Nat.le_of_ble_eq_true rfl) dX5_put_16 (fun H locs hP hD hS => ?_)
      have hP : va_P (dC, dI) vwCl [(m0, .inr (5, [.int 0, .ref mB, .ref mR, .int 0, .ref mO, .int 0, .int 0, .ref mN, .int 0, .int 0, .int 0, .int 0, .int 0, .int 0, .int 0, .int 0, .int 0])), (mR, .inl (cG, 8, .inl (fun _ => 0)))] H := hP
      have hD : va_D A [(m0, .inr (5, [.int 0, .ref mB, .ref mR, .int 0, .ref mO, .int 0, .int 0, .ref mN, .int 0, .int 0, .int 0, .int 0, .int 0, .int 0, .int 0, .int 0, .int 0])), (mR, .inl (cG, 8, .inl (fun _ => 0)))] := hD
      refine lv_aload_n hx hb dX5_put_19 rfl (lv_at hl 0 rfl) ?_
      refine va_get (D := (dC, dI)) (ci := 5) (v := .int 0) (C := RX5) (T := TX5) (N := 17) hx hb hts (by decide +kernel) hown hK hP 0 rfl rfl 0 (by decide) (hts (.fieldLink RX5 22 "WordGuestModel" "thrown" "I") (by decide +kernel)) (fun _ h9 => h9) rfl dX5_put_20 ?_
      refine lv_if_ne (tgt := 36) hx hb dX5_put_23 (by decide) (fun c9 => absurd (by decide) c9) (fun c_5 => ?_)
      refine lv_aload_n hx hb dX5_put_26 rfl (lv_at hl 0 rfl) ?_
      refine va_get (D := (dC, dI)) (ci := 5) (v := .ref mR) (C := RX5) (T := TX5) (N := 17) hx hb hts (by decide +kernel) hown hK hP 0 rfl rfl 2 (by decide) (hts (.fieldLink RX5 13 "WordGuestModel" "registers" "[I") (by decide +kernel)) (fun _ h9 => h9) rfl dX5_put_27 ?_
      refine lv_iload_n hx hb dX5_put_30 rfl (lv_at hl 1 rfl) ?_
      refine lv_iload_n hx hb dX5_put_31 rfl (lv_at hl 2 rfl) ?_
      refine lv_ldc (v := 65535) hx hb hown (hts (.constant RX5 30 (65535)) (by decide +kernel)) dX5_put_32 ?_
      refine lv_iand hx hb dX5_put_34 ?_
      refine va_iast hx hb hK hP hD hS 1 0 rfl rfl (q_in8 c_1 (Int32.not_le.mp c_3)) dX5_put_35 (fun H locs hP hD hS => ?_)
      have hP : va_P (dC, dI) vwCl [(m0, .inr (5, [.int 0, .ref mB, .ref mR, .int 0, .ref mO, .int 0, .int 0, .ref mN, .int 0, .int 0, .int 0, .int 0, .int 0, .int 0, .int 0, .int 0, .int 0])), (mR, .inl (cG, 8, .inl (upd (fun _ => 0) k.toNatClampNeg (v &&& 65535))))] H := hP
      have hD : va_D A [(m0, .inr (5, [.int 0, .ref mB, .ref mR, .int 0, .ref mO, .int 0, .int 0, .ref mN, .int 0, .int 0, .int 0, .int 0, .int 0, .int 0, .int 0, .int 0, .int 0])), (mR, .inl (cG, 8, .inl (upd (fun _ => 0) k.toNatClampNeg (v &&& 65535))))] := hD
      generalize (upd (fun _ => 0) k.toNatClampNeg (v &&& 65535)) = g_6 at hP hD
      have hP9 := hP.sub (ws' := [(m0, .inr (5, [.int 0, .ref mB, .ref mR, .int 0, .ref mO, .int 0, .int 0, .ref mN, .int 0, .int 0, .int 0, .int 0, .int 0, .int 0, .int 0, .int 0, .int 0])), (mR, .inl (cG, 8, .inl g_6))]) [0, 1] rfl
      have hD9 := hD.sub (ws' := [(m0, .inr (5, [.int 0, .ref mB, .ref mR, .int 0, .ref mO, .int 0, .int 0, .ref mN, .int 0, .int 0, .int 0, .int 0, .int 0, .int 0, .int 0, .int 0, .int 0])), (mR, .inl (cG, 8, .inl g_6))]) [0, 1] (by decide) rfl
      have hK9 := hK.sub (tys' := [(cG, .int)]) [0] rfl
      exact W.vret hx hb hr (fun t ht hW => ⟨⟨(0, g_6), rfl, Or.inl ⟨q_in8 c_1 (Int32.not_le.mp c_3), rfl⟩, by rw [ht]; exact hP9, va_K.moved hW.alike hK9, hD9⟩, hS.F ht⟩) hS.2.2 dX5_put_36
set_option maxHeartbeats 4000000 in
set_option maxRecDepth 100000 in
theorem c_X5_flags (l : Launch) (dC : Nat → ClassId) (dI : Nat → Nat → Nat) (sz : Nat) (m0 : Nat) (mB : Nat) (mR : Nat) (mO : Nat) (mN : Nat)  : Met l yX5_flags wsX5_flags ({ frames := 0, cells := 0, slots := 0, locals := 0 }) (va_Pc [.ref m0] (q_pre dC dI sz [(m0, .inr (5, [.int 0, .ref mB, .ref mR, .int 0, .ref mO, .int 0, .int 0, .ref mN, .int 0, .int 0, .int 0, .int 0, .int 0, .int 0, .int 0, .int 0, .int 0]))] [])) (va_Qi (fun (r : Int32) (u9 : Unit) => r = 0) (q_at dC dI (va_A [(m0, .inr (5, [.int 0, .ref mB, .ref mR, .int 0, .ref mO, .int 0, .int 0, .ref mN, .int 0, .int 0, .int 0, .int 0, .int 0, .int 0, .int 0, .int 0, .int 0]))] sz) (fun (u9 : Unit) => []) (fun (u9 : Unit) => [(m0, .inr (5, [.int 0, .ref mB, .ref mR, .int 0, .ref mO, .int 0, .int 0, .ref mN, .int 0, .int 0, .int 0, .int 0, .int 0, .int 0, .int 0, .int 0, .int 0]))])) (va_A [(m0, .inr (5, [.int 0, .ref mB, .ref mR, .int 0, .ref mO, .int 0, .int 0, .ref mN, .int 0, .int 0, .int 0, .int 0, .int 0, .int 0, .int 0, .int 0, .int 0]))] sz)) 0 0 (va_A [(m0, .inr (5, [.int 0, .ref mB, .ref mR, .int 0, .ref mO, .int 0, .int 0, .ref mN, .int 0, .int 0, .int 0, .int 0, .int 0, .int 0, .int 0, .int 0, .int 0]))] sz) := by
  refine Met.ofW (cc := cX5_flags) (maxL := 1) (ret := (some .int)) (by decide) rfl ?_
  intro p e s m args below meth c s₁ B hml hv
  obtain ⟨rfl, hsz, hP, hK, hD0, hN⟩ := hv
  have hx := B.exec
  have hb := B.bytes
  have hr := B.returns
  have hts := atoms_spec (ws := wsX5_flags) B.pre
  have hown : s.vm.findClass RX5 = some m.cls := findClass_of_methodNamed B.named
  have hlocks := B.notSynchronized
  subst hsz
  have hD := hD0.self (sz := s.heap.size)
  generalize hAe : va_A [(m0, .inr (5, [.int 0, .ref mB, .ref mR, .int 0, .ref mO, .int 0, .int 0, .ref mN, .int 0, .int 0, .int 0, .int 0, .int 0, .int 0, .int 0, .int 0, .int 0]))] s.heap.size = A at hD ⊢
  have hA : ∀ q : Nat, s.heap.size ≤ q → A q := fun q h => by rw [← hAe]; exact Or.inr h
  have hS : va_S A s.heap s.heap [] := va_S.rf
  have hP : va_P (dC, dI) vwCl [(m0, .inr (5, [.int 0, .ref mB, .ref mR, .int 0, .ref mO, .int 0, .int 0, .ref mN, .int 0, .int 0, .int 0, .int 0, .int 0, .int 0, .int 0, .int 0, .int 0]))] s.heap := hP
  have hl := lv_entry ([.ref m0]) (n := 1) (Nat.le_of_ble_eq_true rfl)
  rw [lg_entry_eq]
  generalize (lg_sl ([.ref m0]) ++ List.replicate (1 - (lg_sl ([.ref m0])).length) Slot.unset).toArray = ls at hl ⊢
  have hl : lv_has ls 1 [(0, .ref m0)] := hl
  refine lv_aload_n hx hb dX5_flags_0 rfl (lv_at hl 0 rfl) ?_
  refine lv_iconst (v := 0) hx hb dX5_flags_1 (by decide) ?_
  refine va_put (D := (dC, dI)) (ci := 5) (v := .int 0) (ty := .int) (C := RX5) (T := TX5) (N := 17) hx hb hts (by decide +kernel) tyX5 tyX5_ok nmX5 hown hK hP hD hS 0 rfl rfl 0 (by decide) (hts (.fieldLink RX5 22 "WordGuestModel" "thrown" "I") (by decide +kernel)) (fun _ h9 => h9) rfl (by decide +kernel) rfl rfl (Nat.le_of_ble_eq_true rfl) dX5_flags_2 (fun H locs hP hD hS => ?_)
  have hP : va_P (dC, dI) vwCl [(m0, .inr (5, [.int 0, .ref mB, .ref mR, .int 0, .ref mO, .int 0, .int 0, .ref mN, .int 0, .int 0, .int 0, .int 0, .int 0, .int 0, .int 0, .int 0, .int 0]))] H := hP
  have hD : va_D A [(m0, .inr (5, [.int 0, .ref mB, .ref mR, .int 0, .ref mO, .int 0, .int 0, .ref mN, .int 0, .int 0, .int 0, .int 0, .int 0, .int 0, .int 0, .int 0, .int 0]))] := hD
  refine lv_aload_n hx hb dX5_flags_5 rfl (lv_at hl 0 rfl) ?_
  refine va_get (D := (dC, dI)) (ci := 5) (v := .int 0) (C := RX5) (T := TX5) (N := 17) hx hb hts (by decide +kernel) hown hK hP 0 rfl rfl 3 (by decide) (hts (.fieldLink RX5 39 "WordGuestModel" "flags" "I") (by decide +kernel)) (fun _ h9 => h9) rfl dX5_flags_6 ?_
  have hP9 := hP.sub (ws' := [(m0, .inr (5, [.int 0, .ref mB, .ref mR, .int 0, .ref mO, .int 0, .int 0, .ref mN, .int 0, .int 0, .int 0, .int 0, .int 0, .int 0, .int 0, .int 0, .int 0]))]) [0] rfl
  have hD9 := hD.sub (ws' := [(m0, .inr (5, [.int 0, .ref mB, .ref mR, .int 0, .ref mO, .int 0, .int 0, .ref mN, .int 0, .int 0, .int 0, .int 0, .int 0, .int 0, .int 0, .int 0, .int 0]))]) [0] (by decide) rfl
  have hK9 := hK.sub (tys' := []) [] rfl
  exact W.iret (v := 0) hx hb hr (fun t ht hW => ⟨⟨0, (), rfl, rfl, by rw [ht]; exact hP9, va_K.moved hW.alike hK9, hD9⟩, hS.F ht⟩) hS.2.2 dX5_flags_9
set_option maxHeartbeats 4000000 in
set_option maxRecDepth 100000 in
theorem c_X5_steps (l : Launch) (dC : Nat → ClassId) (dI : Nat → Nat → Nat) (sz : Nat) (m0 : Nat) (mB : Nat) (mR : Nat) (mO : Nat) (mN : Nat)  : Met l yX5_steps wsX5_steps ({ frames := 0, cells := 0, slots := 0, locals := 0 }) (va_Pc [.ref m0] (q_pre dC dI sz [(m0, .inr (5, [.int 0, .ref mB, .ref mR, .int 0, .ref mO, .int 0, .int 0, .ref mN, .int 0, .int 0, .int 0, .int 0, .int 0, .int 0, .int 0, .int 0, .int 0]))] [])) (va_Qi (fun (r : Int32) (u9 : Unit) => r = 0) (q_at dC dI (va_A [(m0, .inr (5, [.int 0, .ref mB, .ref mR, .int 0, .ref mO, .int 0, .int 0, .ref mN, .int 0, .int 0, .int 0, .int 0, .int 0, .int 0, .int 0, .int 0, .int 0]))] sz) (fun (u9 : Unit) => []) (fun (u9 : Unit) => [(m0, .inr (5, [.int 0, .ref mB, .ref mR, .int 0, .ref mO, .int 0, .int 0, .ref mN, .int 0, .int 0, .int 0, .int 0, .int 0, .int 0, .int 0, .int 0, .int 0]))])) (va_A [(m0, .inr (5, [.int 0, .ref mB, .ref mR, .int 0, .ref mO, .int 0, .int 0, .ref mN, .int 0, .int 0, .int 0, .int 0, .int 0, .int 0, .int 0, .int 0, .int 0]))] sz)) 0 0 (va_A [(m0, .inr (5, [.int 0, .ref mB, .ref mR, .int 0, .ref mO, .int 0, .int 0, .ref mN, .int 0, .int 0, .int 0, .int 0, .int 0, .int 0, .int 0, .int 0, .int 0]))] sz) := by
  refine Met.ofW (cc := cX5_steps) (maxL := 1) (ret := (some .int)) (by decide) rfl ?_
  intro p e s m args below meth c s₁ B hml hv
  obtain ⟨rfl, hsz, hP, hK, hD0, hN⟩ := hv
  have hx := B.exec
  have hb := B.bytes
  have hr := B.returns
  have hts := atoms_spec (ws := wsX5_steps) B.pre
  have hown : s.vm.findClass RX5 = some m.cls := findClass_of_methodNamed B.named
  have hlocks := B.notSynchronized
  subst hsz
  have hD := hD0.self (sz := s.heap.size)
  generalize hAe : va_A [(m0, .inr (5, [.int 0, .ref mB, .ref mR, .int 0, .ref mO, .int 0, .int 0, .ref mN, .int 0, .int 0, .int 0, .int 0, .int 0, .int 0, .int 0, .int 0, .int 0]))] s.heap.size = A at hD ⊢
  have hA : ∀ q : Nat, s.heap.size ≤ q → A q := fun q h => by rw [← hAe]; exact Or.inr h
  have hS : va_S A s.heap s.heap [] := va_S.rf
  have hP : va_P (dC, dI) vwCl [(m0, .inr (5, [.int 0, .ref mB, .ref mR, .int 0, .ref mO, .int 0, .int 0, .ref mN, .int 0, .int 0, .int 0, .int 0, .int 0, .int 0, .int 0, .int 0, .int 0]))] s.heap := hP
  have hl := lv_entry ([.ref m0]) (n := 1) (Nat.le_of_ble_eq_true rfl)
  rw [lg_entry_eq]
  generalize (lg_sl ([.ref m0]) ++ List.replicate (1 - (lg_sl ([.ref m0])).length) Slot.unset).toArray = ls at hl ⊢
  have hl : lv_has ls 1 [(0, .ref m0)] := hl
  refine lv_aload_n hx hb dX5_steps_0 rfl (lv_at hl 0 rfl) ?_
  refine lv_iconst (v := 0) hx hb dX5_steps_1 (by decide) ?_
  refine va_put (D := (dC, dI)) (ci := 5) (v := .int 0) (ty := .int) (C := RX5) (T := TX5) (N := 17) hx hb hts (by decide +kernel) tyX5 tyX5_ok nmX5 hown hK hP hD hS 0 rfl rfl 0 (by decide) (hts (.fieldLink RX5 22 "WordGuestModel" "thrown" "I") (by decide +kernel)) (fun _ h9 => h9) rfl (by decide +kernel) rfl rfl (Nat.le_of_ble_eq_true rfl) dX5_steps_2 (fun H locs hP hD hS => ?_)
  have hP : va_P (dC, dI) vwCl [(m0, .inr (5, [.int 0, .ref mB, .ref mR, .int 0, .ref mO, .int 0, .int 0, .ref mN, .int 0, .int 0, .int 0, .int 0, .int 0, .int 0, .int 0, .int 0, .int 0]))] H := hP
  have hD : va_D A [(m0, .inr (5, [.int 0, .ref mB, .ref mR, .int 0, .ref mO, .int 0, .int 0, .ref mN, .int 0, .int 0, .int 0, .int 0, .int 0, .int 0, .int 0, .int 0, .int 0]))] := hD
  refine lv_aload_n hx hb dX5_steps_5 rfl (lv_at hl 0 rfl) ?_
  refine va_get (D := (dC, dI)) (ci := 5) (v := .int 0) (C := RX5) (T := TX5) (N := 17) hx hb hts (by decide +kernel) hown hK hP 0 rfl rfl 6 (by decide) (hts (.fieldLink RX5 42 "WordGuestModel" "steps" "I") (by decide +kernel)) (fun _ h9 => h9) rfl dX5_steps_6 ?_
  have hP9 := hP.sub (ws' := [(m0, .inr (5, [.int 0, .ref mB, .ref mR, .int 0, .ref mO, .int 0, .int 0, .ref mN, .int 0, .int 0, .int 0, .int 0, .int 0, .int 0, .int 0, .int 0, .int 0]))]) [0] rfl
  have hD9 := hD.sub (ws' := [(m0, .inr (5, [.int 0, .ref mB, .ref mR, .int 0, .ref mO, .int 0, .int 0, .ref mN, .int 0, .int 0, .int 0, .int 0, .int 0, .int 0, .int 0, .int 0, .int 0]))]) [0] (by decide) rfl
  have hK9 := hK.sub (tys' := []) [] rfl
  exact W.iret (v := 0) hx hb hr (fun t ht hW => ⟨⟨0, (), rfl, rfl, by rw [ht]; exact hP9, va_K.moved hW.alike hK9, hD9⟩, hS.F ht⟩) hS.2.2 dX5_steps_9
set_option maxHeartbeats 4000000 in
set_option maxRecDepth 100000 in
theorem c_X5_outputs (l : Launch) (dC : Nat → ClassId) (dI : Nat → Nat → Nat) (sz : Nat) (m0 : Nat) (mB : Nat) (mR : Nat) (mO : Nat) (mN : Nat)  : Met l yX5_outputs wsX5_outputs ({ frames := 0, cells := 0, slots := 0, locals := 0 }) (va_Pc [.ref m0] (q_pre dC dI sz [(m0, .inr (5, [.int 0, .ref mB, .ref mR, .int 0, .ref mO, .int 0, .int 0, .ref mN, .int 0, .int 0, .int 0, .int 0, .int 0, .int 0, .int 0, .int 0, .int 0]))] [])) (va_Qi (fun (r : Int32) (u9 : Unit) => r = 0) (q_at dC dI (va_A [(m0, .inr (5, [.int 0, .ref mB, .ref mR, .int 0, .ref mO, .int 0, .int 0, .ref mN, .int 0, .int 0, .int 0, .int 0, .int 0, .int 0, .int 0, .int 0, .int 0]))] sz) (fun (u9 : Unit) => []) (fun (u9 : Unit) => [(m0, .inr (5, [.int 0, .ref mB, .ref mR, .int 0, .ref mO, .int 0, .int 0, .ref mN, .int 0, .int 0, .int 0, .int 0, .int 0, .int 0, .int 0, .int 0, .int 0]))])) (va_A [(m0, .inr (5, [.int 0, .ref mB, .ref mR, .int 0, .ref mO, .int 0, .int 0, .ref mN, .int 0, .int 0, .int 0, .int 0, .int 0, .int 0, .int 0, .int 0, .int 0]))] sz)) 0 0 (va_A [(m0, .inr (5, [.int 0, .ref mB, .ref mR, .int 0, .ref mO, .int 0, .int 0, .ref mN, .int 0, .int 0, .int 0, .int 0, .int 0, .int 0, .int 0, .int 0, .int 0]))] sz) := by
  refine Met.ofW (cc := cX5_outputs) (maxL := 1) (ret := (some .int)) (by decide) rfl ?_
  intro p e s m args below meth c s₁ B hml hv
  obtain ⟨rfl, hsz, hP, hK, hD0, hN⟩ := hv
  have hx := B.exec
  have hb := B.bytes
  have hr := B.returns
  have hts := atoms_spec (ws := wsX5_outputs) B.pre
  have hown : s.vm.findClass RX5 = some m.cls := findClass_of_methodNamed B.named
  have hlocks := B.notSynchronized
  subst hsz
  have hD := hD0.self (sz := s.heap.size)
  generalize hAe : va_A [(m0, .inr (5, [.int 0, .ref mB, .ref mR, .int 0, .ref mO, .int 0, .int 0, .ref mN, .int 0, .int 0, .int 0, .int 0, .int 0, .int 0, .int 0, .int 0, .int 0]))] s.heap.size = A at hD ⊢
  have hA : ∀ q : Nat, s.heap.size ≤ q → A q := fun q h => by rw [← hAe]; exact Or.inr h
  have hS : va_S A s.heap s.heap [] := va_S.rf
  have hP : va_P (dC, dI) vwCl [(m0, .inr (5, [.int 0, .ref mB, .ref mR, .int 0, .ref mO, .int 0, .int 0, .ref mN, .int 0, .int 0, .int 0, .int 0, .int 0, .int 0, .int 0, .int 0, .int 0]))] s.heap := hP
  have hl := lv_entry ([.ref m0]) (n := 1) (Nat.le_of_ble_eq_true rfl)
  rw [lg_entry_eq]
  generalize (lg_sl ([.ref m0]) ++ List.replicate (1 - (lg_sl ([.ref m0])).length) Slot.unset).toArray = ls at hl ⊢
  have hl : lv_has ls 1 [(0, .ref m0)] := hl
  refine lv_aload_n hx hb dX5_outputs_0 rfl (lv_at hl 0 rfl) ?_
  refine lv_iconst (v := 0) hx hb dX5_outputs_1 (by decide) ?_
  refine va_put (D := (dC, dI)) (ci := 5) (v := .int 0) (ty := .int) (C := RX5) (T := TX5) (N := 17) hx hb hts (by decide +kernel) tyX5 tyX5_ok nmX5 hown hK hP hD hS 0 rfl rfl 0 (by decide) (hts (.fieldLink RX5 22 "WordGuestModel" "thrown" "I") (by decide +kernel)) (fun _ h9 => h9) rfl (by decide +kernel) rfl rfl (Nat.le_of_ble_eq_true rfl) dX5_outputs_2 (fun H locs hP hD hS => ?_)
  have hP : va_P (dC, dI) vwCl [(m0, .inr (5, [.int 0, .ref mB, .ref mR, .int 0, .ref mO, .int 0, .int 0, .ref mN, .int 0, .int 0, .int 0, .int 0, .int 0, .int 0, .int 0, .int 0, .int 0]))] H := hP
  have hD : va_D A [(m0, .inr (5, [.int 0, .ref mB, .ref mR, .int 0, .ref mO, .int 0, .int 0, .ref mN, .int 0, .int 0, .int 0, .int 0, .int 0, .int 0, .int 0, .int 0, .int 0]))] := hD
  refine lv_aload_n hx hb dX5_outputs_5 rfl (lv_at hl 0 rfl) ?_
  refine va_get (D := (dC, dI)) (ci := 5) (v := .int 0) (C := RX5) (T := TX5) (N := 17) hx hb hts (by decide +kernel) hown hK hP 0 rfl rfl 5 (by decide) (hts (.fieldLink RX5 45 "WordGuestModel" "outCount" "I") (by decide +kernel)) (fun _ h9 => h9) rfl dX5_outputs_6 ?_
  have hP9 := hP.sub (ws' := [(m0, .inr (5, [.int 0, .ref mB, .ref mR, .int 0, .ref mO, .int 0, .int 0, .ref mN, .int 0, .int 0, .int 0, .int 0, .int 0, .int 0, .int 0, .int 0, .int 0]))]) [0] rfl
  have hD9 := hD.sub (ws' := [(m0, .inr (5, [.int 0, .ref mB, .ref mR, .int 0, .ref mO, .int 0, .int 0, .ref mN, .int 0, .int 0, .int 0, .int 0, .int 0, .int 0, .int 0, .int 0, .int 0]))]) [0] (by decide) rfl
  have hK9 := hK.sub (tys' := []) [] rfl
  exact W.iret (v := 0) hx hb hr (fun t ht hW => ⟨⟨0, (), rfl, rfl, by rw [ht]; exact hP9, va_K.moved hW.alike hK9, hD9⟩, hS.F ht⟩) hS.2.2 dX5_outputs_9
set_option maxHeartbeats 4000000 in
set_option maxRecDepth 100000 in
theorem c_X5_flag (l : Launch) (dC : Nat → ClassId) (dI : Nat → Nat → Nat) (sz : Nat) (m0 : Nat) (mB : Nat) (mR : Nat) (mO : Nat) (mN : Nat) (v : Int32)  : Met l yX5_flag wsX5_flag ({ frames := 0, cells := 0, slots := 0, locals := 0 }) (va_Pc [.ref m0, .int v] (q_pre dC dI sz [(m0, .inr (5, [.int 0, .ref mB, .ref mR, .int 0, .ref mO, .int 0, .int 0, .ref mN, .int 0, .int 0, .int 0, .int 0, .int 0, .int 0, .int 0, .int 0, .int 0]))] [])) (va_Qv (fun (u9 : Int32) => True) (q_at dC dI (va_A [(m0, .inr (5, [.int 0, .ref mB, .ref mR, .int 0, .ref mO, .int 0, .int 0, .ref mN, .int 0, .int 0, .int 0, .int 0, .int 0, .int 0, .int 0, .int 0, .int 0]))] sz) (fun (u9 : Int32) => []) (fun (u9 : Int32) => [(m0, .inr (5, [.int 0, .ref mB, .ref mR, .int u9, .ref mO, .int 0, .int 0, .ref mN, .int 0, .int 0, .int 0, .int 0, .int 0, .int 0, .int 0, .int 0, .int 0]))])) (va_A [(m0, .inr (5, [.int 0, .ref mB, .ref mR, .int 0, .ref mO, .int 0, .int 0, .ref mN, .int 0, .int 0, .int 0, .int 0, .int 0, .int 0, .int 0, .int 0, .int 0]))] sz)) 0 0 (va_A [(m0, .inr (5, [.int 0, .ref mB, .ref mR, .int 0, .ref mO, .int 0, .int 0, .ref mN, .int 0, .int 0, .int 0, .int 0, .int 0, .int 0, .int 0, .int 0, .int 0]))] sz) := by
  refine Met.ofW (cc := cX5_flag) (maxL := 2) (ret := none) (by decide) rfl ?_
  intro p e s m args below meth c s₁ B hml hv
  obtain ⟨rfl, hsz, hP, hK, hD0, hN⟩ := hv
  have hx := B.exec
  have hb := B.bytes
  have hr := B.returns
  have hts := atoms_spec (ws := wsX5_flag) B.pre
  have hown : s.vm.findClass RX5 = some m.cls := findClass_of_methodNamed B.named
  have hlocks := B.notSynchronized
  subst hsz
  have hD := hD0.self (sz := s.heap.size)
  generalize hAe : va_A [(m0, .inr (5, [.int 0, .ref mB, .ref mR, .int 0, .ref mO, .int 0, .int 0, .ref mN, .int 0, .int 0, .int 0, .int 0, .int 0, .int 0, .int 0, .int 0, .int 0]))] s.heap.size = A at hD ⊢
  have hA : ∀ q : Nat, s.heap.size ≤ q → A q := fun q h => by rw [← hAe]; exact Or.inr h
  have hS : va_S A s.heap s.heap [] := va_S.rf
  have hP : va_P (dC, dI) vwCl [(m0, .inr (5, [.int 0, .ref mB, .ref mR, .int 0, .ref mO, .int 0, .int 0, .ref mN, .int 0, .int 0, .int 0, .int 0, .int 0, .int 0, .int 0, .int 0, .int 0]))] s.heap := hP
  have hl := lv_entry ([.ref m0, .int v]) (n := 2) (Nat.le_of_ble_eq_true rfl)
  rw [lg_entry_eq]
  generalize (lg_sl ([.ref m0, .int v]) ++ List.replicate (2 - (lg_sl ([.ref m0, .int v])).length) Slot.unset).toArray = ls at hl ⊢
  have hl : lv_has ls 2 [(0, .ref m0), (1, .int v)] := hl
  refine lv_aload_n hx hb dX5_flag_0 rfl (lv_at hl 0 rfl) ?_
  refine lv_iconst (v := 0) hx hb dX5_flag_1 (by decide) ?_
  refine va_put (D := (dC, dI)) (ci := 5) (v := .int 0) (ty := .int) (C := RX5) (T := TX5) (N := 17) hx hb hts (by decide +kernel) tyX5 tyX5_ok nmX5 hown hK hP hD hS 0 rfl rfl 0 (by decide) (hts (.fieldLink RX5 22 "WordGuestModel" "thrown" "I") (by decide +kernel)) (fun _ h9 => h9) rfl (by decide +kernel) rfl rfl (Nat.le_of_ble_eq_true rfl) dX5_flag_2 (fun H locs hP hD hS => ?_)
  have hP : va_P (dC, dI) vwCl [(m0, .inr (5, [.int 0, .ref mB, .ref mR, .int 0, .ref mO, .int 0, .int 0, .ref mN, .int 0, .int 0, .int 0, .int 0, .int 0, .int 0, .int 0, .int 0, .int 0]))] H := hP
  have hD : va_D A [(m0, .inr (5, [.int 0, .ref mB, .ref mR, .int 0, .ref mO, .int 0, .int 0, .ref mN, .int 0, .int 0, .int 0, .int 0, .int 0, .int 0, .int 0, .int 0, .int 0]))] := hD
  refine lv_aload_n hx hb dX5_flag_5 rfl (lv_at hl 0 rfl) ?_
  refine lv_iload_n hx hb dX5_flag_6 rfl (lv_at hl 1 rfl) ?_
  refine lv_bipush (v := 15) hx hb dX5_flag_7 (by decide) ?_
  refine lv_iand hx hb dX5_flag_9 ?_
  refine va_put (D := (dC, dI)) (ci := 5) (v := .int (v &&& 15)) (ty := .int) (C := RX5) (T := TX5) (N := 17) hx hb hts (by decide +kernel) tyX5 tyX5_ok nmX5 hown hK hP hD hS 0 rfl rfl 3 (by decide) (hts (.fieldLink RX5 39 "WordGuestModel" "flags" "I") (by decide +kernel)) (fun _ h9 => h9) rfl (by decide +kernel) rfl rfl (Nat.le_of_ble_eq_true rfl) dX5_flag_10 (fun H locs hP hD hS => ?_)
  have hP : va_P (dC, dI) vwCl [(m0, .inr (5, [.int 0, .ref mB, .ref mR, .int (v &&& 15), .ref mO, .int 0, .int 0, .ref mN, .int 0, .int 0, .int 0, .int 0, .int 0, .int 0, .int 0, .int 0, .int 0]))] H := hP
  have hD : va_D A [(m0, .inr (5, [.int 0, .ref mB, .ref mR, .int (v &&& 15), .ref mO, .int 0, .int 0, .ref mN, .int 0, .int 0, .int 0, .int 0, .int 0, .int 0, .int 0, .int 0, .int 0]))] := hD
  have hP9 := hP.sub (ws' := [(m0, .inr (5, [.int 0, .ref mB, .ref mR, .int (v &&& 15), .ref mO, .int 0, .int 0, .ref mN, .int 0, .int 0, .int 0, .int 0, .int 0, .int 0, .int 0, .int 0, .int 0]))]) [0] rfl
  have hD9 := hD.sub (ws' := [(m0, .inr (5, [.int 0, .ref mB, .ref mR, .int (v &&& 15), .ref mO, .int 0, .int 0, .ref mN, .int 0, .int 0, .int 0, .int 0, .int 0, .int 0, .int 0, .int 0, .int 0]))]) [0] (by decide) rfl
  have hK9 := hK.sub (tys' := []) [] rfl
  exact W.vret hx hb hr (fun t ht hW => ⟨⟨v &&& 15, rfl, trivial, by rw [ht]; exact hP9, va_K.moved hW.alike hK9, hD9⟩, hS.F ht⟩) hS.2.2 dX5_flag_13
set_option maxHeartbeats 4000000 in
set_option maxRecDepth 100000 in
theorem c_X5_output (l : Launch) (dC : Nat → ClassId) (dI : Nat → Nat → Nat) (sz : Nat) (m0 : Nat) (mB : Nat) (mR : Nat) (mO : Nat) (mN : Nat) (k : Int32)  : Met l yX5_output wsX5_output ({ frames := 0, cells := 0, slots := 0, locals := 0 }) (va_Pc [.ref m0, .int k] (q_pre dC dI sz [(m0, .inr (5, [.int 0, .ref mB, .ref mR, .int 0, .ref mO, .int 0, .int 0, .ref mN, .int 0, .int 0, .int 0, .int 0, .int 0, .int 0, .int 0, .int 0, .int 0]))] [])) (va_Qi (fun (r : Int32) (u9 : Unit) => r = 0) (q_at dC dI (va_A [(m0, .inr (5, [.int 0, .ref mB, .ref mR, .int 0, .ref mO, .int 0, .int 0, .ref mN, .int 0, .int 0, .int 0, .int 0, .int 0, .int 0, .int 0, .int 0, .int 0]))] sz) (fun (u9 : Unit) => []) (fun (u9 : Unit) => [(m0, .inr (5, [.int 1, .ref mB, .ref mR, .int 0, .ref mO, .int 0, .int 0, .ref mN, .int 0, .int 0, .int 0, .int 0, .int 0, .int 0, .int 0, .int 0, .int 0]))])) (va_A [(m0, .inr (5, [.int 0, .ref mB, .ref mR, .int 0, .ref mO, .int 0, .int 0, .ref mN, .int 0, .int 0, .int 0, .int 0, .int 0, .int 0, .int 0, .int 0, .int 0]))] sz)) 0 0 (va_A [(m0, .inr (5, [.int 0, .ref mB, .ref mR, .int 0, .ref mO, .int 0, .int 0, .ref mN, .int 0, .int 0, .int 0, .int 0, .int 0, .int 0, .int 0, .int 0, .int 0]))] sz) := by
  refine Met.ofW (cc := cX5_output) (maxL := 2) (ret := (some .int)) (by decide) rfl ?_
  intro p e s m args below meth c s₁ B hml hv
  obtain ⟨rfl, hsz, hP, hK, hD0, hN⟩ := hv
  have hx := B.exec
  have hb := B.bytes
  have hr := B.returns
  have hts := atoms_spec (ws := wsX5_output) B.pre
  have hown : s.vm.findClass RX5 = some m.cls := findClass_of_methodNamed B.named
  have hlocks := B.notSynchronized
  subst hsz
  have hD := hD0.self (sz := s.heap.size)
  generalize hAe : va_A [(m0, .inr (5, [.int 0, .ref mB, .ref mR, .int 0, .ref mO, .int 0, .int 0, .ref mN, .int 0, .int 0, .int 0, .int 0, .int 0, .int 0, .int 0, .int 0, .int 0]))] s.heap.size = A at hD ⊢
  have hA : ∀ q : Nat, s.heap.size ≤ q → A q := fun q h => by rw [← hAe]; exact Or.inr h
  have hS : va_S A s.heap s.heap [] := va_S.rf
  have hP : va_P (dC, dI) vwCl [(m0, .inr (5, [.int 0, .ref mB, .ref mR, .int 0, .ref mO, .int 0, .int 0, .ref mN, .int 0, .int 0, .int 0, .int 0, .int 0, .int 0, .int 0, .int 0, .int 0]))] s.heap := hP
  have hl := lv_entry ([.ref m0, .int k]) (n := 2) (Nat.le_of_ble_eq_true rfl)
  rw [lg_entry_eq]
  generalize (lg_sl ([.ref m0, .int k]) ++ List.replicate (2 - (lg_sl ([.ref m0, .int k])).length) Slot.unset).toArray = ls at hl ⊢
  have hl : lv_has ls 2 [(0, .ref m0), (1, .int k)] := hl
  refine lv_aload_n hx hb dX5_output_0 rfl (lv_at hl 0 rfl) ?_
  refine lv_iload_n hx hb dX5_output_1 rfl (lv_at hl 1 rfl) ?_
  refine lv_if_lt (tgt := 17) hx hb dX5_output_2 (by decide) (fun c_1 => ?_) (fun c_1 => ?_)
  · refine lv_iconst (v := 1) hx hb dX5_output_17 (by decide) ?_
    refine va_put (D := (dC, dI)) (ci := 5) (v := .int 1) (ty := .int) (C := RX5) (T := TX5) (N := 17) hx hb hts (by decide +kernel) tyX5 tyX5_ok nmX5 hown hK hP hD hS 0 rfl rfl 0 (by decide) (hts (.fieldLink RX5 22 "WordGuestModel" "thrown" "I") (by decide +kernel)) (fun _ h9 => h9) rfl (by decide +kernel) rfl rfl (Nat.le_of_ble_eq_true rfl) dX5_output_18 (fun H locs hP hD hS => ?_)
    have hP : va_P (dC, dI) vwCl [(m0, .inr (5, [.int 1, .ref mB, .ref mR, .int 0, .ref mO, .int 0, .int 0, .ref mN, .int 0, .int 0, .int 0, .int 0, .int 0, .int 0, .int 0, .int 0, .int 0]))] H := hP
    have hD : va_D A [(m0, .inr (5, [.int 1, .ref mB, .ref mR, .int 0, .ref mO, .int 0, .int 0, .ref mN, .int 0, .int 0, .int 0, .int 0, .int 0, .int 0, .int 0, .int 0, .int 0]))] := hD
    refine lv_aload_n hx hb dX5_output_21 rfl (lv_at hl 0 rfl) ?_
    refine va_get (D := (dC, dI)) (ci := 5) (v := .int 1) (C := RX5) (T := TX5) (N := 17) hx hb hts (by decide +kernel) hown hK hP 0 rfl rfl 0 (by decide) (hts (.fieldLink RX5 22 "WordGuestModel" "thrown" "I") (by decide +kernel)) (fun _ h9 => h9) rfl dX5_output_22 ?_
    refine lv_if_le (tgt := 32) hx hb dX5_output_25 (by decide) (fun c9 => absurd c9 (by decide)) (fun c_2 => ?_)
    refine lv_iconst (v := 0) hx hb dX5_output_28 (by decide) ?_
    refine lv_goto (tgt := 38) hx hb dX5_output_29 (by decide) ?_
    have hP9 := hP.sub (ws' := [(m0, .inr (5, [.int 1, .ref mB, .ref mR, .int 0, .ref mO, .int 0, .int 0, .ref mN, .int 0, .int 0, .int 0, .int 0, .int 0, .int 0, .int 0, .int 0, .int 0]))]) [0] rfl
    have hD9 := hD.sub (ws' := [(m0, .inr (5, [.int 1, .ref mB, .ref mR, .int 0, .ref mO, .int 0, .int 0, .ref mN, .int 0, .int 0, .int 0, .int 0, .int 0, .int 0, .int 0, .int 0, .int 0]))]) [0] (by decide) rfl
    have hK9 := hK.sub (tys' := []) [] rfl
    exact W.iret (v := 0) hx hb hr (fun t ht hW => ⟨⟨0, (), rfl, rfl, by rw [ht]; exact hP9, va_K.moved hW.alike hK9, hD9⟩, hS.F ht⟩) hS.2.2 dX5_output_38
  · refine lv_iload_n hx hb dX5_output_5 rfl (lv_at hl 1 rfl) ?_
    refine lv_aload_n hx hb dX5_output_6 rfl (lv_at hl 0 rfl) ?_
    refine va_get (D := (dC, dI)) (ci := 5) (v := .int 0) (C := RX5) (T := TX5) (N := 17) hx hb hts (by decide +kernel) hown hK hP 0 rfl rfl 5 (by decide) (hts (.fieldLink RX5 45 "WordGuestModel" "outCount" "I") (by decide +kernel)) (fun _ h9 => h9) rfl dX5_output_7 ?_
    refine lv_icmp_ge (tgt := 17) hx hb dX5_output_10 (by decide) (fun c_3 => ?_) (fun c9 => absurd (Int32.not_lt.mp c_1) c9)
    refine lv_iconst (v := 1) hx hb dX5_output_17 (by decide) ?_
    refine va_put (D := (dC, dI)) (ci := 5) (v := .int 1) (ty := .int) (C := RX5) (T := TX5) (N := 17) hx hb hts (by decide +kernel) tyX5 tyX5_ok nmX5 hown hK hP hD hS 0 rfl rfl 0 (by decide) (hts (.fieldLink RX5 22 "WordGuestModel" "thrown" "I") (by decide +kernel)) (fun _ h9 => h9) rfl (by decide +kernel) rfl rfl (Nat.le_of_ble_eq_true rfl) dX5_output_18 (fun H locs hP hD hS => ?_)
    have hP : va_P (dC, dI) vwCl [(m0, .inr (5, [.int 1, .ref mB, .ref mR, .int 0, .ref mO, .int 0, .int 0, .ref mN, .int 0, .int 0, .int 0, .int 0, .int 0, .int 0, .int 0, .int 0, .int 0]))] H := hP
    have hD : va_D A [(m0, .inr (5, [.int 1, .ref mB, .ref mR, .int 0, .ref mO, .int 0, .int 0, .ref mN, .int 0, .int 0, .int 0, .int 0, .int 0, .int 0, .int 0, .int 0, .int 0]))] := hD
    refine lv_aload_n hx hb dX5_output_21 rfl (lv_at hl 0 rfl) ?_
    refine va_get (D := (dC, dI)) (ci := 5) (v := .int 1) (C := RX5) (T := TX5) (N := 17) hx hb hts (by decide +kernel) hown hK hP 0 rfl rfl 0 (by decide) (hts (.fieldLink RX5 22 "WordGuestModel" "thrown" "I") (by decide +kernel)) (fun _ h9 => h9) rfl dX5_output_22 ?_
    refine lv_if_le (tgt := 32) hx hb dX5_output_25 (by decide) (fun c9 => absurd c9 (by decide)) (fun c_4 => ?_)
    refine lv_iconst (v := 0) hx hb dX5_output_28 (by decide) ?_
    refine lv_goto (tgt := 38) hx hb dX5_output_29 (by decide) ?_
    have hP9 := hP.sub (ws' := [(m0, .inr (5, [.int 1, .ref mB, .ref mR, .int 0, .ref mO, .int 0, .int 0, .ref mN, .int 0, .int 0, .int 0, .int 0, .int 0, .int 0, .int 0, .int 0, .int 0]))]) [0] rfl
    have hD9 := hD.sub (ws' := [(m0, .inr (5, [.int 1, .ref mB, .ref mR, .int 0, .ref mO, .int 0, .int 0, .ref mN, .int 0, .int 0, .int 0, .int 0, .int 0, .int 0, .int 0, .int 0, .int 0]))]) [0] (by decide) rfl
    have hK9 := hK.sub (tys' := []) [] rfl
    exact W.iret (v := 0) hx hb hr (fun t ht hW => ⟨⟨0, (), rfl, rfl, by rw [ht]; exact hP9, va_K.moved hW.alike hK9, hD9⟩, hS.F ht⟩) hS.2.2 dX5_output_38
