set_option maxHeartbeats 4000000 in
set_option maxRecDepth 100000 in
theorem c_X4_load0 (l : Launch) (hl0 : l.stackTraces = false) (dC : Nat → ClassId) (dI : Nat → Nat → Nat) (sz : Nat) (g0 : Nat) (aM : Nat) (aP : Nat) (st : Int32) (aW : Nat) (aT : Nat) (cnt : Int32) (cW : ClassId) (words : Nat → Int32) (pl : Int32) (a0 : Int32) (a1 : Int32) (a2 : Int32) (a3 : Int32) (a4 : Int32)  : vx_Met l yX4_load wsX4_load ({ frames := 7, cells := 1, slots := 6, locals := 110 }) (va_Pc [.ref g0, .int pl, .int a0, .int a1, .int a2, .int a3, .int a4] (q_prx dC dI sz [(g0, .inr (4, [.ref aM, .ref aP, .int st])), (aM, .inr (1, [.ref aW, .ref aT, .int cnt])), (aW, .inl (cW, 2048, .inl words))] [(cW, .int)])) (va_Qi (fun (r : Int32) (u9 : (Nat → Int32)) => (r = ct pl + ct (pl + 2) + (ct (pl + 4) + ct (pl + 4 + 2)) + (ct (pl + 8) + ct (pl + 8 + 2)) + (ct (pl + 12) + ct (pl + 12 + 2)) + (ct (pl + 16) + ct (pl + 16 + 2))) ∧ (fa pl 65535 = 0)) (q_at dC dI (va_A [(g0, .inr (4, [.ref aM, .ref aP, .int st])), (aM, .inr (1, [.ref aW, .ref aT, .int cnt])), (aW, .inl (cW, 2048, .inl words))] sz) (fun (u9 : (Nat → Int32)) => [(cW, .int)]) (fun (u9 : (Nat → Int32)) => [(g0, .inr (4, [.ref aM, .ref aP, .int st])), (aM, .inr (1, [.ref aW, .ref aT, .int cnt])), (aW, .inl (cW, 2048, .inl u9))])) (va_A [(g0, .inr (4, [.ref aM, .ref aP, .int st])), (aM, .inr (1, [.ref aW, .ref aT, .int cnt])), (aW, .inl (cW, 2048, .inl words))] sz)) (vx_X (fun (_ : Unit) => ¬ fa pl 65535 = 0) (fun E9 _ _ => E9 = "java/lang/IndexOutOfBoundsException") (fun q => sz ≤ q)) 1 6 (va_A [(g0, .inr (4, [.ref aM, .ref aP, .int st])), (aM, .inr (1, [.ref aW, .ref aT, .int cnt])), (aW, .inl (cW, 2048, .inl words))] sz) := by
  refine vx_ofW (cc := cX4_load) (maxL := 7) (ret := (some .int)) (by decide) rfl ?_
  intro p e s m args below meth c s₁ B hml htab hv
  obtain ⟨rfl, ⟨hsz, hP, hK, hD0, hN⟩, hT⟩ := hv
  have hx := B.exec
  have hb := B.bytes
  have hr := B.returns
  have hts := atoms_spec (ws := wsX4_load) B.pre
  have hown : s.vm.findClass RX4 = some m.cls := findClass_of_methodNamed B.named
  have hlocks := B.notSynchronized
  subst hsz
  have hD := hD0.self (sz := s.heap.size)
  generalize hAe : va_A [(g0, .inr (4, [.ref aM, .ref aP, .int st])), (aM, .inr (1, [.ref aW, .ref aT, .int cnt])), (aW, .inl (cW, 2048, .inl words))] s.heap.size = A at hD hT ⊢
  have hA : ∀ q : Nat, s.heap.size ≤ q → A q := fun q h => by rw [← hAe]; exact Or.inr h
  have hS : va_S A s.heap s.heap [] := va_S.rf
  have hP : va_P (dC, dI) vwCl [(g0, .inr (4, [.ref aM, .ref aP, .int st])), (aM, .inr (1, [.ref aW, .ref aT, .int cnt])), (aW, .inl (cW, 2048, .inl words))] s.heap := hP
  have hl := lv_entry ([.ref g0, .int pl, .int a0, .int a1, .int a2, .int a3, .int a4]) (n := 7) (Nat.le_of_ble_eq_true rfl)
  rw [lg_entry_eq]
  generalize (lg_sl ([.ref g0, .int pl, .int a0, .int a1, .int a2, .int a3, .int a4]) ++ List.replicate (7 - (lg_sl ([.ref g0, .int pl, .int a0, .int a1, .int a2, .int a3, .int a4])).length) Slot.unset).toArray = ls at hl ⊢
  have hl : lv_has ls 7 [(0, .ref g0), (1, .int pl), (2, .int a0), (3, .int a1), (4, .int a2), (5, .int a3), (6, .int a4)] := hl
  refine lv_aload_n hx hb dX4_load_0 rfl (lv_at hl 0 rfl) ?_
  refine lv_iload_n hx hb dX4_load_1 rfl (lv_at hl 1 rfl) ?_
  have hPc := hP.sub (ws' := [(g0, .inr (4, [.ref aM, .ref aP, .int st])), (aM, .inr (1, [.ref aW, .ref aT, .int cnt]))]) [0, 1] rfl
  have hDc := hD.sub (ws' := [(g0, .inr (4, [.ref aM, .ref aP, .int st])), (aM, .inr (1, [.ref aW, .ref aT, .int cnt]))]) [0, 1] (by decide) rfl
  have hKc := hK.sub (tys' := []) [] rfl
  have hFc := va_free (wc := [(g0, .inr (4, [.ref aM, .ref aP, .int st])), (aM, .inr (1, [.ref aW, .ref aT, .int cnt]))]) hD hS hA [0, 1] rfl
  refine vx_callv (vx_runV (C := RX4) (b := g0) (As := [.int pl]) (rest := []) ⟨hx, hb, hml, hown, hts⟩ (c_X4_needWordAt l hl0 dC dI s.heap.size g0 aM aP st aW aT cnt pl) (cwV 1 hts gX4_load_X4_needWordAt rfl rfl rfl (by decide +kernel) ⟨Nat.le_of_ble_eq_true rfl, Nat.le_of_ble_eq_true rfl⟩) ⟨q_blindx, va_recv hK hP (ci := 4) (q0 := 0) rfl rfl, fun U hU hW => ⟨rfl, q_payx hU hW hPc hKc hDc hN hT hS hFc⟩⟩ rfl rfl hl.1 rfl (lv_room (Nat.le_of_ble_eq_true rfl)) dX4_load_2 ⟨show 0 + 1 ≤ 1 from by omega, show 0 + 6 ≤ 6 from by omega⟩) hS (fun q _ h => hFc q h) hFc (fun q h1 h2 => absurd h1 (Nat.not_lt.mpr h2)) (fun E9 ce9 q9 u9 t H9 locs ht hvm hw hB hz1 hk1 hS hq9 hv9 hc9 => ?_) (fun u9 t H locs ht hvm hw_2 hB hz1 hk1 hS => ?_)
  · obtain rfl := hB
    try dsimp only at hw
    exact vx_out (fun x9 h9 => (htab x9 h9).elim) hlocks hq9 hv9 hc9 (fun t9 ht9 hal => ⟨(), hw, rfl, by rw [ht9]; exact hz1, fun q h1 h2 => by rw [ht9]; exact hk1 q h1 h2⟩) hS.2.2 (by decide) (by decide)
  obtain ⟨hP1, hK1, hD1⟩ := hB
  rw [ht] at hP1
  obtain ⟨hP, hD⟩ := va_join (wr := [(aW, .inl (cW, 2048, .inl words))]) (w1 := [(g0, .inr (4, [.ref aM, .ref aP, .int st])), (aM, .inr (1, [.ref aW, .ref aT, .int cnt]))]) hP hD [0, 1] [2] rfl rfl (by decide) (by decide) hk1 hFc hP1 hD1
  have hP : va_P (dC, dI) vwCl [(aW, .inl (cW, 2048, .inl words)), (g0, .inr (4, [.ref aM, .ref aP, .int st])), (aM, .inr (1, [.ref aW, .ref aT, .int cnt]))] H := hP
  have hD : va_D A [(aW, .inl (cW, 2048, .inl words)), (g0, .inr (4, [.ref aM, .ref aP, .int st])), (aM, .inr (1, [.ref aW, .ref aT, .int cnt]))] := hD
  refine W.widen (k := 1) (n := 6) (by omega) (by omega) ?_
  try dsimp only at hw_2
  refine lv_aload_n hx hb dX4_load_5 rfl (lv_at hl 0 rfl) ?_
  refine va_get (D := (dC, dI)) (ci := 4) (v := .ref aM) (C := RX4) (T := TX4) (N := 3) hx hb hts (by decide +kernel) hown hK hP 1 rfl rfl 0 (by decide) (hts (.fieldLink RX4 12 "WordGuest" "memory" "LWordGuest$Memory;") (by decide +kernel)) (fun _ h9 => h9) rfl dX4_load_6 ?_
  refine lv_iload_n hx hb dX4_load_9 rfl (lv_at hl 1 rfl) ?_
  refine lv_iload_n hx hb dX4_load_10 rfl (lv_at hl 2 rfl) ?_
  have hPc := hP.sub (ws' := [(aM, .inr (1, [.ref aW, .ref aT, .int cnt])), (aW, .inl (cW, 2048, .inl words))]) [2, 0] rfl
  have hDc := hD.sub (ws' := [(aM, .inr (1, [.ref aW, .ref aT, .int cnt])), (aW, .inl (cW, 2048, .inl words))]) [2, 0] (by decide) rfl
  have hKc := hK.sub (tys' := [(cW, .int)]) [0] rfl
  have hFc := va_free (wc := [(aM, .inr (1, [.ref aW, .ref aT, .int cnt])), (aW, .inl (cW, 2048, .inl words))]) hD hS hA [2, 0] rfl
  refine va_calli (va_runV (C := RX1) (b := aM) (As := [.int pl, .int a0]) (rest := []) ⟨hx, hb, hml, hown, hts⟩ (c_X1_setPair l dC dI H.size aM aW aT cnt cW words pl a0) (cwV 2 hts gX4_load_X1_setPair rfl rfl rfl (by decide +kernel) ⟨Nat.le_of_ble_eq_true rfl, Nat.le_of_ble_eq_true rfl⟩) ⟨q_blind, va_recv hK hP (ci := 1) (q0 := 2) rfl rfl, fun U hU hW => ⟨rfl, q_pay hU hW hPc hKc hDc hN⟩⟩ rfl rfl hl.1 rfl (lv_room (Nat.le_of_ble_eq_true rfl)) dX4_load_11 ⟨show 1 + 0 ≤ 1 from by omega, show 6 + 0 ≤ 6 from by omega⟩) hS (fun q _ h => hFc q h) hFc (fun r_3 u9 t H locs ht hvm hw_4 hB hz1 hk1 hS => ?_)
  obtain ⟨words2_5, rfl⟩ : ∃ z, z = u9 := ⟨_, rfl⟩
  obtain ⟨hP1, hK1, hD1⟩ := hB
  rw [ht] at hP1
  obtain ⟨hP, hD⟩ := va_join (wr := [(g0, .inr (4, [.ref aM, .ref aP, .int st]))]) (w1 := [(aM, .inr (1, [.ref aW, .ref aT, .int cnt])), (aW, .inl (cW, 2048, .inl words2_5))]) hP hD [2, 0] [1] rfl rfl (by decide) (by decide) hk1 hFc hP1 hD1
  have hP : va_P (dC, dI) vwCl [(g0, .inr (4, [.ref aM, .ref aP, .int st])), (aM, .inr (1, [.ref aW, .ref aT, .int cnt])), (aW, .inl (cW, 2048, .inl words2_5))] H := hP
  have hD : va_D A [(g0, .inr (4, [.ref aM, .ref aP, .int st])), (aM, .inr (1, [.ref aW, .ref aT, .int cnt])), (aW, .inl (cW, 2048, .inl words2_5))] := hD
  refine W.widen (k := 1) (n := 6) (by omega) (by omega) ?_
  try dsimp only at hw_4
  obtain rfl := hw_4
  refine lv_aload_n hx hb dX4_load_14 rfl (lv_at hl 0 rfl) ?_
  refine va_get (D := (dC, dI)) (ci := 4) (v := .ref aM) (C := RX4) (T := TX4) (N := 3) hx hb hts (by decide +kernel) hown hK hP 0 rfl rfl 0 (by decide) (hts (.fieldLink RX4 12 "WordGuest" "memory" "LWordGuest$Memory;") (by decide +kernel)) (fun _ h9 => h9) rfl dX4_load_15 ?_
  refine lv_iload_n hx hb dX4_load_18 rfl (lv_at hl 1 rfl) ?_
  refine lv_iconst (v := 4) hx hb dX4_load_19 (by decide) ?_
  refine lv_iadd hx hb dX4_load_20 ?_
  refine lv_iload_n hx hb dX4_load_21 rfl (lv_at hl 3 rfl) ?_
  have hPc := hP.sub (ws' := [(aM, .inr (1, [.ref aW, .ref aT, .int cnt])), (aW, .inl (cW, 2048, .inl words2_5))]) [1, 2] rfl
  have hDc := hD.sub (ws' := [(aM, .inr (1, [.ref aW, .ref aT, .int cnt])), (aW, .inl (cW, 2048, .inl words2_5))]) [1, 2] (by decide) rfl
  have hKc := hK.sub (tys' := [(cW, .int)]) [0] rfl
  have hFc := va_free (wc := [(aM, .inr (1, [.ref aW, .ref aT, .int cnt])), (aW, .inl (cW, 2048, .inl words2_5))]) hD hS hA [1, 2] rfl
  refine va_calli (va_runV (C := RX1) (b := aM) (As := [.int (pl + 4), .int a1]) (rest := [.int (ct pl + ct (pl + 2))]) ⟨hx, hb, hml, hown, hts⟩ (c_X1_setPair l dC dI H.size aM aW aT cnt cW words2_5 (pl + 4) a1) (cwV 2 hts gX4_load_X1_setPair rfl rfl rfl (by decide +kernel) ⟨Nat.le_of_ble_eq_true rfl, Nat.le_of_ble_eq_true rfl⟩) ⟨q_blind, va_recv hK hP (ci := 1) (q0 := 1) rfl rfl, fun U hU hW => ⟨rfl, q_pay hU hW hPc hKc hDc hN⟩⟩ rfl rfl hl.1 rfl (lv_room (Nat.le_of_ble_eq_true rfl)) dX4_load_22 ⟨show 1 + 0 ≤ 1 from by omega, show 6 + 0 ≤ 6 from by omega⟩) hS (fun q _ h => hFc q h) hFc (fun r_6 u9 t H locs ht hvm hw_7 hB hz1 hk1 hS => ?_)
  obtain ⟨words2_8, rfl⟩ : ∃ z, z = u9 := ⟨_, rfl⟩
  obtain ⟨hP1, hK1, hD1⟩ := hB
  rw [ht] at hP1
  obtain ⟨hP, hD⟩ := va_join (wr := [(g0, .inr (4, [.ref aM, .ref aP, .int st]))]) (w1 := [(aM, .inr (1, [.ref aW, .ref aT, .int cnt])), (aW, .inl (cW, 2048, .inl words2_8))]) hP hD [1, 2] [0] rfl rfl (by decide) (by decide) hk1 hFc hP1 hD1
  have hP : va_P (dC, dI) vwCl [(g0, .inr (4, [.ref aM, .ref aP, .int st])), (aM, .inr (1, [.ref aW, .ref aT, .int cnt])), (aW, .inl (cW, 2048, .inl words2_8))] H := hP
  have hD : va_D A [(g0, .inr (4, [.ref aM, .ref aP, .int st])), (aM, .inr (1, [.ref aW, .ref aT, .int cnt])), (aW, .inl (cW, 2048, .inl words2_8))] := hD
  refine W.widen (k := 1) (n := 6) (by omega) (by omega) ?_
  try dsimp only at hw_7
  obtain rfl := hw_7
  refine lv_iadd hx hb dX4_load_25 ?_
  refine lv_aload_n hx hb dX4_load_26 rfl (lv_at hl 0 rfl) ?_
  refine va_get (D := (dC, dI)) (ci := 4) (v := .ref aM) (C := RX4) (T := TX4) (N := 3) hx hb hts (by decide +kernel) hown hK hP 0 rfl rfl 0 (by decide) (hts (.fieldLink RX4 12 "WordGuest" "memory" "LWordGuest$Memory;") (by decide +kernel)) (fun _ h9 => h9) rfl dX4_load_27 ?_
  refine lv_iload_n hx hb dX4_load_30 rfl (lv_at hl 1 rfl) ?_
  refine lv_bipush (v := 8) hx hb dX4_load_31 (by decide) ?_
  refine lv_iadd hx hb dX4_load_33 ?_
  refine lv_iload hx hb dX4_load_34 (lv_at hl 4 rfl) ?_
  have hPc := hP.sub (ws' := [(aM, .inr (1, [.ref aW, .ref aT, .int cnt])), (aW, .inl (cW, 2048, .inl words2_8))]) [1, 2] rfl
  have hDc := hD.sub (ws' := [(aM, .inr (1, [.ref aW, .ref aT, .int cnt])), (aW, .inl (cW, 2048, .inl words2_8))]) [1, 2] (by decide) rfl
  have hKc := hK.sub (tys' := [(cW, .int)]) [0] rfl
  have hFc := va_free (wc := [(aM, .inr (1, [.ref aW, .ref aT, .int cnt])), (aW, .inl (cW, 2048, .inl words2_8))]) hD hS hA [1, 2] rfl
  refine va_calli (va_runV (C := RX1) (b := aM) (As := [.int (pl + 8), .int a2]) (rest := [.int ((ct pl + ct (pl + 2)) + (ct (pl + 4) + ct ((pl + 4) + 2)))]) ⟨hx, hb, hml, hown, hts⟩ (c_X1_setPair l dC dI H.size aM aW aT cnt cW words2_8 (pl + 8) a2) (cwV 2 hts gX4_load_X1_setPair rfl rfl rfl (by decide +kernel) ⟨Nat.le_of_ble_eq_true rfl, Nat.le_of_ble_eq_true rfl⟩) ⟨q_blind, va_recv hK hP (ci := 1) (q0 := 1) rfl rfl, fun U hU hW => ⟨rfl, q_pay hU hW hPc hKc hDc hN⟩⟩ rfl rfl hl.1 rfl (lv_room (Nat.le_of_ble_eq_true rfl)) dX4_load_36 ⟨show 1 + 0 ≤ 1 from by omega, show 6 + 0 ≤ 6 from by omega⟩) hS (fun q _ h => hFc q h) hFc (fun r_9 u9 t H locs ht hvm hw_10 hB hz1 hk1 hS => ?_)
  obtain ⟨words2_11, rfl⟩ : ∃ z, z = u9 := ⟨_, rfl⟩
  obtain ⟨hP1, hK1, hD1⟩ := hB
  rw [ht] at hP1
  obtain ⟨hP, hD⟩ := va_join (wr := [(g0, .inr (4, [.ref aM, .ref aP, .int st]))]) (w1 := [(aM, .inr (1, [.ref aW, .ref aT, .int cnt])), (aW, .inl (cW, 2048, .inl words2_11))]) hP hD [1, 2] [0] rfl rfl (by decide) (by decide) hk1 hFc hP1 hD1
  have hP : va_P (dC, dI) vwCl [(g0, .inr (4, [.ref aM, .ref aP, .int st])), (aM, .inr (1, [.ref aW, .ref aT, .int cnt])), (aW, .inl (cW, 2048, .inl words2_11))] H := hP
  have hD : va_D A [(g0, .inr (4, [.ref aM, .ref aP, .int st])), (aM, .inr (1, [.ref aW, .ref aT, .int cnt])), (aW, .inl (cW, 2048, .inl words2_11))] := hD
  refine W.widen (k := 1) (n := 6) (by omega) (by omega) ?_
  try dsimp only at hw_10
  obtain rfl := hw_10
  refine lv_iadd hx hb dX4_load_39 ?_
  refine lv_aload_n hx hb dX4_load_40 rfl (lv_at hl 0 rfl) ?_
  refine va_get (D := (dC, dI)) (ci := 4) (v := .ref aM) (C := RX4) (T := TX4) (N := 3) hx hb hts (by decide +kernel) hown hK hP 0 rfl rfl 0 (by decide) (hts (.fieldLink RX4 12 "WordGuest" "memory" "LWordGuest$Memory;") (by decide +kernel)) (fun _ h9 => h9) rfl dX4_load_41 ?_
  refine lv_iload_n hx hb dX4_load_44 rfl (lv_at hl 1 rfl) ?_
  refine lv_bipush (v := 12) hx hb dX4_load_45 (by decide) ?_
  refine lv_iadd hx hb dX4_load_47 ?_
  refine lv_iload hx hb dX4_load_48 (lv_at hl 5 rfl) ?_
  have hPc := hP.sub (ws' := [(aM, .inr (1, [.ref aW, .ref aT, .int cnt])), (aW, .inl (cW, 2048, .inl words2_11))]) [1, 2] rfl
  have hDc := hD.sub (ws' := [(aM, .inr (1, [.ref aW, .ref aT, .int cnt])), (aW, .inl (cW, 2048, .inl words2_11))]) [1, 2] (by decide) rfl
  have hKc := hK.sub (tys' := [(cW, .int)]) [0] rfl
  have hFc := va_free (wc := [(aM, .inr (1, [.ref aW, .ref aT, .int cnt])), (aW, .inl (cW, 2048, .inl words2_11))]) hD hS hA [1, 2] rfl
  refine va_calli (va_runV (C := RX1) (b := aM) (As := [.int (pl + 12), .int a3]) (rest := [.int (((ct pl + ct (pl + 2)) + (ct (pl + 4) + ct ((pl + 4) + 2))) + (ct (pl + 8) + ct ((pl + 8) + 2)))]) ⟨hx, hb, hml, hown, hts⟩ (c_X1_setPair l dC dI H.size aM aW aT cnt cW words2_11 (pl + 12) a3) (cwV 2 hts gX4_load_X1_setPair rfl rfl rfl (by decide +kernel) ⟨Nat.le_of_ble_eq_true rfl, Nat.le_of_ble_eq_true rfl⟩) ⟨q_blind, va_recv hK hP (ci := 1) (q0 := 1) rfl rfl, fun U hU hW => ⟨rfl, q_pay hU hW hPc hKc hDc hN⟩⟩ rfl rfl hl.1 rfl (lv_room (Nat.le_of_ble_eq_true rfl)) dX4_load_50 ⟨show 1 + 0 ≤ 1 from by omega, show 6 + 0 ≤ 6 from by omega⟩) hS (fun q _ h => hFc q h) hFc (fun r_12 u9 t H locs ht hvm hw_13 hB hz1 hk1 hS => ?_)
  obtain ⟨words2_14, rfl⟩ : ∃ z, z = u9 := ⟨_, rfl⟩
  obtain ⟨hP1, hK1, hD1⟩ := hB
  rw [ht] at hP1
  obtain ⟨hP, hD⟩ := va_join (wr := [(g0, .inr (4, [.ref aM, .ref aP, .int st]))]) (w1 := [(aM, .inr (1, [.ref aW, .ref aT, .int cnt])), (aW, .inl (cW, 2048, .inl words2_14))]) hP hD [1, 2] [0] rfl rfl (by decide) (by decide) hk1 hFc hP1 hD1
  have hP : va_P (dC, dI) vwCl [(g0, .inr (4, [.ref aM, .ref aP, .int st])), (aM, .inr (1, [.ref aW, .ref aT, .int cnt])), (aW, .inl (cW, 2048, .inl words2_14))] H := hP
  have hD : va_D A [(g0, .inr (4, [.ref aM, .ref aP, .int st])), (aM, .inr (1, [.ref aW, .ref aT, .int cnt])), (aW, .inl (cW, 2048, .inl words2_14))] := hD
  refine W.widen (k := 1) (n := 6) (by omega) (by omega) ?_
  try dsimp only at hw_13
  obtain rfl := hw_13
  refine lv_iadd hx hb dX4_load_53 ?_
  refine lv_aload_n hx hb dX4_load_54 rfl (lv_at hl 0 rfl) ?_
  refine va_get (D := (dC, dI)) (ci := 4) (v := .ref aM) (C := RX4) (T := TX4) (N := 3) hx hb hts (by decide +kernel) hown hK hP 0 rfl rfl 0 (by decide) (hts (.fieldLink RX4 12 "WordGuest" "memory" "LWordGuest$Memory;") (by decide +kernel)) (fun _ h9 => h9) rfl dX4_load_55 ?_
  refine lv_iload_n hx hb dX4_load_58 rfl (lv_at hl 1 rfl) ?_
  refine lv_bipush (v := 16) hx hb dX4_load_59 (by decide) ?_
  refine lv_iadd hx hb dX4_load_61 ?_
  refine lv_iload hx hb dX4_load_62 (lv_at hl 6 rfl) ?_
  have hPc := hP.sub (ws' := [(aM, .inr (1, [.ref aW, .ref aT, .int cnt])), (aW, .inl (cW, 2048, .inl words2_14))]) [1, 2] rfl
  have hDc := hD.sub (ws' := [(aM, .inr (1, [.ref aW, .ref aT, .int cnt])), (aW, .inl (cW, 2048, .inl words2_14))]) [1, 2] (by decide) rfl
  have hKc := hK.sub (tys' := [(cW, .int)]) [0] rfl
  have hFc := va_free (wc := [(aM, .inr (1, [.ref aW, .ref aT, .int cnt])), (aW, .inl (cW, 2048, .inl words2_14))]) hD hS hA [1, 2] rfl
  refine va_calli (va_runV (C := RX1) (b := aM) (As := [.int (pl + 16), .int a4]) (rest := [.int ((((ct pl + ct (pl + 2)) + (ct (pl + 4) + ct ((pl + 4) + 2))) + (ct (pl + 8) + ct ((pl + 8) + 2))) + (ct (pl + 12) + ct ((pl + 12) + 2)))]) ⟨hx, hb, hml, hown, hts⟩ (c_X1_setPair l dC dI H.size aM aW aT cnt cW words2_14 (pl + 16) a4) (cwV 2 hts gX4_load_X1_setPair rfl rfl rfl (by decide +kernel) ⟨Nat.le_of_ble_eq_true rfl, Nat.le_of_ble_eq_true rfl⟩) ⟨q_blind, va_recv hK hP (ci := 1) (q0 := 1) rfl rfl, fun U hU hW => ⟨rfl, q_pay hU hW hPc hKc hDc hN⟩⟩ rfl rfl hl.1 rfl (lv_room (Nat.le_of_ble_eq_true rfl)) dX4_load_64 ⟨show 1 + 0 ≤ 1 from by omega, show 6 + 0 ≤ 6 from by omega⟩) hS (fun q _ h => hFc q h) hFc (fun r_15 u9 t H locs ht hvm hw_16 hB hz1 hk1 hS => ?_)
  obtain ⟨words2_17, rfl⟩ : ∃ z, z = u9 := ⟨_, rfl⟩
  obtain ⟨hP1, hK1, hD1⟩ := hB
  rw [ht] at hP1
  obtain ⟨hP, hD⟩ := va_join (wr := [(g0, .inr (4, [.ref aM, .ref aP, .int st]))]) (w1 := [(aM, .inr (1, [.ref aW, .ref aT, .int cnt])), (aW, .inl (cW, 2048, .inl words2_17))]) hP hD [1, 2] [0] rfl rfl (by decide) (by decide) hk1 hFc hP1 hD1
  have hP : va_P (dC, dI) vwCl [(g0, .inr (4, [.ref aM, .ref aP, .int st])), (aM, .inr (1, [.ref aW, .ref aT, .int cnt])), (aW, .inl (cW, 2048, .inl words2_17))] H := hP
  have hD : va_D A [(g0, .inr (4, [.ref aM, .ref aP, .int st])), (aM, .inr (1, [.ref aW, .ref aT, .int cnt])), (aW, .inl (cW, 2048, .inl words2_17))] := hD
  refine W.widen (k := 1) (n := 6) (by omega) (by omega) ?_
  try dsimp only at hw_16
  obtain rfl := hw_16
  refine lv_iadd hx hb dX4_load_67 ?_
  have hP9 := hP.sub (ws' := [(g0, .inr (4, [.ref aM, .ref aP, .int st])), (aM, .inr (1, [.ref aW, .ref aT, .int cnt])), (aW, .inl (cW, 2048, .inl words2_17))]) [0, 1, 2] rfl
  have hD9 := hD.sub (ws' := [(g0, .inr (4, [.ref aM, .ref aP, .int st])), (aM, .inr (1, [.ref aW, .ref aT, .int cnt])), (aW, .inl (cW, 2048, .inl words2_17))]) [0, 1, 2] (by decide) rfl
  have hK9 := hK.sub (tys' := [(cW, .int)]) [0] rfl
  refine vx_ret ?_
  exact W.iret (v := ((((ct pl + ct (pl + 2)) + (ct (pl + 4) + ct ((pl + 4) + 2))) + (ct (pl + 8) + ct ((pl + 8) + 2))) + (ct (pl + 12) + ct ((pl + 12) + 2))) + (ct (pl + 16) + ct ((pl + 16) + 2))) hx hb hr (fun t ht hW => ⟨⟨((((ct pl + ct (pl + 2)) + (ct (pl + 4) + ct ((pl + 4) + 2))) + (ct (pl + 8) + ct ((pl + 8) + 2))) + (ct (pl + 12) + ct ((pl + 12) + 2))) + (ct (pl + 16) + ct ((pl + 16) + 2)), words2_17, rfl, ⟨rfl, hw_2⟩, by rw [ht]; exact hP9, va_K.moved hW.alike hK9, hD9⟩, hS.F ht⟩) hS.2.2 dX4_load_68
set_option maxHeartbeats 4000000 in
set_option maxRecDepth 100000 in
theorem c_X4_init (l : Launch) (dC : Nat → ClassId) (dI : Nat → Nat → Nat) (sz : Nat) (g0 : Nat)  : Met l yX4_init wsX4_init ({ frames := 3, cells := 8, slots := 2477, locals := 54 }) (va_Pc [.ref g0] (q_pre dC dI sz [(g0, .inr (4, [.null, .null, .int 0]))] [])) (va_Qv (fun (u9 : Nat × Nat × Nat × Nat × ClassId × ClassId × Nat × Nat × Nat × Nat × ClassId × ClassId) => True) (q_at dC dI (va_A [(g0, .inr (4, [.null, .null, .int 0]))] sz) (fun (u9 : Nat × Nat × Nat × Nat × ClassId × ClassId × Nat × Nat × Nat × Nat × ClassId × ClassId) => [(u9.2.2.2.2.1, .int), (u9.2.2.2.2.2.1, .int), (u9.2.2.2.2.2.2.2.2.2.2.1, .int), (u9.2.2.2.2.2.2.2.2.2.2.2, .int)]) (fun (u9 : Nat × Nat × Nat × Nat × ClassId × ClassId × Nat × Nat × Nat × Nat × ClassId × ClassId) => [(g0, .inr (4, [.ref u9.1, .ref u9.2.1, .int 0])), (u9.1, .inr (1, [.ref u9.2.2.1, .ref u9.2.2.2.1, .int 0])), (u9.2.2.1, .inl (u9.2.2.2.2.1, 2048, .inl (fun _ => 0))), (u9.2.2.2.1, .inl (u9.2.2.2.2.2.1, 400, .inl (fun _ => 0))), (u9.2.1, .inr (3, [.ref u9.2.2.2.2.2.2.1, .ref u9.2.2.2.2.2.2.2.1])), (u9.2.2.2.2.2.2.1, .inr (2, [.ref u9.1, .ref u9.2.2.2.2.2.2.2.2.1, .ref u9.2.2.2.2.2.2.2.2.2.1, .int 0])), (u9.2.2.2.2.2.2.2.2.1, .inl (u9.2.2.2.2.2.2.2.2.2.2.1, 8, .inl (fun _ => 0))), (u9.2.2.2.2.2.2.2.2.2.1, .inl (u9.2.2.2.2.2.2.2.2.2.2.2, 8, .inl (fun _ => 0))), (u9.2.2.2.2.2.2.2.1, .inr (0, [.int 0, .int 0, .int 0, .int 0]))])) (va_A [(g0, .inr (4, [.null, .null, .int 0]))] sz)) 8 2477 (va_A [(g0, .inr (4, [.null, .null, .int 0]))] sz) := by
  refine Met.ofW (cc := cX4_init) (maxL := 1) (ret := none) (by decide) rfl ?_
  intro p e s m args below meth c s₁ B hml hv
  obtain ⟨rfl, hsz, hP, hK, hD0, hN⟩ := hv
  have hx := B.exec
  have hb := B.bytes
  have hr := B.returns
  have hts := atoms_spec (ws := wsX4_init) B.pre
  have hown : s.vm.findClass RX4 = some m.cls := findClass_of_methodNamed B.named
  have hlocks := B.notSynchronized
  have hin : meth.name = "<init>" := (name_of_methodNamed B.named B.method).1
  subst hsz
  have hD := hD0.self (sz := s.heap.size)
  generalize hAe : va_A [(g0, .inr (4, [.null, .null, .int 0]))] s.heap.size = A at hD ⊢
  have hA : ∀ q : Nat, s.heap.size ≤ q → A q := fun q h => by rw [← hAe]; exact Or.inr h
  have hS : va_S A s.heap s.heap [] := va_S.rf
  have hP : va_P (dC, dI) vwCl [(g0, .inr (4, [.null, .null, .int 0]))] s.heap := hP
  have hl := lv_entry ([.ref g0]) (n := 1) (Nat.le_of_ble_eq_true rfl)
  rw [lg_entry_eq]
  generalize (lg_sl ([.ref g0]) ++ List.replicate (1 - (lg_sl ([.ref g0])).length) Slot.unset).toArray = ls at hl ⊢
  have hl : lv_has ls 1 [(0, .ref g0)] := hl
  refine lv_aload_n hx hb dX4_init_0 rfl (lv_at hl 0 rfl) ?_
  refine W.objInit hx hb hown (hts (.methodLink RX4 3 objectInit) (by decide +kernel)) (hts (.instanceMethod objectInit) (by decide +kernel)) (hts (.code objectInit ⟨#[0xb1]⟩ 1 none) (by decide +kernel)) rfl (by rw [hml]; exact hl.1) rfl dX4_init_1 (Nat.le_of_ble_eq_true rfl) (Nat.le_of_ble_eq_true rfl) ?_
  refine W.eq (g2 := F0 m 4 ls []) rfl ?_
  refine lv_aload_n hx hb dX4_init_4 rfl (lv_at hl 0 rfl) ?_
  refine va_new (ci := 1) (fs := [.null, .null, .int 0]) (C := RX1) (T := TX1) (N := 3) hx hb hts (by decide +kernel) tyX1 tyX1_ok hown (hts (.classLink RX4 9 RX1) (by decide +kernel)) (hts (.instantiable RX1 3) (by decide +kernel)) (hts (.initialized RX1) (by decide +kernel)) hK hP hD hS hA rfl (fun j hj => by rcases (show j = 0 ∨ j = 1 ∨ j = 2 by omega) with rfl | rfl | rfl <;> rfl) (show 0 + 1 ≤ 8 from by omega) (show 0 + 3 ≤ 2477 from by omega) dX4_init_5 (fun q_1 H hP hD hS => ?_)
  have hP : va_P (dC, dI) vwCl [(g0, .inr (4, [.null, .null, .int 0])), (q_1, .inr (1, [.null, .null, .int 0]))] H := hP
  have hD : va_D A [(g0, .inr (4, [.null, .null, .int 0])), (q_1, .inr (1, [.null, .null, .int 0]))] := hD
  refine W.widen (k := 1) (n := 3) (by omega) (by omega) ?_
  refine lv_dup hx hb dX4_init_8 rfl ?_
  have hPc := hP.sub (ws' := [(q_1, .inr (1, [.null, .null, .int 0]))]) [1] rfl
  have hDc := hD.sub (ws' := [(q_1, .inr (1, [.null, .null, .int 0]))]) [1] (by decide) rfl
  have hKc := hK.sub (tys' := []) [] rfl
  have hFc := va_free (wc := [(q_1, .inr (1, [.null, .null, .int 0]))]) hD hS hA [1] rfl
  refine va_callv (va_runIN (b := q_1) (As := []) (rest := [.ref q_1, .ref g0]) ⟨hx, hb, hml, hown, hts⟩ (c_X1_init l dC dI H.size q_1) ⟨va_cnB 0 hts gX4_init_X1_init_n11 rfl rfl rfl (hN _ (List.mem_of_getElem? (i := 0) rfl)) (hts (.initialized RX1) (by decide +kernel)) (by decide +kernel) ⟨Nat.le_of_ble_eq_true rfl, Nat.le_of_ble_eq_true rfl⟩, rfl, hts (.instanceMethod yX1_init) (by decide +kernel)⟩ ⟨q_blind, fun U hU hW => ⟨rfl, q_pay hU hW hPc hKc hDc hN⟩⟩ rfl rfl hl.1 rfl (lv_room (Nat.le_of_ble_eq_true rfl)) dX4_init_9 ⟨show 1 + 2 ≤ 8 from by omega, show 3 + 2448 ≤ 2477 from by omega⟩) hS (fun q _ h => hFc q h) hFc (fun u9 t H locs ht hvm hw_3 hB hz1 hk1 hS => ?_)
  obtain ⟨aW_4, aT_5, cW_6, cT_7⟩ := u9
  obtain ⟨hP1, hK1, hD1⟩ := hB
  rw [ht] at hP1
  obtain ⟨hP, hD⟩ := va_join (wr := [(g0, .inr (4, [.null, .null, .int 0]))]) (w1 := [(q_1, .inr (1, [.ref aW_4, .ref aT_5, .int 0])), (aW_4, .inl (cW_6, 2048, .inl (fun _ => 0))), (aT_5, .inl (cT_7, 400, .inl (fun _ => 0)))]) hP hD [1] [0] rfl rfl (by decide) (by decide) hk1 hFc hP1 hD1
  have hP : va_P (dC, dI) vwCl [(g0, .inr (4, [.null, .null, .int 0])), (q_1, .inr (1, [.ref aW_4, .ref aT_5, .int 0])), (aW_4, .inl (cW_6, 2048, .inl (fun _ => 0))), (aT_5, .inl (cT_7, 400, .inl (fun _ => 0)))] H := hP
  have hD : va_D A [(g0, .inr (4, [.null, .null, .int 0])), (q_1, .inr (1, [.ref aW_4, .ref aT_5, .int 0])), (aW_4, .inl (cW_6, 2048, .inl (fun _ => 0))), (aT_5, .inl (cT_7, 400, .inl (fun _ => 0)))] := hD
  have hK := hK.app (va_K.moved hvm.symm hK1)
  have hK : va_K (dC, dI) vwCl [(cW_6, .int), (cT_7, .int)] s := hK
  refine W.widen (k := 3) (n := 2451) (by omega) (by omega) ?_
  try dsimp only at hw_3
  refine va_putF (D := (dC, dI)) (ci := 4) (v := .ref q_1) (ty := .object "WordGuest$Memory") (C := RX4) (T := TX4) (N := 3) hx hb hts (by decide +kernel) tyX4 tyX4_ok nmX4 hown hK hP hD hS 0 rfl rfl 0 (by decide) (hts (.fieldLink RX4 12 "WordGuest" "memory" "LWordGuest$Memory;") (by decide +kernel)) (fun _ h9 => h9) rfl hin rfl (by decide +kernel) rfl rfl (Nat.le_of_ble_eq_true rfl) dX4_init_12 (fun H locs hP hD hS => ?_)
  have hP : va_P (dC, dI) vwCl [(g0, .inr (4, [.ref q_1, .null, .int 0])), (q_1, .inr (1, [.ref aW_4, .ref aT_5, .int 0])), (aW_4, .inl (cW_6, 2048, .inl (fun _ => 0))), (aT_5, .inl (cT_7, 400, .inl (fun _ => 0)))] H := hP
  have hD : va_D A [(g0, .inr (4, [.ref q_1, .null, .int 0])), (q_1, .inr (1, [.ref aW_4, .ref aT_5, .int 0])), (aW_4, .inl (cW_6, 2048, .inl (fun _ => 0))), (aT_5, .inl (cT_7, 400, .inl (fun _ => 0)))] := hD
  refine lv_aload_n hx hb dX4_init_15 rfl (lv_at hl 0 rfl) ?_
  refine va_new (ci := 3) (fs := [.null, .null]) (C := RX3) (T := TX3) (N := 2) hx hb hts (by decide +kernel) tyX3 tyX3_ok hown (hts (.classLink RX4 16 RX3) (by decide +kernel)) (hts (.instantiable RX3 2) (by decide +kernel)) (hts (.initialized RX3) (by decide +kernel)) hK hP hD hS hA rfl (fun j hj => by rcases (show j = 0 ∨ j = 1 by omega) with rfl | rfl <;> rfl) (show 3 + 1 ≤ 8 from by omega) (show 2451 + 2 ≤ 2477 from by omega) dX4_init_16 (fun q_8 H hP hD hS => ?_)
  have hP : va_P (dC, dI) vwCl [(g0, .inr (4, [.ref q_1, .null, .int 0])), (q_1, .inr (1, [.ref aW_4, .ref aT_5, .int 0])), (aW_4, .inl (cW_6, 2048, .inl (fun _ => 0))), (aT_5, .inl (cT_7, 400, .inl (fun _ => 0))), (q_8, .inr (3, [.null, .null]))] H := hP
  have hD : va_D A [(g0, .inr (4, [.ref q_1, .null, .int 0])), (q_1, .inr (1, [.ref aW_4, .ref aT_5, .int 0])), (aW_4, .inl (cW_6, 2048, .inl (fun _ => 0))), (aT_5, .inl (cT_7, 400, .inl (fun _ => 0))), (q_8, .inr (3, [.null, .null]))] := hD
  refine W.widen (k := 4) (n := 2453) (by omega) (by omega) ?_
  refine lv_dup hx hb dX4_init_19 rfl ?_
  refine lv_aload_n hx hb dX4_init_20 rfl (lv_at hl 0 rfl) ?_
  refine va_get (D := (dC, dI)) (ci := 4) (v := .ref q_1) (C := RX4) (T := TX4) (N := 3) hx hb hts (by decide +kernel) hown hK hP 0 rfl rfl 0 (by decide) (hts (.fieldLink RX4 12 "WordGuest" "memory" "LWordGuest$Memory;") (by decide +kernel)) (fun _ h9 => h9) rfl dX4_init_21 ?_
  have hPc := hP.sub (ws' := [(q_8, .inr (3, [.null, .null]))]) [4] rfl
  have hDc := hD.sub (ws' := [(q_8, .inr (3, [.null, .null]))]) [4] (by decide) rfl
  have hKc := hK.sub (tys' := []) [] rfl
  have hFc := va_free (wc := [(q_8, .inr (3, [.null, .null]))]) hD hS hA [4] rfl
  refine va_callv (va_runI (b := q_8) (As := [.ref q_1]) (rest := [.ref q_8, .ref g0]) ⟨hx, hb, hml, hown, hts⟩ (c_X3_init l dC dI H.size q_8 q_1) (cwI 1 hts gX4_init_X3_init rfl rfl rfl (hts (.initialized RX3) (by decide +kernel)) (hts (.methodLink RX4 18 yX3_init) (by decide +kernel)) (hts (.instanceMethod yX3_init) (by decide +kernel)) rfl (by decide +kernel) ⟨Nat.le_of_ble_eq_true rfl, Nat.le_of_ble_eq_true rfl⟩) ⟨q_blind, fun U hU hW => ⟨rfl, q_pay hU hW hPc hKc hDc hN⟩⟩ rfl rfl hl.1 rfl (lv_room (Nat.le_of_ble_eq_true rfl)) dX4_init_24 ⟨show 4 + 4 ≤ 8 from by omega, show 2453 + 24 ≤ 2477 from by omega⟩) hS (fun q _ h => hFc q h) hFc (fun u9 t H locs ht hvm hw_10 hB hz1 hk1 hS => ?_)
  obtain ⟨aR_11, aF_12, aA_13, aB_14, cA_15, cB_16⟩ := u9
  obtain ⟨hP1, hK1, hD1⟩ := hB
  rw [ht] at hP1
  obtain ⟨hP, hD⟩ := va_join (wr := [(g0, .inr (4, [.ref q_1, .null, .int 0])), (q_1, .inr (1, [.ref aW_4, .ref aT_5, .int 0])), (aW_4, .inl (cW_6, 2048, .inl (fun _ => 0))), (aT_5, .inl (cT_7, 400, .inl (fun _ => 0)))]) (w1 := [(q_8, .inr (3, [.ref aR_11, .ref aF_12])), (aR_11, .inr (2, [.ref q_1, .ref aA_13, .ref aB_14, .int 0])), (aA_13, .inl (cA_15, 8, .inl (fun _ => 0))), (aB_14, .inl (cB_16, 8, .inl (fun _ => 0))), (aF_12, .inr (0, [.int 0, .int 0, .int 0, .int 0]))]) hP hD [4] [0, 1, 2, 3] rfl rfl (by decide) (by decide) hk1 hFc hP1 hD1
  have hP : va_P (dC, dI) vwCl [(g0, .inr (4, [.ref q_1, .null, .int 0])), (q_1, .inr (1, [.ref aW_4, .ref aT_5, .int 0])), (aW_4, .inl (cW_6, 2048, .inl (fun _ => 0))), (aT_5, .inl (cT_7, 400, .inl (fun _ => 0))), (q_8, .inr (3, [.ref aR_11, .ref aF_12])), (aR_11, .inr (2, [.ref q_1, .ref aA_13, .ref aB_14, .int 0])), (aA_13, .inl (cA_15, 8, .inl (fun _ => 0))), (aB_14, .inl (cB_16, 8, .inl (fun _ => 0))), (aF_12, .inr (0, [.int 0, .int 0, .int 0, .int 0]))] H := hP
  have hD : va_D A [(g0, .inr (4, [.ref q_1, .null, .int 0])), (q_1, .inr (1, [.ref aW_4, .ref aT_5, .int 0])), (aW_4, .inl (cW_6, 2048, .inl (fun _ => 0))), (aT_5, .inl (cT_7, 400, .inl (fun _ => 0))), (q_8, .inr (3, [.ref aR_11, .ref aF_12])), (aR_11, .inr (2, [.ref q_1, .ref aA_13, .ref aB_14, .int 0])), (aA_13, .inl (cA_15, 8, .inl (fun _ => 0))), (aB_14, .inl (cB_16, 8, .inl (fun _ => 0))), (aF_12, .inr (0, [.int 0, .int 0, .int 0, .int 0]))] := hD
  have hK := hK.app (va_K.moved hvm.symm hK1)
  have hK : va_K (dC, dI) vwCl [(cW_6, .int), (cT_7, .int), (cA_15, .int), (cB_16, .int)] s := hK
  refine W.widen (k := 8) (n := 2477) (by omega) (by omega) ?_
  try dsimp only at hw_10
  refine va_putF (D := (dC, dI)) (ci := 4) (v := .ref q_8) (ty := .object "WordGuest$Processor") (C := RX4) (T := TX4) (N := 3) hx hb hts (by decide +kernel) tyX4 tyX4_ok nmX4 hown hK hP hD hS 0 rfl rfl 1 (by decide) (hts (.fieldLink RX4 21 "WordGuest" "processor" "LWordGuest$Processor;") (by decide +kernel)) (fun _ h9 => h9) rfl hin rfl (by decide +kernel) rfl rfl (Nat.le_of_ble_eq_true rfl) dX4_init_27 (fun H locs hP hD hS => ?_)
  have hP : va_P (dC, dI) vwCl [(g0, .inr (4, [.ref q_1, .ref q_8, .int 0])), (q_1, .inr (1, [.ref aW_4, .ref aT_5, .int 0])), (aW_4, .inl (cW_6, 2048, .inl (fun _ => 0))), (aT_5, .inl (cT_7, 400, .inl (fun _ => 0))), (q_8, .inr (3, [.ref aR_11, .ref aF_12])), (aR_11, .inr (2, [.ref q_1, .ref aA_13, .ref aB_14, .int 0])), (aA_13, .inl (cA_15, 8, .inl (fun _ => 0))), (aB_14, .inl (cB_16, 8, .inl (fun _ => 0))), (aF_12, .inr (0, [.int 0, .int 0, .int 0, .int 0]))] H := hP
  have hD : va_D A [(g0, .inr (4, [.ref q_1, .ref q_8, .int 0])), (q_1, .inr (1, [.ref aW_4, .ref aT_5, .int 0])), (aW_4, .inl (cW_6, 2048, .inl (fun _ => 0))), (aT_5, .inl (cT_7, 400, .inl (fun _ => 0))), (q_8, .inr (3, [.ref aR_11, .ref aF_12])), (aR_11, .inr (2, [.ref q_1, .ref aA_13, .ref aB_14, .int 0])), (aA_13, .inl (cA_15, 8, .inl (fun _ => 0))), (aB_14, .inl (cB_16, 8, .inl (fun _ => 0))), (aF_12, .inr (0, [.int 0, .int 0, .int 0, .int 0]))] := hD
  have hP9 := hP.sub (ws' := [(g0, .inr (4, [.ref q_1, .ref q_8, .int 0])), (q_1, .inr (1, [.ref aW_4, .ref aT_5, .int 0])), (aW_4, .inl (cW_6, 2048, .inl (fun _ => 0))), (aT_5, .inl (cT_7, 400, .inl (fun _ => 0))), (q_8, .inr (3, [.ref aR_11, .ref aF_12])), (aR_11, .inr (2, [.ref q_1, .ref aA_13, .ref aB_14, .int 0])), (aA_13, .inl (cA_15, 8, .inl (fun _ => 0))), (aB_14, .inl (cB_16, 8, .inl (fun _ => 0))), (aF_12, .inr (0, [.int 0, .int 0, .int 0, .int 0]))]) [0, 1, 2, 3, 4, 5, 6, 7, 8] rfl
  have hD9 := hD.sub (ws' := [(g0, .inr (4, [.ref q_1, .ref q_8, .int 0])), (q_1, .inr (1, [.ref aW_4, .ref aT_5, .int 0])), (aW_4, .inl (cW_6, 2048, .inl (fun _ => 0))), (aT_5, .inl (cT_7, 400, .inl (fun _ => 0))), (q_8, .inr (3, [.ref aR_11, .ref aF_12])), (aR_11, .inr (2, [.ref q_1, .ref aA_13, .ref aB_14, .int 0])), (aA_13, .inl (cA_15, 8, .inl (fun _ => 0))), (aB_14, .inl (cB_16, 8, .inl (fun _ => 0))), (aF_12, .inr (0, [.int 0, .int 0, .int 0, .int 0]))]) [0, 1, 2, 3, 4, 5, 6, 7, 8] (by decide) rfl
  have hK9 := hK.sub (tys' := [(cW_6, .int), (cT_7, .int), (cA_15, .int), (cB_16, .int)]) [0, 1, 2, 3] rfl
  exact W.vret hx hb hr (fun t ht hW => ⟨⟨(q_1, q_8, aW_4, aT_5, cW_6, cT_7, aR_11, aF_12, aA_13, aB_14, cA_15, cB_16), rfl, trivial, by rw [ht]; exact hP9, va_K.moved hW.alike hK9, hD9⟩, hS.F ht⟩) hS.2.2 dX4_init_30
set_option maxHeartbeats 4000000 in
set_option maxRecDepth 100000 in
theorem c_X4_run0 (l : Launch) (hl0 : l.stackTraces = false) (dC : Nat → ClassId) (dI : Nat → Nat → Nat) (sz : Nat) (g0 : Nat) (aM : Nat) (aP : Nat) (st : Int32) (aF : Nat) (aR : Nat) (aA : Nat) (aB : Nat) (cA : ClassId) (cB : ClassId) (aW : Nat) (aT : Nat) (cW : ClassId) (n : Int32)  : vx_Met l yX4_run wsX4_run ({ frames := 6, cells := 1, slots := 6, locals := 243 }) (va_Pc [.ref g0, .int n] (q_prx dC dI sz [(g0, .inr (4, [.ref aM, .ref aP, .int st])), (aP, .inr (3, [.ref aR, .ref aF])), (aR, .inr (2, [.ref aM, .ref aA, .ref aB, .int 0])), (aA, .inl (cA, 8, .inl (fun _ => 0))), (aB, .inl (cB, 8, .inl (fun _ => 0))), (aM, .inr (1, [.ref aW, .ref aT, .int 0])), (aW, .inl (cW, 2048, .inl (fun _ => 0))), (aF, .inr (0, [.int 0, .int 0, .int 0, .int 0]))] [(cA, .int), (cB, .int), (cW, .int)])) (va_Qi (fun (r : Int32) (u9 : Int32 × (Nat → Int32) × (Nat → Int32)) => (r = (if n ≤ 0 then 0 else 1)) ∧ (¬ (n < 0 ∨ 5000 < n))) (q_at dC dI (va_A [(g0, .inr (4, [.ref aM, .ref aP, .int st])), (aP, .inr (3, [.ref aR, .ref aF])), (aR, .inr (2, [.ref aM, .ref aA, .ref aB, .int 0])), (aA, .inl (cA, 8, .inl (fun _ => 0))), (aB, .inl (cB, 8, .inl (fun _ => 0))), (aM, .inr (1, [.ref aW, .ref aT, .int 0])), (aW, .inl (cW, 2048, .inl (fun _ => 0))), (aF, .inr (0, [.int 0, .int 0, .int 0, .int 0]))] sz) (fun (u9 : Int32 × (Nat → Int32) × (Nat → Int32)) => [(cA, .int), (cB, .int), (cW, .int)]) (fun (u9 : Int32 × (Nat → Int32) × (Nat → Int32)) => [(g0, .inr (4, [.ref aM, .ref aP, .int u9.1])), (aP, .inr (3, [.ref aR, .ref aF])), (aR, .inr (2, [.ref aM, .ref aA, .ref aB, .int 0])), (aA, .inl (cA, 8, .inl u9.2.1)), (aB, .inl (cB, 8, .inl u9.2.2)), (aM, .inr (1, [.ref aW, .ref aT, .int 0])), (aW, .inl (cW, 2048, .inl (fun _ => 0))), (aF, .inr (0, [.int 0, .int 0, .int 0, .int 0]))])) (va_A [(g0, .inr (4, [.ref aM, .ref aP, .int st])), (aP, .inr (3, [.ref aR, .ref aF])), (aR, .inr (2, [.ref aM, .ref aA, .ref aB, .int 0])), (aA, .inl (cA, 8, .inl (fun _ => 0))), (aB, .inl (cB, 8, .inl (fun _ => 0))), (aM, .inr (1, [.ref aW, .ref aT, .int 0])), (aW, .inl (cW, 2048, .inl (fun _ => 0))), (aF, .inr (0, [.int 0, .int 0, .int 0, .int 0]))] sz)) (vx_X (fun (_ : Unit) => n < 0 ∨ 5000 < n) (fun E9 _ _ => E9 = "java/lang/IllegalArgumentException") (fun q => sz ≤ q)) 1 6 (va_A [(g0, .inr (4, [.ref aM, .ref aP, .int st])), (aP, .inr (3, [.ref aR, .ref aF])), (aR, .inr (2, [.ref aM, .ref aA, .ref aB, .int 0])), (aA, .inl (cA, 8, .inl (fun _ => 0))), (aB, .inl (cB, 8, .inl (fun _ => 0))), (aM, .inr (1, [.ref aW, .ref aT, .int 0])), (aW, .inl (cW, 2048, .inl (fun _ => 0))), (aF, .inr (0, [.int 0, .int 0, .int 0, .int 0]))] sz) := by
  refine vx_ofW (cc := cX4_run) (maxL := 4) (ret := (some .int)) (by decide) rfl ?_
  intro p e s m args below meth c s₁ B hml htab hv
  obtain ⟨rfl, ⟨hsz, hP, hK, hD0, hN⟩, hT⟩ := hv
  have hx := B.exec
  have hb := B.bytes
  have hr := B.returns
  have hts := atoms_spec (ws := wsX4_run) B.pre
  have hown : s.vm.findClass RX4 = some m.cls := findClass_of_methodNamed B.named
  have hlocks := B.notSynchronized
  subst hsz
  have hD := hD0.self (sz := s.heap.size)
  generalize hAe : va_A [(g0, .inr (4, [.ref aM, .ref aP, .int st])), (aP, .inr (3, [.ref aR, .ref aF])), (aR, .inr (2, [.ref aM, .ref aA, .ref aB, .int 0])), (aA, .inl (cA, 8, .inl (fun _ => 0))), (aB, .inl (cB, 8, .inl (fun _ => 0))), (aM, .inr (1, [.ref aW, .ref aT, .int 0])), (aW, .inl (cW, 2048, .inl (fun _ => 0))), (aF, .inr (0, [.int 0, .int 0, .int 0, .int 0]))] s.heap.size = A at hD hT ⊢
  have hA : ∀ q : Nat, s.heap.size ≤ q → A q := fun q h => by rw [← hAe]; exact Or.inr h
  have hS : va_S A s.heap s.heap [] := va_S.rf
  have hP : va_P (dC, dI) vwCl [(g0, .inr (4, [.ref aM, .ref aP, .int st])), (aP, .inr (3, [.ref aR, .ref aF])), (aR, .inr (2, [.ref aM, .ref aA, .ref aB, .int 0])), (aA, .inl (cA, 8, .inl (fun _ => 0))), (aB, .inl (cB, 8, .inl (fun _ => 0))), (aM, .inr (1, [.ref aW, .ref aT, .int 0])), (aW, .inl (cW, 2048, .inl (fun _ => 0))), (aF, .inr (0, [.int 0, .int 0, .int 0, .int 0]))] s.heap := hP
  have hl := lv_entry ([.ref g0, .int n]) (n := 4) (Nat.le_of_ble_eq_true rfl)
  rw [lg_entry_eq]
  generalize (lg_sl ([.ref g0, .int n]) ++ List.replicate (4 - (lg_sl ([.ref g0, .int n])).length) Slot.unset).toArray = ls at hl ⊢
  have hl : lv_has ls 4 [(0, .ref g0), (1, .int n)] := hl
  refine lv_iload_n hx hb dX4_run_0 rfl (lv_at hl 1 rfl) ?_
  refine lv_if_lt (tgt := 11) hx hb dX4_run_1 (by decide) (fun c_1 => ?_) (fun c_1 => ?_)
  · refine vx_throw0 (names := ["java/lang/RuntimeException", "java/lang/Exception"]) (A := A) hx hb hl0 hown (by decide +kernel) (by decide +kernel) (hts (.classLink RX4 67 "java/lang/IllegalArgumentException") (by decide +kernel)) (hts (.initialized "java/lang/IllegalArgumentException") (by decide +kernel)) (vx_hat (B := q_nl) (fun w9 h9 => hts w9 (List.mem_cons_of_mem _ (List.mem_append_right _ h9))) (by decide +kernel) (fun w9 h9 => va_Nw.use (q_nl_on w9 h9) (hN w9 h9))) (by decide +kernel) hT.1 hT.2 hS (hl.1.trans hml.symm) dX4_run_11 dX4_run_14 dX4_run_15 dX4_run_18 (fun x9 h9 => (htab x9 h9).elim) (by decide) (by decide) (by decide) (by decide) hlocks (fun t9 hal hz9 hk9 => ⟨(), (Or.inl c_1), rfl, ⟨hz9, fun q h1 _ => hk9 q h1⟩⟩) hS.2.2 (by decide) (by decide)
  · refine lv_iload_n hx hb dX4_run_4 rfl (lv_at hl 1 rfl) ?_
    refine lv_sipush (v := 5000) hx hb dX4_run_5 (by decide) ?_
    refine lv_icmp_le (tgt := 19) hx hb dX4_run_8 (by decide) (fun c_2 => ?_) (fun c_2 => ?_)
    · refine lv_aload_n hx hb dX4_run_19 rfl (lv_at hl 0 rfl) ?_
      refine lv_iconst (v := 0) hx hb dX4_run_20 (by decide) ?_
      refine va_put (D := (dC, dI)) (ci := 4) (v := .int 0) (ty := .int) (C := RX4) (T := TX4) (N := 3) hx hb hts (by decide +kernel) tyX4 tyX4_ok nmX4 hown hK hP hD hS 0 rfl rfl 2 (by decide) (hts (.fieldLink RX4 70 "WordGuest" "latestSteps" "I") (by decide +kernel)) (fun _ h9 => h9) rfl (by decide +kernel) rfl rfl (Nat.le_of_ble_eq_true rfl) dX4_run_21 (fun H locs hP hD hS => ?_)
      have hP : va_P (dC, dI) vwCl [(g0, .inr (4, [.ref aM, .ref aP, .int 0])), (aP, .inr (3, [.ref aR, .ref aF])), (aR, .inr (2, [.ref aM, .ref aA, .ref aB, .int 0])), (aA, .inl (cA, 8, .inl (fun _ => 0))), (aB, .inl (cB, 8, .inl (fun _ => 0))), (aM, .inr (1, [.ref aW, .ref aT, .int 0])), (aW, .inl (cW, 2048, .inl (fun _ => 0))), (aF, .inr (0, [.int 0, .int 0, .int 0, .int 0]))] H := hP
      have hD : va_D A [(g0, .inr (4, [.ref aM, .ref aP, .int 0])), (aP, .inr (3, [.ref aR, .ref aF])), (aR, .inr (2, [.ref aM, .ref aA, .ref aB, .int 0])), (aA, .inl (cA, 8, .inl (fun _ => 0))), (aB, .inl (cB, 8, .inl (fun _ => 0))), (aM, .inr (1, [.ref aW, .ref aT, .int 0])), (aW, .inl (cW, 2048, .inl (fun _ => 0))), (aF, .inr (0, [.int 0, .int 0, .int 0, .int 0]))] := hD
      refine lv_iconst (v := 0) hx hb dX4_run_24 (by decide) ?_
      refine lv_istore_n (lv' := [(2, .int 0), (0, .ref g0), (1, .int n)]) hx hb dX4_run_25 rfl hl (by decide) rfl (fun ls hl => ?_)
      refine lv_iload_n hx hb dX4_run_26 rfl (lv_at hl 0 rfl) ?_
      refine lv_iload_n hx hb dX4_run_27 rfl (lv_at hl 2 rfl) ?_
      refine lv_icmp_ge (tgt := 70) hx hb dX4_run_28 (by decide) (fun c_3 => ?_) (fun c_3 => ?_)
      · refine lv_iconst (v := 0) hx hb dX4_run_70 (by decide) ?_
        have hP9 := hP.sub (ws' := [(g0, .inr (4, [.ref aM, .ref aP, .int 0])), (aP, .inr (3, [.ref aR, .ref aF])), (aR, .inr (2, [.ref aM, .ref aA, .ref aB, .int 0])), (aA, .inl (cA, 8, .inl (fun _ => 0))), (aB, .inl (cB, 8, .inl (fun _ => 0))), (aM, .inr (1, [.ref aW, .ref aT, .int 0])), (aW, .inl (cW, 2048, .inl (fun _ => 0))), (aF, .inr (0, [.int 0, .int 0, .int 0, .int 0]))]) [0, 1, 2, 3, 4, 5, 6, 7] rfl
        have hD9 := hD.sub (ws' := [(g0, .inr (4, [.ref aM, .ref aP, .int 0])), (aP, .inr (3, [.ref aR, .ref aF])), (aR, .inr (2, [.ref aM, .ref aA, .ref aB, .int 0])), (aA, .inl (cA, 8, .inl (fun _ => 0))), (aB, .inl (cB, 8, .inl (fun _ => 0))), (aM, .inr (1, [.ref aW, .ref aT, .int 0])), (aW, .inl (cW, 2048, .inl (fun _ => 0))), (aF, .inr (0, [.int 0, .int 0, .int 0, .int 0]))]) [0, 1, 2, 3, 4, 5, 6, 7] (by decide) rfl
        have hK9 := hK.sub (tys' := [(cA, .int), (cB, .int), (cW, .int)]) [0, 1, 2] rfl
        refine vx_ret ?_
        refine W.widen (k := 1) (n := 6) (by omega) (by omega) ?_
        exact W.iret (v := 0) hx hb hr (fun t ht hW => ⟨⟨0, (0, (fun _ => 0), (fun _ => 0)), rfl, ⟨by rw [if_pos c_3], fun h => h.elim c_1 (fun h => absurd c_2 (Int32.not_le.mpr h))⟩, by rw [ht]; exact hP9, va_K.moved hW.alike hK9, hD9⟩, hS.F ht⟩) hS.2.2 dX4_run_71
      · refine lv_aload_n hx hb dX4_run_31 rfl (lv_at hl 1 rfl) ?_
        refine va_get (D := (dC, dI)) (ci := 4) (v := .ref aP) (C := RX4) (T := TX4) (N := 3) hx hb hts (by decide +kernel) hown hK hP 0 rfl rfl 1 (by decide) (hts (.fieldLink RX4 21 "WordGuest" "processor" "LWordGuest$Processor;") (by decide +kernel)) (fun _ h9 => h9) rfl dX4_run_32 ?_
        have hPc := hP.sub (ws' := [(aP, .inr (3, [.ref aR, .ref aF])), (aR, .inr (2, [.ref aM, .ref aA, .ref aB, .int 0])), (aA, .inl (cA, 8, .inl (fun _ => 0))), (aB, .inl (cB, 8, .inl (fun _ => 0))), (aM, .inr (1, [.ref aW, .ref aT, .int 0])), (aW, .inl (cW, 2048, .inl (fun _ => 0))), (aF, .inr (0, [.int 0, .int 0, .int 0, .int 0]))]) [1, 2, 3, 4, 5, 6, 7] rfl
        have hDc := hD.sub (ws' := [(aP, .inr (3, [.ref aR, .ref aF])), (aR, .inr (2, [.ref aM, .ref aA, .ref aB, .int 0])), (aA, .inl (cA, 8, .inl (fun _ => 0))), (aB, .inl (cB, 8, .inl (fun _ => 0))), (aM, .inr (1, [.ref aW, .ref aT, .int 0])), (aW, .inl (cW, 2048, .inl (fun _ => 0))), (aF, .inr (0, [.int 0, .int 0, .int 0, .int 0]))]) [1, 2, 3, 4, 5, 6, 7] (by decide) rfl
        have hKc := hK.sub (tys' := [(cA, .int), (cB, .int), (cW, .int)]) [0, 1, 2] rfl
        have hFc := va_free (wc := [(aP, .inr (3, [.ref aR, .ref aF])), (aR, .inr (2, [.ref aM, .ref aA, .ref aB, .int 0])), (aA, .inl (cA, 8, .inl (fun _ => 0))), (aB, .inl (cB, 8, .inl (fun _ => 0))), (aM, .inr (1, [.ref aW, .ref aT, .int 0])), (aW, .inl (cW, 2048, .inl (fun _ => 0))), (aF, .inr (0, [.int 0, .int 0, .int 0, .int 0]))]) hD hS hA [1, 2, 3, 4, 5, 6, 7] rfl
        refine va_calli (va_runV (C := RX3) (b := aP) (As := []) (rest := []) ⟨hx, hb, hml, hown, hts⟩ (c_X3_step0 l dC dI H.size aP aF aR aM aA aB cA cB aW aT cW) (cwV 0 hts gX4_run_X3_step rfl rfl rfl (by decide +kernel) ⟨Nat.le_of_ble_eq_true rfl, Nat.le_of_ble_eq_true rfl⟩) ⟨q_blind, va_recv hK hP (ci := 3) (q0 := 1) rfl rfl, fun U hU hW => ⟨rfl, q_pay hU hW hPc hKc hDc hN⟩⟩ rfl rfl hl.1 rfl (lv_room (Nat.le_of_ble_eq_true rfl)) dX4_run_35 ⟨show 0 + 0 ≤ 1 from by omega, show 0 + 0 ≤ 6 from by omega⟩) hS (fun q _ h => hFc q h) hFc (fun r_4 u9 t H locs ht hvm hw_5 hB hz1 hk1 hS => ?_)
        obtain ⟨regs2_6, regsB2_7⟩ := u9
        obtain ⟨hP1, hK1, hD1⟩ := hB
        rw [ht] at hP1
        obtain ⟨hP, hD⟩ := va_join (wr := [(g0, .inr (4, [.ref aM, .ref aP, .int 0]))]) (w1 := [(aP, .inr (3, [.ref aR, .ref aF])), (aR, .inr (2, [.ref aM, .ref aA, .ref aB, .int 0])), (aA, .inl (cA, 8, .inl regs2_6)), (aB, .inl (cB, 8, .inl regsB2_7)), (aM, .inr (1, [.ref aW, .ref aT, .int 0])), (aW, .inl (cW, 2048, .inl (fun _ => 0))), (aF, .inr (0, [.int 0, .int 0, .int 0, .int 0]))]) hP hD [1, 2, 3, 4, 5, 6, 7] [0] rfl rfl (by decide) (by decide) hk1 hFc hP1 hD1
        have hP : va_P (dC, dI) vwCl [(g0, .inr (4, [.ref aM, .ref aP, .int 0])), (aP, .inr (3, [.ref aR, .ref aF])), (aR, .inr (2, [.ref aM, .ref aA, .ref aB, .int 0])), (aA, .inl (cA, 8, .inl regs2_6)), (aB, .inl (cB, 8, .inl regsB2_7)), (aM, .inr (1, [.ref aW, .ref aT, .int 0])), (aW, .inl (cW, 2048, .inl (fun _ => 0))), (aF, .inr (0, [.int 0, .int 0, .int 0, .int 0]))] H := hP
        have hD : va_D A [(g0, .inr (4, [.ref aM, .ref aP, .int 0])), (aP, .inr (3, [.ref aR, .ref aF])), (aR, .inr (2, [.ref aM, .ref aA, .ref aB, .int 0])), (aA, .inl (cA, 8, .inl regs2_6)), (aB, .inl (cB, 8, .inl regsB2_7)), (aM, .inr (1, [.ref aW, .ref aT, .int 0])), (aW, .inl (cW, 2048, .inl (fun _ => 0))), (aF, .inr (0, [.int 0, .int 0, .int 0, .int 0]))] := hD
        refine W.widen (k := 0) (n := 0) (by omega) (by omega) ?_
        try dsimp only at hw_5
        obtain rfl := hw_5
        refine q_toc (y := 1) (by first | rfl | decide) ?_
        refine lv_istore_n (lv' := [(3, .int 1), (2, .int 0), (0, .ref g0), (1, .int n)]) hx hb dX4_run_38 rfl hl (by decide) rfl (fun ls hl => ?_)
        refine lv_iload_n hx hb dX4_run_39 rfl (lv_at hl 0 rfl) ?_
        refine lv_if_eq (tgt := 48) hx hb dX4_run_40 (by decide) (fun c9 => absurd c9 (by decide)) (fun c_8 => ?_)
        refine lv_iload_n hx hb dX4_run_43 rfl (lv_at hl 0 rfl) ?_
        refine lv_iconst (v := 1) hx hb dX4_run_44 (by decide) ?_
        refine lv_icmp_ne (tgt := 58) hx hb dX4_run_45 (by decide) (fun c9 => absurd (by decide) c9) (fun c_9 => ?_)
        refine lv_aload_n hx hb dX4_run_48 rfl (lv_at hl 2 rfl) ?_
        refine lv_dup hx hb dX4_run_49 rfl ?_
        refine va_get (D := (dC, dI)) (ci := 4) (v := .int 0) (C := RX4) (T := TX4) (N := 3) hx hb hts (by decide +kernel) hown hK hP 0 rfl rfl 2 (by decide) (hts (.fieldLink RX4 70 "WordGuest" "latestSteps" "I") (by decide +kernel)) (fun _ h9 => h9) rfl dX4_run_50 ?_
        refine lv_iconst (v := 1) hx hb dX4_run_53 (by decide) ?_
        refine lv_iadd hx hb dX4_run_54 ?_
        refine q_toc (y := 1) (by decide) ?_
        refine va_put (D := (dC, dI)) (ci := 4) (v := .int 1) (ty := .int) (C := RX4) (T := TX4) (N := 3) hx hb hts (by decide +kernel) tyX4 tyX4_ok nmX4 hown hK hP hD hS 0 rfl rfl 2 (by decide) (hts (.fieldLink RX4 70 "WordGuest" "latestSteps" "I") (by decide +kernel)) (fun _ h9 => h9) rfl (by decide +kernel) rfl rfl (Nat.le_of_ble_eq_true rfl) dX4_run_55 (fun H locs hP hD hS => ?_)
        have hP : va_P (dC, dI) vwCl [(g0, .inr (4, [.ref aM, .ref aP, .int 1])), (aP, .inr (3, [.ref aR, .ref aF])), (aR, .inr (2, [.ref aM, .ref aA, .ref aB, .int 0])), (aA, .inl (cA, 8, .inl regs2_6)), (aB, .inl (cB, 8, .inl regsB2_7)), (aM, .inr (1, [.ref aW, .ref aT, .int 0])), (aW, .inl (cW, 2048, .inl (fun _ => 0))), (aF, .inr (0, [.int 0, .int 0, .int 0, .int 0]))] H := hP
        have hD : va_D A [(g0, .inr (4, [.ref aM, .ref aP, .int 1])), (aP, .inr (3, [.ref aR, .ref aF])), (aR, .inr (2, [.ref aM, .ref aA, .ref aB, .int 0])), (aA, .inl (cA, 8, .inl regs2_6)), (aB, .inl (cB, 8, .inl regsB2_7)), (aM, .inr (1, [.ref aW, .ref aT, .int 0])), (aW, .inl (cW, 2048, .inl (fun _ => 0))), (aF, .inr (0, [.int 0, .int 0, .int 0, .int 0]))] := hD
        refine lv_iload_n hx hb dX4_run_58 rfl (lv_at hl 0 rfl) ?_
        refine lv_if_eq (tgt := 64) hx hb dX4_run_59 (by decide) (fun c9 => absurd c9 (by decide)) (fun c_10 => ?_)
        refine lv_iload_n hx hb dX4_run_62 rfl (lv_at hl 0 rfl) ?_
        have hP9 := hP.sub (ws' := [(g0, .inr (4, [.ref aM, .ref aP, .int 1])), (aP, .inr (3, [.ref aR, .ref aF])), (aR, .inr (2, [.ref aM, .ref aA, .ref aB, .int 0])), (aA, .inl (cA, 8, .inl regs2_6)), (aB, .inl (cB, 8, .inl regsB2_7)), (aM, .inr (1, [.ref aW, .ref aT, .int 0])), (aW, .inl (cW, 2048, .inl (fun _ => 0))), (aF, .inr (0, [.int 0, .int 0, .int 0, .int 0]))]) [0, 1, 2, 3, 4, 5, 6, 7] rfl
        have hD9 := hD.sub (ws' := [(g0, .inr (4, [.ref aM, .ref aP, .int 1])), (aP, .inr (3, [.ref aR, .ref aF])), (aR, .inr (2, [.ref aM, .ref aA, .ref aB, .int 0])), (aA, .inl (cA, 8, .inl regs2_6)), (aB, .inl (cB, 8, .inl regsB2_7)), (aM, .inr (1, [.ref aW, .ref aT, .int 0])), (aW, .inl (cW, 2048, .inl (fun _ => 0))), (aF, .inr (0, [.int 0, .int 0, .int 0, .int 0]))]) [0, 1, 2, 3, 4, 5, 6, 7] (by decide) rfl
        have hK9 := hK.sub (tys' := [(cA, .int), (cB, .int), (cW, .int)]) [0, 1, 2] rfl
        refine vx_ret ?_
        refine W.widen (k := 1) (n := 6) (by omega) (by omega) ?_
        exact W.iret (v := 1) hx hb hr (fun t ht hW => ⟨⟨1, (1, regs2_6, regsB2_7), rfl, ⟨by rw [if_neg c_3], fun h => h.elim c_1 (fun h => absurd c_2 (Int32.not_le.mpr h))⟩, by rw [ht]; exact hP9, va_K.moved hW.alike hK9, hD9⟩, hS.F ht⟩) hS.2.2 dX4_run_63
    · refine vx_throw0 (names := ["java/lang/RuntimeException", "java/lang/Exception"]) (A := A) hx hb hl0 hown (by decide +kernel) (by decide +kernel) (hts (.classLink RX4 67 "java/lang/IllegalArgumentException") (by decide +kernel)) (hts (.initialized "java/lang/IllegalArgumentException") (by decide +kernel)) (vx_hat (B := q_nl) (fun w9 h9 => hts w9 (List.mem_cons_of_mem _ (List.mem_append_right _ h9))) (by decide +kernel) (fun w9 h9 => va_Nw.use (q_nl_on w9 h9) (hN w9 h9))) (by decide +kernel) hT.1 hT.2 hS (hl.1.trans hml.symm) dX4_run_11 dX4_run_14 dX4_run_15 dX4_run_18 (fun x9 h9 => (htab x9 h9).elim) (by decide) (by decide) (by decide) (by decide) hlocks (fun t9 hal hz9 hk9 => ⟨(), (Or.inr (Int32.not_le.mp c_2)), rfl, ⟨hz9, fun q h1 _ => hk9 q h1⟩⟩) hS.2.2 (by decide) (by decide)
set_option maxHeartbeats 4000000 in
set_option maxRecDepth 100000 in
theorem c_X4_output0 (l : Launch) (hl0 : l.stackTraces = false) (dC : Nat → ClassId) (dI : Nat → Nat → Nat) (sz : Nat) (g0 : Nat) (aM : Nat) (aP : Nat) (st : Int32) (aW : Nat) (aT : Nat) (k : Int32)  : vx_Met l yX4_output wsX4_output ({ frames := 6, cells := 1, slots := 6, locals := 89 }) (va_Pc [.ref g0, .int k] (q_prx dC dI sz [(g0, .inr (4, [.ref aM, .ref aP, .int st])), (aM, .inr (1, [.ref aW, .ref aT, .int 0]))] [])) (va_Qi (fun (r : Int32) (u9 : Unit) => False) (q_at dC dI (va_A [(g0, .inr (4, [.ref aM, .ref aP, .int st])), (aM, .inr (1, [.ref aW, .ref aT, .int 0]))] sz) (fun (u9 : Unit) => []) (fun (u9 : Unit) => [(g0, .inr (4, [.ref aM, .ref aP, .int st])), (aM, .inr (1, [.ref aW, .ref aT, .int 0]))])) (va_A [(g0, .inr (4, [.ref aM, .ref aP, .int st])), (aM, .inr (1, [.ref aW, .ref aT, .int 0]))] sz)) (vx_X (fun (_ : Unit) => True) (fun E9 _ _ => E9 = "java/lang/IndexOutOfBoundsException") (fun q => sz ≤ q)) 1 6 (va_A [(g0, .inr (4, [.ref aM, .ref aP, .int st])), (aM, .inr (1, [.ref aW, .ref aT, .int 0]))] sz) := by
  refine vx_ofW (cc := cX4_output) (maxL := 2) (ret := (some .int)) (by decide) rfl ?_
  intro p e s m args below meth c s₁ B hml htab hv
  obtain ⟨rfl, ⟨hsz, hP, hK, hD0, hN⟩, hT⟩ := hv
  have hx := B.exec
  have hb := B.bytes
  have hr := B.returns
  have hts := atoms_spec (ws := wsX4_output) B.pre
  have hown : s.vm.findClass RX4 = some m.cls := findClass_of_methodNamed B.named
  have hlocks := B.notSynchronized
  subst hsz
  have hD := hD0.self (sz := s.heap.size)
  generalize hAe : va_A [(g0, .inr (4, [.ref aM, .ref aP, .int st])), (aM, .inr (1, [.ref aW, .ref aT, .int 0]))] s.heap.size = A at hD hT ⊢
  have hA : ∀ q : Nat, s.heap.size ≤ q → A q := fun q h => by rw [← hAe]; exact Or.inr h
  have hS : va_S A s.heap s.heap [] := va_S.rf
  have hP : va_P (dC, dI) vwCl [(g0, .inr (4, [.ref aM, .ref aP, .int st])), (aM, .inr (1, [.ref aW, .ref aT, .int 0]))] s.heap := hP
  have hl := lv_entry ([.ref g0, .int k]) (n := 2) (Nat.le_of_ble_eq_true rfl)
  rw [lg_entry_eq]
  generalize (lg_sl ([.ref g0, .int k]) ++ List.replicate (2 - (lg_sl ([.ref g0, .int k])).length) Slot.unset).toArray = ls at hl ⊢
  have hl : lv_has ls 2 [(0, .ref g0), (1, .int k)] := hl
  refine lv_iload_n hx hb dX4_output_0 rfl (lv_at hl 1 rfl) ?_
  refine lv_if_lt (tgt := 15) hx hb dX4_output_1 (by decide) (fun c_1 => ?_) (fun c_1 => ?_)
  · refine vx_throw0 (names := ["java/lang/RuntimeException", "java/lang/Exception"]) (A := A) hx hb hl0 hown (by decide +kernel) (by decide +kernel) (hts (.classLink RX4 80 "java/lang/IndexOutOfBoundsException") (by decide +kernel)) (hts (.initialized "java/lang/IndexOutOfBoundsException") (by decide +kernel)) (vx_hat (B := q_nl) (fun w9 h9 => hts w9 (List.mem_cons_of_mem _ (List.mem_append_right _ h9))) (by decide +kernel) (fun w9 h9 => va_Nw.use (q_nl_on w9 h9) (hN w9 h9))) (by decide +kernel) hT.1 hT.2 hS (hl.1.trans hml.symm) dX4_output_15 dX4_output_18 dX4_output_19 dX4_output_22 (fun x9 h9 => (htab x9 h9).elim) (by decide) (by decide) (by decide) (by decide) hlocks (fun t9 hal hz9 hk9 => ⟨(), trivial, rfl, ⟨hz9, fun q h1 _ => hk9 q h1⟩⟩) hS.2.2 (by decide) (by decide)
  · refine lv_iload_n hx hb dX4_output_4 rfl (lv_at hl 1 rfl) ?_
    refine lv_aload_n hx hb dX4_output_5 rfl (lv_at hl 0 rfl) ?_
    refine va_get (D := (dC, dI)) (ci := 4) (v := .ref aM) (C := RX4) (T := TX4) (N := 3) hx hb hts (by decide +kernel) hown hK hP 0 rfl rfl 0 (by decide) (hts (.fieldLink RX4 12 "WordGuest" "memory" "LWordGuest$Memory;") (by decide +kernel)) (fun _ h9 => h9) rfl dX4_output_6 ?_
    refine va_getN (D := (dC, dI)) (ci := 1) (v := .int 0) (C := RX1) (T := TX1) (N := 3) hx hb hts (by decide +kernel) hown hK hP 1 rfl rfl 2 (by decide) ((va_Nw.use rfl (hN _ (List.mem_of_getElem? (i := 2) rfl)))) (fun _ h9 => h9) rfl dX4_output_9 ?_
    refine lv_icmp_lt (tgt := 23) hx hb dX4_output_12 (by decide) (fun c9 => absurd c9 c_1) (fun c_2 => ?_)
    refine vx_throw0 (names := ["java/lang/RuntimeException", "java/lang/Exception"]) (A := A) hx hb hl0 hown (by decide +kernel) (by decide +kernel) (hts (.classLink RX4 80 "java/lang/IndexOutOfBoundsException") (by decide +kernel)) (hts (.initialized "java/lang/IndexOutOfBoundsException") (by decide +kernel)) (vx_hat (B := q_nl) (fun w9 h9 => hts w9 (List.mem_cons_of_mem _ (List.mem_append_right _ h9))) (by decide +kernel) (fun w9 h9 => va_Nw.use (q_nl_on w9 h9) (hN w9 h9))) (by decide +kernel) hT.1 hT.2 hS (hl.1.trans hml.symm) dX4_output_15 dX4_output_18 dX4_output_19 dX4_output_22 (fun x9 h9 => (htab x9 h9).elim) (by decide) (by decide) (by decide) (by decide) hlocks (fun t9 hal hz9 hk9 => ⟨(), trivial, rfl, ⟨hz9, fun q h1 _ => hk9 q h1⟩⟩) hS.2.2 (by decide) (by decide)
