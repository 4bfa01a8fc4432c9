set_option maxHeartbeats 4000000 in
set_option maxRecDepth 100000 in
theorem c_X4_load0 (l : Launch) (hl0 : l.stackTraces = false) (dC : Nat → ClassId) (dI : Nat → Nat → Nat) (sz : Nat) (h0 : Nat) (hM : Nat) (hP : Nat) (st : Int32) (hW : Nat) (hT : Nat) (cnt : Int32) (cW : ClassId) (words : Nat → Int32) (pl : Int32) (a0 : Int32) (a1 : Int32) (a2 : Int32) (a3 : Int32) (a4 : Int32)  : vx_Met l yX4_load wsX4_load ({ frames := 7, cells := 1, slots := 6, locals := 110 }) (va_Pc [.ref h0, .int pl, .int a0, .int a1, .int a2, .int a3, .int a4] (q_prx dC dI sz [(h0, .inr (4, [.ref hM, .ref hP, .int st])), (hM, .inr (1, [.ref hW, .ref hT, .int cnt])), (hW, .inl (cW, 2048, .inl words))] [(cW, .int)])) (va_Qi (fun (r : Int32) (u9 : (Nat → Int32)) => r = ct pl + ct (pl + 2) + (ct (pl + 4) + ct (pl + 4 + 2)) + (ct (pl + 8) + ct (pl + 8 + 2)) + (ct (pl + 12) + ct (pl + 12 + 2)) + (ct (pl + 16) + ct (pl + 16 + 2)) ∧ fa pl 65535 = 0) (q_at dC dI (va_A [(h0, .inr (4, [.ref hM, .ref hP, .int st])), (hM, .inr (1, [.ref hW, .ref hT, .int cnt])), (hW, .inl (cW, 2048, .inl words))] sz) (fun (u9 : (Nat → Int32)) => [(cW, .int)]) (fun (u9 : (Nat → Int32)) => [(h0, .inr (4, [.ref hM, .ref hP, .int st])), (hM, .inr (1, [.ref hW, .ref hT, .int cnt])), (hW, .inl (cW, 2048, .inl u9))])) (va_A [(h0, .inr (4, [.ref hM, .ref hP, .int st])), (hM, .inr (1, [.ref hW, .ref hT, .int cnt])), (hW, .inl (cW, 2048, .inl words))] sz)) (vx_X (fun (_ : Unit) => ¬ fa pl 65535 = 0) (fun E9 _ _ => E9 = "java/lang/IndexOutOfBoundsException") (fun q => sz ≤ q)) 1 6 (va_A [(h0, .inr (4, [.ref hM, .ref hP, .int st])), (hM, .inr (1, [.ref hW, .ref hT, .int cnt])), (hW, .inl (cW, 2048, .inl words))] sz) := by
  refine vx_ofW (cc := cX4_load) (maxL := 7) (ret := (some .int)) (by decide) rfl ?_
  intro p e s m args below meth c s₁ B hml htab hv
  obtain ⟨rfl, ⟨hsz, hP, hK, hD0, hN⟩, hT⟩ := hv
  have hx := B.exec
  have hb := B.bytes
  have hr := B.returns
  have hts := atoms_spec (ws := wsX4_load) B.pre
  have hown : s.vm.findClass RX4 = some m.cls := findClass_of_methodNamed B.named
  have hlocks := B.notSynchronized
  subst hsz
  have hD := hD0.self (sz := s.heap.size)
  generalize hAe : va_A [(h0, .inr (4, [.ref hM, .ref hP, .int st])), (hM, .inr (1, [.ref hW, .ref hT, .int cnt])), (hW, .inl (cW, 2048, .inl words))] s.heap.size = A at hD hT ⊢
  have hA : ∀ q : Nat, s.heap.size ≤ q → A q := fun q h => by rw [← hAe]; exact Or.inr h
  have hS : va_S A s.heap s.heap [] := va_S.rf
  have hP : va_P (dC, dI) vwCl [(h0, .inr (4, [.ref hM, .ref hP, .int st])), (hM, .inr (1, [.ref hW, .ref hT, .int cnt])), (hW, .inl (cW, 2048, .inl words))] s.heap := hP
  have hl := lv_entry ([.ref h0, .int pl, .int a0, .int a1, .int a2, .int a3, .int a4]) (n := 7) (Nat.le_of_ble_eq_true rfl)
  rw [lg_entry_eq]
  generalize (lg_sl ([.ref h0, .int pl, .int a0, .int a1, .int a2, .int a3, .int a4]) ++ List.replicate (7 - (lg_sl ([.ref h0, .int pl, .int a0, .int a1, .int a2, .int a3, .int a4])).length) Slot.unset).toArray = ls at hl ⊢
  have hl : lv_has ls 7 [(0, .ref h0), (1, .int pl), (2, .int a0), (3, .int a1), (4, .int a2), (5, .int a3), (6, .int a4)] := hl
  refine lv_aload_n hx hb dX4_load_0 rfl (lv_at hl 0 rfl) ?_
  refine lv_iload_n hx hb dX4_load_1 rfl (lv_at hl 1 rfl) ?_
  have hPc := hP.sub (ws' := [(h0, .inr (4, [.ref hM, .ref hP, .int st])), (hM, .inr (1, [.ref hW, .ref hT, .int cnt]))]) [0, 1] rfl
  have hDc := hD.sub (ws' := [(h0, .inr (4, [.ref hM, .ref hP, .int st])), (hM, .inr (1, [.ref hW, .ref hT, .int cnt]))]) [0, 1] (by decide) rfl
  have hKc := hK.sub (tys' := []) [] rfl
  have hFc := va_free (wc := [(h0, .inr (4, [.ref hM, .ref hP, .int st])), (hM, .inr (1, [.ref hW, .ref hT, .int cnt]))]) hD hS hA [0, 1] rfl
  refine vx_callv (vx_runV (C := RX4) (b := h0) (As := [.int pl]) (rest := []) ⟨hx, hb, hml, hown, hts⟩ (c_X4_needWordAt l hl0 dC dI s.heap.size h0 hM hP st hW hT cnt pl) (cwV 1 hts gX4_load_X4_needWordAt rfl rfl rfl (by decide +kernel) ⟨Nat.le_of_ble_eq_true rfl, Nat.le_of_ble_eq_true rfl⟩) ⟨q_blindx, va_recv hK hP (ci := 4) (q0 := 0) rfl rfl, fun U hU hW => ⟨rfl, q_payx hU hW hPc hKc hDc hN hT hS hFc⟩⟩ rfl rfl hl.1 rfl (lv_room (Nat.le_of_ble_eq_true rfl)) dX4_load_2 ⟨Nat.le_of_ble_eq_true rfl, Nat.le_of_ble_eq_true rfl⟩) hS (fun q _ h => hFc q h) hFc (fun q h1 h2 => absurd h1 (Nat.not_lt.mpr h2)) (fun E9 ce9 q9 u9 t H9 locs ht hvm hw hB hz1 hk1 hS hq9 hv9 hc9 => ?_) (fun u9 t H locs ht hvm hw_2 hB hz1 hk1 hS => ?_)
  · obtain rfl := hB
    try dsimp only at hw
    exact vx_out (fun x9 h9 => (htab x9 h9).elim) hlocks hq9 hv9 hc9 (fun t9 ht9 hal => ⟨(), hw, rfl, by rw [ht9]; exact hz1, fun q h1 h2 => by rw [ht9]; exact hk1 q h1 h2⟩) hS.2.2 (by decide) (by decide)
  obtain ⟨hP1, hK1, hD1⟩ := hB
  rw [ht] at hP1
  obtain ⟨hP, hD⟩ := va_join (wr := [(hW, .inl (cW, 2048, .inl words))]) (w1 := [(h0, .inr (4, [.ref hM, .ref hP, .int st])), (hM, .inr (1, [.ref hW, .ref hT, .int cnt]))]) hP hD [0, 1] [2] rfl rfl (by decide) (by decide) hk1 hFc hP1 hD1
  have hP : va_P (dC, dI) vwCl [(hW, .inl (cW, 2048, .inl words)), (h0, .inr (4, [.ref hM, .ref hP, .int st])), (hM, .inr (1, [.ref hW, .ref hT, .int cnt]))] H := hP
  have hD : va_D A [(hW, .inl (cW, 2048, .inl words)), (h0, .inr (4, [.ref hM, .ref hP, .int st])), (hM, .inr (1, [.ref hW, .ref hT, .int cnt]))] := hD
  refine W.widen (k := 1) (n := 6) (by decide) (by decide) ?_
  try dsimp only at hw_2
  refine lv_aload_n hx hb dX4_load_5 rfl (lv_at hl 0 rfl) ?_
  refine va_get (D := (dC, dI)) (ci := 4) (v := .ref hM) (C := RX4) (T := TX4) (N := 3) hx hb hts (by decide +kernel) hown hK hP 1 rfl rfl 0 (by decide) (hts (.fieldLink RX4 12 "WordGuest" "memory" "LWordGuest$Memory;") (by decide +kernel)) (fun _ h9 => h9) rfl dX4_load_6 ?_
  refine lv_iload_n hx hb dX4_load_9 rfl (lv_at hl 1 rfl) ?_
  refine lv_iload_n hx hb dX4_load_10 rfl (lv_at hl 2 rfl) ?_
  have hPc := hP.sub (ws' := [(hM, .inr (1, [.ref hW, .ref hT, .int cnt])), (hW, .inl (cW, 2048, .inl words))]) [2, 0] rfl
  have hDc := hD.sub (ws' := [(hM, .inr (1, [.ref hW, .ref hT, .int cnt])), (hW, .inl (cW, 2048, .inl words))]) [2, 0] (by decide) rfl
  have hKc := hK.sub (tys' := [(cW, .int)]) [0] rfl
  have hFc := va_free (wc := [(hM, .inr (1, [.ref hW, .ref hT, .int cnt])), (hW, .inl (cW, 2048, .inl words))]) hD hS hA [2, 0] rfl
  refine va_calli (va_runV (C := RX1) (b := hM) (As := [.int pl, .int a0]) (rest := []) ⟨hx, hb, hml, hown, hts⟩ (c_X1_setPair l dC dI H.size hM hW hT cnt cW words pl a0) (cwV 2 hts gX4_load_X1_setPair rfl rfl rfl (by decide +kernel) ⟨Nat.le_of_ble_eq_true rfl, Nat.le_of_ble_eq_true rfl⟩) ⟨q_blind, va_recv hK hP (ci := 1) (q0 := 2) rfl rfl, fun U hU hW => ⟨rfl, q_pay hU hW hPc hKc hDc hN⟩⟩ rfl rfl hl.1 rfl (lv_room (Nat.le_of_ble_eq_true rfl)) dX4_load_11 ⟨Nat.le_of_ble_eq_true rfl, Nat.le_of_ble_eq_true rfl⟩) hS (fun q _ h => hFc q h) hFc (fun r_3 u9 t H locs ht hvm hw_4 hB hz1 hk1 hS => ?_)
  obtain ⟨words2_5, rfl⟩ : ∃ z, z = u9 := ⟨_, rfl⟩ := u9
  obtain ⟨hP1, hK1, hD1⟩ := hB
  rw [ht] at hP1
  obtain ⟨hP, hD⟩ := va_join (wr := [(h0, .inr (4, [.ref hM, .ref hP, .int st]))]) (w1 := [(hM, .inr (1, [.ref hW, .ref hT, .int cnt])), (hW, .inl (cW, 2048, .inl words2_5))]) hP hD [2, 0] [1] rfl rfl (by decide) (by decide) hk1 hFc hP1 hD1
  have hP : va_P (dC, dI) vwCl [(h0, .inr (4, [.ref hM, .ref hP, .int st])), (hM, .inr (1, [.ref hW, .ref hT, .int cnt])), (hW, .inl (cW, 2048, .inl words2_5))] H := hP
  have hD : va_D A [(h0, .inr (4, [.ref hM, .ref hP, .int st])), (hM, .inr (1, [.ref hW, .ref hT, .int cnt])), (hW, .inl (cW, 2048, .inl words2_5))] := hD
  refine W.widen (k := 1) (n := 6) (by decide) (by decide) ?_
  try dsimp only at hw_4
  obtain rfl := hw_4
  refine lv_aload_n hx hb dX4_load_14 rfl (lv_at hl 0 rfl) ?_
  refine va_get (D := (dC, dI)) (ci := 4) (v := .ref hM) (C := RX4) (T := TX4) (N := 3) hx hb hts (by decide +kernel) hown hK hP 0 rfl rfl 0 (by decide) (hts (.fieldLink RX4 12 "WordGuest" "memory" "LWordGuest$Memory;") (by decide +kernel)) (fun _ h9 => h9) rfl dX4_load_15 ?_
  refine lv_iload_n hx hb dX4_load_18 rfl (lv_at hl 1 rfl) ?_
  refine lv_iconst (v := 4) hx hb dX4_load_19 (by decide) ?_
  refine lv_iadd hx hb dX4_load_20 ?_
  refine lv_iload_n hx hb dX4_load_21 rfl (lv_at hl 3 rfl) ?_
  have hPc := hP.sub (ws' := [(hM, .inr (1, [.ref hW, .ref hT, .int cnt])), (hW, .inl (cW, 2048, .inl words2_5))]) [1, 2] rfl
  have hDc := hD.sub (ws' := [(hM, .inr (1, [.ref hW, .ref hT, .int cnt])), (hW, .inl (cW, 2048, .inl words2_5))]) [1, 2] (by decide) rfl
  have hKc := hK.sub (tys' := [(cW, .int)]) [0] rfl
  have hFc := va_free (wc := [(hM, .inr (1, [.ref hW, .ref hT, .int cnt])), (hW, .inl (cW, 2048, .inl words2_5))]) hD hS hA [1, 2] rfl
  refine va_calli (va_runV (C := RX1) (b := hM) (As := [.int (pl + 4), .int a1]) (rest := [.int (ct pl + ct (pl + 2))]) ⟨hx, hb, hml, hown, hts⟩ (c_X1_setPair l dC dI H.size hM hW hT cnt cW words2_5 (pl + 4) a1) (cwV 2 hts gX4_load_X1_setPair rfl rfl rfl (by decide +kernel) ⟨Nat.le_of_ble_eq_true rfl, Nat.le_of_ble_eq_true rfl⟩) ⟨q_blind, va_recv hK hP (ci := 1) (q0 := 1) rfl rfl, fun U hU hW => ⟨rfl, q_pay hU hW hPc hKc hDc hN⟩⟩ rfl rfl hl.1 rfl (lv_room (Nat.le_of_ble_eq_true rfl)) dX4_load_22 ⟨Nat.le_of_ble_eq_true rfl, Nat.le_of_ble_eq_true rfl⟩) hS (fun q _ h => hFc q h) hFc (fun r_6 u9 t H locs ht hvm hw_7 hB hz1 hk1 hS => ?_)
  obtain ⟨words2_8, rfl⟩ : ∃ z, z = u9 := ⟨_, rfl⟩ := u9
  obtain ⟨hP1, hK1, hD1⟩ := hB
  rw [ht] at hP1
  obtain ⟨hP, hD⟩ := va_join (wr := [(h0, .inr (4, [.ref hM, .ref hP, .int st]))]) (w1 := [(hM, .inr (1, [.ref hW, .ref hT, .int cnt])), (hW, .inl (cW, 2048, .inl words2_8))]) hP hD [1, 2] [0] rfl rfl (by decide) (by decide) hk1 hFc hP1 hD1
  have hP : va_P (dC, dI) vwCl [(h0, .inr (4, [.ref hM, .ref hP, .int st])), (hM, .inr (1, [.ref hW, .ref hT, .int cnt])), (hW, .inl (cW, 2048, .inl words2_8))] H := hP
  have hD : va_D A [(h0, .inr (4, [.ref hM, .ref hP, .int st])), (hM, .inr (1, [.ref hW, .ref hT, .int cnt])), (hW, .inl (cW, 2048, .inl words2_8))] := hD
  refine W.widen (k := 1) (n := 6) (by decide) (by decide) ?_
  try dsimp only at hw_7
  obtain rfl := hw_7
  refine lv_iadd hx hb dX4_load_25 ?_
  refine lv_aload_n hx hb dX4_load_26 rfl (lv_at hl 0 rfl) ?_
  refine va_get (D := (dC, dI)) (ci := 4) (v := .ref hM) (C := RX4) (T := TX4) (N := 3) hx hb hts (by decide +kernel) hown hK hP 0 rfl rfl 0 (by decide) (hts (.fieldLink RX4 12 "WordGuest" "memory" "LWordGuest$Memory;") (by decide +kernel)) (fun _ h9 => h9) rfl dX4_load_27 ?_
  refine lv_iload_n hx hb dX4_load_30 rfl (lv_at hl 1 rfl) ?_
  refine lv_bipush (v := 8) hx hb dX4_load_31 (by decide) ?_
  refine lv_iadd hx hb dX4_load_33 ?_
  refine lv_iload hx hb dX4_load_34 (lv_at hl 4 rfl) ?_
  have hPc := hP.sub (ws' := [(hM, .inr (1, [.ref hW, .ref hT, .int cnt])), (hW, .inl (cW, 2048, .inl words2_8))]) [1, 2] rfl
  have hDc := hD.sub (ws' := [(hM, .inr (1, [.ref hW, .ref hT, .int cnt])), (hW, .inl (cW, 2048, .inl words2_8))]) [1, 2] (by decide) rfl
  have hKc := hK.sub (tys' := [(cW, .int)]) [0] rfl
  have hFc := va_free (wc := [(hM, .inr (1, [.ref hW, .ref hT, .int cnt])), (hW, .inl (cW, 2048, .inl words2_8))]) hD hS hA [1, 2] rfl
  refine va_calli (va_runV (C := RX1) (b := hM) (As := [.int (pl + 8), .int a2]) (rest := [.int ((ct pl + ct (pl + 2)) + (ct (pl + 4) + ct ((pl + 4) + 2)))]) ⟨hx, hb, hml, hown, hts⟩ (c_X1_setPair l dC dI H.size hM hW hT cnt cW words2_8 (pl + 8) a2) (cwV 2 hts gX4_load_X1_setPair rfl rfl rfl (by decide +kernel) ⟨Nat.le_of_ble_eq_true rfl, Nat.le_of_ble_eq_true rfl⟩) ⟨q_blind, va_recv hK hP (ci := 1) (q0 := 1) rfl rfl, fun U hU hW => ⟨rfl, q_pay hU hW hPc hKc hDc hN⟩⟩ rfl rfl hl.1 rfl (lv_room (Nat.le_of_ble_eq_true rfl)) dX4_load_36 ⟨Nat.le_of_ble_eq_true rfl, Nat.le_of_ble_eq_true rfl⟩) hS (fun q _ h => hFc q h) hFc (fun r_9 u9 t H locs ht hvm hw_10 hB hz1 hk1 hS => ?_)
  obtain ⟨words2_11, rfl⟩ : ∃ z, z = u9 := ⟨_, rfl⟩ := u9
  obtain ⟨hP1, hK1, hD1⟩ := hB
  rw [ht] at hP1
  obtain ⟨hP, hD⟩ := va_join (wr := [(h0, .inr (4, [.ref hM, .ref hP, .int st]))]) (w1 := [(hM, .inr (1, [.ref hW, .ref hT, .int cnt])), (hW, .inl (cW, 2048, .inl words2_11))]) hP hD [1, 2] [0] rfl rfl (by decide) (by decide) hk1 hFc hP1 hD1
  have hP : va_P (dC, dI) vwCl [(h0, .inr (4, [.ref hM, .ref hP, .int st])), (hM, .inr (1, [.ref hW, .ref hT, .int cnt])), (hW, .inl (cW, 2048, .inl words2_11))] H := hP
  have hD : va_D A [(h0, .inr (4, [.ref hM, .ref hP, .int st])), (hM, .inr (1, [.ref hW, .ref hT, .int cnt])), (hW, .inl (cW, 2048, .inl words2_11))] := hD
  refine W.widen (k := 1) (n := 6) (by decide) (by decide) ?_
  try dsimp only at hw_10
  obtain rfl := hw_10
  refine lv_iadd hx hb dX4_load_39 ?_
  refine lv_aload_n hx hb dX4_load_40 rfl (lv_at hl 0 rfl) ?_
  refine va_get (D := (dC, dI)) (ci := 4) (v := .ref hM) (C := RX4) (T := TX4) (N := 3) hx hb hts (by decide +kernel) hown hK hP 0 rfl rfl 0 (by decide) (hts (.fieldLink RX4 12 "WordGuest" "memory" "LWordGuest$Memory;") (by decide +kernel)) (fun _ h9 => h9) rfl dX4_load_41 ?_
  refine lv_iload_n hx hb dX4_load_44 rfl (lv_at hl 1 rfl) ?_
  refine lv_bipush (v := 12) hx hb dX4_load_45 (by decide) ?_
  refine lv_iadd hx hb dX4_load_47 ?_
  refine lv_iload hx hb dX4_load_48 (lv_at hl 5 rfl) ?_
  have hPc := hP.sub (ws' := [(hM, .inr (1, [.ref hW, .ref hT, .int cnt])), (hW, .inl (cW, 2048, .inl words2_11))]) [1, 2] rfl
  have hDc := hD.sub (ws' := [(hM, .inr (1, [.ref hW, .ref hT, .int cnt])), (hW, .inl (cW, 2048, .inl words2_11))]) [1, 2] (by decide) rfl
  have hKc := hK.sub (tys' := [(cW, .int)]) [0] rfl
  have hFc := va_free (wc := [(hM, .inr (1, [.ref hW, .ref hT, .int cnt])), (hW, .inl (cW, 2048, .inl words2_11))]) hD hS hA [1, 2] rfl
  refine va_calli (va_runV (C := RX1) (b := hM) (As := [.int (pl + 12), .int a3]) (rest := [.int (((ct pl + ct (pl + 2)) + (ct (pl + 4) + ct ((pl + 4) + 2))) + (ct (pl + 8) + ct ((pl + 8) + 2)))]) ⟨hx, hb, hml, hown, hts⟩ (c_X1_setPair l dC dI H.size hM hW hT cnt cW words2_11 (pl + 12) a3) (cwV 2 hts gX4_load_X1_setPair rfl rfl rfl (by decide +kernel) ⟨Nat.le_of_ble_eq_true rfl, Nat.le_of_ble_eq_true rfl⟩) ⟨q_blind, va_recv hK hP (ci := 1) (q0 := 1) rfl rfl, fun U hU hW => ⟨rfl, q_pay hU hW hPc hKc hDc hN⟩⟩ rfl rfl hl.1 rfl (lv_room (Nat.le_of_ble_eq_true rfl)) dX4_load_50 ⟨Nat.le_of_ble_eq_true rfl, Nat.le_of_ble_eq_true rfl⟩) hS (fun q _ h => hFc q h) hFc (fun r_12 u9 t H locs ht hvm hw_13 hB hz1 hk1 hS => ?_)
  obtain ⟨words2_14, rfl⟩ : ∃ z, z = u9 := ⟨_, rfl⟩ := u9
  obtain ⟨hP1, hK1, hD1⟩ := hB
  rw [ht] at hP1
  obtain ⟨hP, hD⟩ := va_join (wr := [(h0, .inr (4, [.ref hM, .ref hP, .int st]))]) (w1 := [(hM, .inr (1, [.ref hW, .ref hT, .int cnt])), (hW, .inl (cW, 2048, .inl words2_14))]) hP hD [1, 2] [0] rfl rfl (by decide) (by decide) hk1 hFc hP1 hD1
  have hP : va_P (dC, dI) vwCl [(h0, .inr (4, [.ref hM, .ref hP, .int st])), (hM, .inr (1, [.ref hW, .ref hT, .int cnt])), (hW, .inl (cW, 2048, .inl words2_14))] H := hP
  have hD : va_D A [(h0, .inr (4, [.ref hM, .ref hP, .int st])), (hM, .inr (1, [.ref hW, .ref hT, .int cnt])), (hW, .inl (cW, 2048, .inl words2_14))] := hD
  refine W.widen (k := 1) (n := 6) (by decide) (by decide) ?_
  try dsimp only at hw_13
  obtain rfl := hw_13
  refine lv_iadd hx hb dX4_load_53 ?_
  refine lv_aload_n hx hb dX4_load_54 rfl (lv_at hl 0 rfl) ?_
  refine va_get (D := (dC, dI)) (ci := 4) (v := .ref hM) (C := RX4) (T := TX4) (N := 3) hx hb hts (by decide +kernel) hown hK hP 0 rfl rfl 0 (by decide) (hts (.fieldLink RX4 12 "WordGuest" "memory" "LWordGuest$Memory;") (by decide +kernel)) (fun _ h9 => h9) rfl dX4_load_55 ?_
  refine lv_iload_n hx hb dX4_load_58 rfl (lv_at hl 1 rfl) ?_
  refine lv_bipush (v := 16) hx hb dX4_load_59 (by decide) ?_
  refine lv_iadd hx hb dX4_load_61 ?_
  refine lv_iload hx hb dX4_load_62 (lv_at hl 6 rfl) ?_
  have hPc := hP.sub (ws' := [(hM, .inr (1, [.ref hW, .ref hT, .int cnt])), (hW, .inl (cW, 2048, .inl words2_14))]) [1, 2] rfl
  have hDc := hD.sub (ws' := [(hM, .inr (1, [.ref hW, .ref hT, .int cnt])), (hW, .inl (cW, 2048, .inl words2_14))]) [1, 2] (by decide) rfl
  have hKc := hK.sub (tys' := [(cW, .int)]) [0] rfl
  have hFc := va_free (wc := [(hM, .inr (1, [.ref hW, .ref hT, .int cnt])), (hW, .inl (cW, 2048, .inl words2_14))]) hD hS hA [1, 2] rfl
  refine va_calli (va_runV (C := RX1) (b := hM) (As := [.int (pl + 16), .int a4]) (rest := [.int ((((ct pl + ct (pl + 2)) + (ct (pl + 4) + ct ((pl + 4) + 2))) + (ct (pl + 8) + ct ((pl + 8) + 2))) + (ct (pl + 12) + ct ((pl + 12) + 2)))]) ⟨hx, hb, hml, hown, hts⟩ (c_X1_setPair l dC dI H.size hM hW hT cnt cW words2_14 (pl + 16) a4) (cwV 2 hts gX4_load_X1_setPair rfl rfl rfl (by decide +kernel) ⟨Nat.le_of_ble_eq_true rfl, Nat.le_of_ble_eq_true rfl⟩) ⟨q_blind, va_recv hK hP (ci := 1) (q0 := 1) rfl rfl, fun U hU hW => ⟨rfl, q_pay hU hW hPc hKc hDc hN⟩⟩ rfl rfl hl.1 rfl (lv_room (Nat.le_of_ble_eq_true rfl)) dX4_load_64 ⟨Nat.le_of_ble_eq_true rfl, Nat.le_of_ble_eq_true rfl⟩) hS (fun q _ h => hFc q h) hFc (fun r_15 u9 t H locs ht hvm hw_16 hB hz1 hk1 hS => ?_)
  obtain ⟨words2_17, rfl⟩ : ∃ z, z = u9 := ⟨_, rfl⟩ := u9
  obtain ⟨hP1, hK1, hD1⟩ := hB
  rw [ht] at hP1
  obtain ⟨hP, hD⟩ := va_join (wr := [(h0, .inr (4, [.ref hM, .ref hP, .int st]))]) (w1 := [(hM, .inr (1, [.ref hW, .ref hT, .int cnt])), (hW, .inl (cW, 2048, .inl words2_17))]) hP hD [1, 2] [0] rfl rfl (by decide) (by decide) hk1 hFc hP1 hD1
  have hP : va_P (dC, dI) vwCl [(h0, .inr (4, [.ref hM, .ref hP, .int st])), (hM, .inr (1, [.ref hW, .ref hT, .int cnt])), (hW, .inl (cW, 2048, .inl words2_17))] H := hP
  have hD : va_D A [(h0, .inr (4, [.ref hM, .ref hP, .int st])), (hM, .inr (1, [.ref hW, .ref hT, .int cnt])), (hW, .inl (cW, 2048, .inl words2_17))] := hD
  refine W.widen (k := 1) (n := 6) (by decide) (by decide) ?_
  try dsimp only at hw_16
  obtain rfl := hw_16
  refine lv_iadd hx hb dX4_load_67 ?_
  have hP9 := hP.sub (ws' := [(h0, .inr (4, [.ref hM, .ref hP, .int st])), (hM, .inr (1, [.ref hW, .ref hT, .int cnt])), (hW, .inl (cW, 2048, .inl words2_17))]) [0, 1, 2] rfl
  have hD9 := hD.sub (ws' := [(h0, .inr (4, [.ref hM, .ref hP, .int st])), (hM, .inr (1, [.ref hW, .ref hT, .int cnt])), (hW, .inl (cW, 2048, .inl words2_17))]) [0, 1, 2] (by decide) rfl
  have hK9 := hK.sub (tys' := [(cW, .int)]) [0] rfl
  refine vx_ret ?_
  exact W.iret (v := ((((ct pl + ct (pl + 2)) + (ct (pl + 4) + ct ((pl + 4) + 2))) + (ct (pl + 8) + ct ((pl + 8) + 2))) + (ct (pl + 12) + ct ((pl + 12) + 2))) + (ct (pl + 16) + ct ((pl + 16) + 2))) hx hb hr (fun t ht hW => ⟨⟨((((ct pl + ct (pl + 2)) + (ct (pl + 4) + ct ((pl + 4) + 2))) + (ct (pl + 8) + ct ((pl + 8) + 2))) + (ct (pl + 12) + ct ((pl + 12) + 2))) + (ct (pl + 16) + ct ((pl + 16) + 2)), words2_17, rfl, ⟨rfl, hw_2⟩, by rw [ht]; exact hP9, va_K.moved hW.alike hK9, hD9⟩, hS.F ht⟩) hS.2.2 dX4_load_68
set_option maxHeartbeats 4000000 in
set_option maxRecDepth 100000 in
theorem c_X4_init (l : Launch) (dC : Nat → ClassId) (dI : Nat → Nat → Nat) (sz : Nat) (h0 : Nat)  : Met l yX4_init wsX4_init ({ frames := 3, cells := 8, slots := 2477, locals := 54 }) (va_Pc [.ref h0] (q_pre dC dI sz [(h0, .inr (4, [.null, .null, .int 0]))] [])) (va_Qv (fun (u9 : Nat × Nat × Nat × Nat × ClassId × ClassId × Nat × Nat × Nat × Nat × ClassId × ClassId) => True) (q_at dC dI (va_A [(h0, .inr (4, [.null, .null, .int 0]))] sz) (fun (u9 : Nat × Nat × Nat × Nat × ClassId × ClassId × Nat × Nat × Nat × Nat × ClassId × ClassId) => [(u9.2.2.2.2.1, .int), (u9.2.2.2.2.2.1, .int), (u9.2.2.2.2.2.2.2.2.2.2.1, .int), (u9.2.2.2.2.2.2.2.2.2.2.2, .int)]) (fun (u9 : Nat × Nat × Nat × Nat × ClassId × ClassId × Nat × Nat × Nat × Nat × ClassId × ClassId) => [(h0, .inr (4, [.ref u9.1, .ref u9.2.1, .int 0])), (u9.1, .inr (1, [.ref u9.2.2.1, .ref u9.2.2.2.1, .int 0])), (u9.2.2.1, .inl (u9.2.2.2.2.1, 2048, .inl (fun _ => 0))), (u9.2.2.2.1, .inl (u9.2.2.2.2.2.1, 400, .inl (fun _ => 0))), (u9.2.1, .inr (3, [.ref u9.2.2.2.2.2.2.1, .ref u9.2.2.2.2.2.2.2.1])), (u9.2.2.2.2.2.2.1, .inr (2, [.ref u9.1, .ref u9.2.2.2.2.2.2.2.2.1, .ref u9.2.2.2.2.2.2.2.2.2.1, .int 0])), (u9.2.2.2.2.2.2.2.2.1, .inl (u9.2.2.2.2.2.2.2.2.2.2.1, 8, .inl (fun _ => 0))), (u9.2.2.2.2.2.2.2.2.2.1, .inl (u9.2.2.2.2.2.2.2.2.2.2.2, 8, .inl (fun _ => 0))), (u9.2.2.2.2.2.2.2.1, .inr (0, [.int 0, .int 0, .int 0, .int 0]))])) (va_A [(h0, .inr (4, [.null, .null, .int 0]))] sz)) 8 2477 (va_A [(h0, .inr (4, [.null, .null, .int 0]))] sz) := by
  refine Met.ofW (cc := cX4_init) (maxL := 1) (ret := none) (by decide) rfl ?_
  intro p e s m args below meth c s₁ B hml hv
  obtain ⟨rfl, hsz, hP, hK, hD0, hN⟩ := hv
  have hx := B.exec
  have hb := B.bytes
  have hr := B.returns
  have hts := atoms_spec (ws := wsX4_init) B.pre
  have hown : s.vm.findClass RX4 = some m.cls := findClass_of_methodNamed B.named
  have hlocks := B.notSynchronized
  have hin : meth.name = "<init>" := (name_of_methodNamed B.named B.method).1
  subst hsz
  have hD := hD0.self (sz := s.heap.size)
  generalize hAe : va_A [(h0, .inr (4, [.null, .null, .int 0]))] s.heap.size = A at hD ⊢
  have hA : ∀ q : Nat, s.heap.size ≤ q → A q := fun q h => by rw [← hAe]; exact Or.inr h
  have hS : va_S A s.heap s.heap [] := va_S.rf
  have hP : va_P (dC, dI) vwCl [(h0, .inr (4, [.null, .null, .int 0]))] s.heap := hP
  have hl := lv_entry ([.ref h0]) (n := 1) (Nat.le_of_ble_eq_true rfl)
  rw [lg_entry_eq]
  generalize (lg_sl ([.ref h0]) ++ List.replicate (1 - (lg_sl ([.ref h0])).length) Slot.unset).toArray = ls at hl ⊢
  have hl : lv_has ls 1 [(0, .ref h0)] := hl
  refine lv_aload_n hx hb dX4_init_0 rfl (lv_at hl 0 rfl) ?_
  refine W.objInit hx hb hown (hts (.methodLink RX4 3 objectInit) (by decide +kernel)) (hts (.instanceMethod objectInit) (by decide +kernel)) (hts (.code objectInit ⟨#[0xb1]⟩ 1 none) (by decide +kernel)) rfl (by rw [hml]; exact hl.1) rfl dX4_init_1 (Nat.le_of_ble_eq_true rfl) (Nat.le_of_ble_eq_true rfl) ?_
  refine W.eq (g2 := F0 m 4 ls []) rfl ?_
  refine lv_aload_n hx hb dX4_init_4 rfl (lv_at hl 0 rfl) ?_
  refine va_new (ci := 1) (fs := [.null, .null, .int 0]) (C := RX1) (T := TX1) (N := 3) hx hb hts (by decide +kernel) tyX1 tyX1_ok hown (hts (.classLink RX4 9 RX1) (by decide +kernel)) (hts (.instantiable RX1 3) (by decide +kernel)) (hts (.initialized RX1) (by decide +kernel)) hK hP hD hS hA rfl (fun j hj => by rcases (show j = 0 ∨ j = 1 ∨ j = 2 by omega) with rfl | rfl | rfl <;> rfl) (by decide) (by decide) dX4_init_5 (fun q_1 H hP hD hS => ?_)
  have hP : va_P (dC, dI) vwCl [(h0, .inr (4, [.null, .null, .int 0])), (q_1, .inr (1, [.null, .null, .int 0]))] H := hP
  have hD : va_D A [(h0, .inr (4, [.null, .null, .int 0])), (q_1, .inr (1, [.null, .null, .int 0]))] := hD
  refine W.widen (k := 1) (n := 3) (by omega) (by omega) ?_
  refine lv_dup hx hb dX4_init_8 rfl ?_
  have hPc := hP.sub (ws' := [(q_1, .inr (1, [.null, .null, .int 0]))]) [1] rfl
  have hDc := hD.sub (ws' := [(q_1, .inr (1, [.null, .null, .int 0]))]) [1] (by decide) rfl
  have hKc := hK.sub (tys' := []) [] rfl
  have hFc := va_free (wc := [(q_1, .inr (1, [.null, .null, .int 0]))]) hD hS hA [1] rfl
  refine va_callv (va_runIN (b := q_1) (As := []) (rest := [.ref q_1, .ref h0]) ⟨hx, hb, hml, hown, hts⟩ (c_X1_init l dC dI H.size q_1) ⟨va_cnB 0 hts gX4_init_X1_init_n11 rfl rfl rfl (hN _ (List.mem_of_getElem? (i := 0) rfl)) (hts (.initialized RX1) (by decide +kernel)) (by decide +kernel) ⟨Nat.le_of_ble_eq_true rfl, Nat.le_of_ble_eq_true rfl⟩, rfl, hts (.instanceMethod yX1_init) (by decide +kernel)⟩ ⟨q_blind, fun U hU hW => ⟨rfl, q_pay hU hW hPc hKc hDc hN⟩⟩ rfl rfl hl.1 rfl (lv_room (Nat.le_of_ble_eq_true rfl)) dX4_init_9 ⟨Nat.le_of_ble_eq_true rfl, Nat.le_of_ble_eq_true rfl⟩) hS (fun q _ h => hFc q h) hFc (fun u9 t H locs ht hvm hw_3 hB hz1 hk1 hS => ?_)
  obtain ⟨hW_4, hT_5, cW_6, cT_7⟩ := u9
  obtain ⟨hP1, hK1, hD1⟩ := hB
  rw [ht] at hP1
  obtain ⟨hP, hD⟩ := va_join (wr := [(h0, .inr (4, [.null, .null, .int 0]))]) (w1 := [(q_1, .inr (1, [.ref hW_4, .ref hT_5, .int 0])), (hW_4, .inl (cW_6, 2048, .inl (fun _ => 0))), (hT_5, .inl (cT_7, 400, .inl (fun _ => 0)))]) hP hD [1] [0] rfl rfl (by decide) (by decide) hk1 hFc hP1 hD1
  have hP : va_P (dC, dI) vwCl [(h0, .inr (4, [.null, .null, .int 0])), (q_1, .inr (1, [.ref hW_4, .ref hT_5, .int 0])), (hW_4, .inl (cW_6, 2048, .inl (fun _ => 0))), (hT_5, .inl (cT_7, 400, .inl (fun _ => 0)))] H := hP
  have hD : va_D A [(h0, .inr (4, [.null, .null, .int 0])), (q_1, .inr (1, [.ref hW_4, .ref hT_5, .int 0])), (hW_4, .inl (cW_6, 2048, .inl (fun _ => 0))), (hT_5, .inl (cT_7, 400, .inl (fun _ => 0)))] := hD
  have hK := hK.app (va_K.moved hvm.symm hK1)
  have hK : va_K (dC, dI) vwCl [(cW_6, .int), (cT_7, .int)] s := hK
  refine W.widen (k := 3) (n := 2451) (by decide) (by decide) ?_
  try dsimp only at hw_3
  refine va_putF (D := (dC, dI)) (ci := 4) (v := .ref q_1) (ty := .object "WordGuest$Memory") (C := RX4) (T := TX4) (N := 3) hx hb hts (by decide +kernel) tyX4 tyX4_ok nmX4 hown hK hP hD hS 0 rfl rfl 0 (by decide) (hts (.fieldLink RX4 12 "WordGuest" "memory" "LWordGuest$Memory;") (by decide +kernel)) (fun _ h9 => h9) rfl hin rfl (by decide +kernel) rfl rfl (Nat.le_of_ble_eq_true rfl) dX4_init_12 (fun H locs hP hD hS => ?_)
  have hP : va_P (dC, dI) vwCl [(h0, .inr (4, [.ref q_1, .null, .int 0])), (q_1, .inr (1, [.ref hW_4, .ref hT_5, .int 0])), (hW_4, .inl (cW_6, 2048, .inl (fun _ => 0))), (hT_5, .inl (cT_7, 400, .inl (fun _ => 0)))] H := hP
  have hD : va_D A [(h0, .inr (4, [.ref q_1, .null, .int 0])), (q_1, .inr (1, [.ref hW_4, .ref hT_5, .int 0])), (hW_4, .inl (cW_6, 2048, .inl (fun _ => 0))), (hT_5, .inl (cT_7, 400, .inl (fun _ => 0)))] := hD
  refine lv_aload_n hx hb dX4_init_15 rfl (lv_at hl 0 rfl) ?_
  refine va_new (ci := 3) (fs := [.null, .null]) (C := RX3) (T := TX3) (N := 2) hx hb hts (by decide +kernel) tyX3 tyX3_ok hown (hts (.classLink RX4 16 RX3) (by decide +kernel)) (hts (.instantiable RX3 2) (by decide +kernel)) (hts (.initialized RX3) (by decide +kernel)) hK hP hD hS hA rfl (fun j hj => by rcases (show j = 0 ∨ j = 1 by omega) with rfl | rfl <;> rfl) (by decide) (by decide) dX4_init_16 (fun q_8 H hP hD hS => ?_)
  have hP : va_P (dC, dI) vwCl [(h0, .inr (4, [.ref q_1, .null, .int 0])), (q_1, .inr (1, [.ref hW_4, .ref hT_5, .int 0])), (hW_4, .inl (cW_6, 2048, .inl (fun _ => 0))), (hT_5, .inl (cT_7, 400, .inl (fun _ => 0))), (q_8, .inr (3, [.null, .null]))] H := hP
  have hD : va_D A [(h0, .inr (4, [.ref q_1, .null, .int 0])), (q_1, .inr (1, [.ref hW_4, .ref hT_5, .int 0])), (hW_4, .inl (cW_6, 2048, .inl (fun _ => 0))), (hT_5, .inl (cT_7, 400, .inl (fun _ => 0))), (q_8, .inr (3, [.null, .null]))] := hD
  refine W.widen (k := 4) (n := 2453) (by omega) (by omega) ?_
  refine lv_dup hx hb dX4_init_19 rfl ?_
  refine lv_aload_n hx hb dX4_init_20 rfl (lv_at hl 0 rfl) ?_
  refine va_get (D := (dC, dI)) (ci := 4) (v := .ref q_1) (C := RX4) (T := TX4) (N := 3) hx hb hts (by decide +kernel) hown hK hP 0 rfl rfl 0 (by decide) (hts (.fieldLink RX4 12 "WordGuest" "memory" "LWordGuest$Memory;") (by decide +kernel)) (fun _ h9 => h9) rfl dX4_init_21 ?_
  have hPc := hP.sub (ws' := [(q_8, .inr (3, [.null, .null]))]) [4] rfl
  have hDc := hD.sub (ws' := [(q_8, .inr (3, [.null, .null]))]) [4] (by decide) rfl
  have hKc := hK.sub (tys' := []) [] rfl
  have hFc := va_free (wc := [(q_8, .inr (3, [.null, .null]))]) hD hS hA [4] rfl
  refine va_callv (va_runI (b := q_8) (As := [.ref q_1]) (rest := [.ref q_8, .ref h0]) ⟨hx, hb, hml, hown, hts⟩ (c_X3_init l dC dI H.size q_8 q_1) (cwI 1 hts gX4_init_X3_init rfl rfl rfl (hts (.initialized RX3) (by decide +kernel)) (hts (.methodLink RX4 18 yX3_init) (by decide +kernel)) (hts (.instanceMethod yX3_init) (by decide +kernel)) rfl (by decide +kernel) ⟨Nat.le_of_ble_eq_true rfl, Nat.le_of_ble_eq_true rfl⟩) ⟨q_blind, fun U hU hW => ⟨rfl, q_pay hU hW hPc hKc hDc hN⟩⟩ rfl rfl hl.1 rfl (lv_room (Nat.le_of_ble_eq_true rfl)) dX4_init_24 ⟨Nat.le_of_ble_eq_true rfl, Nat.le_of_ble_eq_true rfl⟩) hS (fun q _ h => hFc q h) hFc (fun u9 t H locs ht hvm hw_10 hB hz1 hk1 hS => ?_)
  obtain ⟨hR_11, hF_12, hA_13, hB_14, cA_15, cB_16⟩ := u9
  obtain ⟨hP1, hK1, hD1⟩ := hB
  rw [ht] at hP1
  obtain ⟨hP, hD⟩ := va_join (wr := [(h0, .inr (4, [.ref q_1, .null, .int 0])), (q_1, .inr (1, [.ref hW_4, .ref hT_5, .int 0])), (hW_4, .inl (cW_6, 2048, .inl (fun _ => 0))), (hT_5, .inl (cT_7, 400, .inl (fun _ => 0)))]) (w1 := [(q_8, .inr (3, [.ref hR_11, .ref hF_12])), (hR_11, .inr (2, [.ref q_1, .ref hA_13, .ref hB_14, .int 0])), (hA_13, .inl (cA_15, 8, .inl (fun _ => 0))), (hB_14, .inl (cB_16, 8, .inl (fun _ => 0))), (hF_12, .inr (0, [.int 0, .int 0, .int 0, .int 0]))]) hP hD [4] [0, 1, 2, 3] rfl rfl (by decide) (by decide) hk1 hFc hP1 hD1
  have hP : va_P (dC, dI) vwCl [(h0, .inr (4, [.ref q_1, .null, .int 0])), (q_1, .inr (1, [.ref hW_4, .ref hT_5, .int 0])), (hW_4, .inl (cW_6, 2048, .inl (fun _ => 0))), (hT_5, .inl (cT_7, 400, .inl (fun _ => 0))), (q_8, .inr (3, [.ref hR_11, .ref hF_12])), (hR_11, .inr (2, [.ref q_1, .ref hA_13, .ref hB_14, .int 0])), (hA_13, .inl (cA_15, 8, .inl (fun _ => 0))), (hB_14, .inl (cB_16, 8, .inl (fun _ => 0))), (hF_12, .inr (0, [.int 0, .int 0, .int 0, .int 0]))] H := hP
  have hD : va_D A [(h0, .inr (4, [.ref q_1, .null, .int 0])), (q_1, .inr (1, [.ref hW_4, .ref hT_5, .int 0])), (hW_4, .inl (cW_6, 2048, .inl (fun _ => 0))), (hT_5, .inl (cT_7, 400, .inl (fun _ => 0))), (q_8, .inr (3, [.ref hR_11, .ref hF_12])), (hR_11, .inr (2, [.ref q_1, .ref hA_13, .ref hB_14, .int 0])), (hA_13, .inl (cA_15, 8, .inl (fun _ => 0))), (hB_14, .inl (cB_16, 8, .inl (fun _ => 0))), (hF_12, .inr (0, [.int 0, .int 0, .int 0, .int 0]))] := hD
  have hK := hK.app (va_K.moved hvm.symm hK1)
  have hK : va_K (dC, dI) vwCl [(cW_6, .int), (cT_7, .int), (cA_15, .int), (cB_16, .int)] s := hK
  refine W.widen (k := 8) (n := 2477) (by decide) (by decide) ?_
  try dsimp only at hw_10
  refine va_putF (D := (dC, dI)) (ci := 4) (v := .ref q_8) (ty := .object "WordGuest$Processor") (C := RX4) (T := TX4) (N := 3) hx hb hts (by decide +kernel) tyX4 tyX4_ok nmX4 hown hK hP hD hS 0 rfl rfl 1 (by decide) (hts (.fieldLink RX4 21 "WordGuest" "processor" "LWordGuest$Processor;") (by decide +kernel)) (fun _ h9 => h9) rfl hin rfl (by decide +kernel) rfl rfl (Nat.le_of_ble_eq_true rfl) dX4_init_27 (fun H locs hP hD hS => ?_)
  have hP : va_P (dC, dI) vwCl [(h0, .inr (4, [.ref q_1, .ref q_8, .int 0])), (q_1, .inr (1, [.ref hW_4, .ref hT_5, .int 0])), (hW_4, .inl (cW_6, 2048, .inl (fun _ => 0))), (hT_5, .inl (cT_7, 400, .inl (fun _ => 0))), (q_8, .inr (3, [.ref hR_11, .ref hF_12])), (hR_11, .inr (2, [.ref q_1, .ref hA_13, .ref hB_14, .int 0])), (hA_13, .inl (cA_15, 8, .inl (fun _ => 0))), (hB_14, .inl (cB_16, 8, .inl (fun _ => 0))), (hF_12, .inr (0, [.int 0, .int 0, .int 0, .int 0]))] H := hP
  have hD : va_D A [(h0, .inr (4, [.ref q_1, .ref q_8, .int 0])), (q_1, .inr (1, [.ref hW_4, .ref hT_5, .int 0])), (hW_4, .inl (cW_6, 2048, .inl (fun _ => 0))), (hT_5, .inl (cT_7, 400, .inl (fun _ => 0))), (q_8, .inr (3, [.ref hR_11, .ref hF_12])), (hR_11, .inr (2, [.ref q_1, .ref hA_13, .ref hB_14, .int 0])), (hA_13, .inl (cA_15, 8, .inl (fun _ => 0))), (hB_14, .inl (cB_16, 8, .inl (fun _ => 0))), (hF_12, .inr (0, [.int 0, .int 0, .int 0, .int 0]))] := hD
  have hP9 := hP.sub (ws' := [(h0, .inr (4, [.ref q_1, .ref q_8, .int 0])), (q_1, .inr (1, [.ref hW_4, .ref hT_5, .int 0])), (hW_4, .inl (cW_6, 2048, .inl (fun _ => 0))), (hT_5, .inl (cT_7, 400, .inl (fun _ => 0))), (q_8, .inr (3, [.ref hR_11, .ref hF_12])), (hR_11, .inr (2, [.ref q_1, .ref hA_13, .ref hB_14, .int 0])), (hA_13, .inl (cA_15, 8, .inl (fun _ => 0))), (hB_14, .inl (cB_16, 8, .inl (fun _ => 0))), (hF_12, .inr (0, [.int 0, .int 0, .int 0, .int 0]))]) [0, 1, 2, 3, 4, 5, 6, 7, 8] rfl
  have hD9 := hD.sub (ws' := [(h0, .inr (4, [.ref q_1, .ref q_8, .int 0])), (q_1, .inr (1, [.ref hW_4, .ref hT_5, .int 0])), (hW_4, .inl (cW_6, 2048, .inl (fun _ => 0))), (hT_5, .inl (cT_7, 400, .inl (fun _ => 0))), (q_8, .inr (3, [.ref hR_11, .ref hF_12])), (hR_11, .inr (2, [.ref q_1, .ref hA_13, .ref hB_14, .int 0])), (hA_13, .inl (cA_15, 8, .inl (fun _ => 0))), (hB_14, .inl (cB_16, 8, .inl (fun _ => 0))), (hF_12, .inr (0, [.int 0, .int 0, .int 0, .int 0]))]) [0, 1, 2, 3, 4, 5, 6, 7, 8] (by decide) rfl
  have hK9 := hK.sub (tys' := [(cW_6, .int), (cT_7, .int), (cA_15, .int), (cB_16, .int)]) [0, 1, 2, 3] rfl
  exact W.vret hx hb hr (fun t ht hW => ⟨⟨(q_1, q_8, hW_4, hT_5, cW_6, cT_7, hR_11, hF_12, hA_13, hB_14, cA_15, cB_16), rfl, trivial, by rw [ht]; exact hP9, va_K.moved hW.alike hK9, hD9⟩, hS.F ht⟩) hS.2.2 dX4_init_30
set_option maxHeartbeats 4000000 in
set_option maxRecDepth 100000 in
theorem c_X4_run0 (l : Launch) (hl0 : l.stackTraces = false) (dC : Nat → ClassId) (dI : Nat → Nat → Nat) (sz : Nat) (h0 : Nat) (hM : Nat) (hP : Nat) (st : Int32) (hF : Nat) (hR : Nat) (hA : Nat) (hB : Nat) (cA : ClassId) (cB : ClassId) (hW : Nat) (hT : Nat) (cW : ClassId) (n : Int32)  : vx_Met l yX4_run wsX4_run ({ frames := 6, cells := 1, slots := 6, locals := 243 }) (va_Pc [.ref h0, .int n] (q_prx dC dI sz [(h0, .inr (4, [.ref hM, .ref hP, .int st])), (hP, .inr (3, [.ref hR, .ref hF])), (hR, .inr (2, [.ref hM, .ref hA, .ref hB, .int 0])), (hA, .inl (cA, 8, .inl (fun _ => 0))), (hB, .inl (cB, 8, .inl (fun _ => 0))), (hM, .inr (1, [.ref hW, .ref hT, .int 0])), (hW, .inl (cW, 2048, .inl (fun _ => 0))), (hF, .inr (0, [.int 0, .int 0, .int 0, .int 0]))] [(cA, .int), (cB, .int), (cW, .int)])) (va_Qi (fun (r : Int32) (u9 : Int32 × (Nat → Int32) × (Nat → Int32)) => r = (if n ≤ 0 then 0 else 1) ∧ ¬ (n < 0 ∨ 5000 < n)) (q_at dC dI (va_A [(h0, .inr (4, [.ref hM, .ref hP, .int st])), (hP, .inr (3, [.ref hR, .ref hF])), (hR, .inr (2, [.ref hM, .ref hA, .ref hB, .int 0])), (hA, .inl (cA, 8, .inl (fun _ => 0))), (hB, .inl (cB, 8, .inl (fun _ => 0))), (hM, .inr (1, [.ref hW, .ref hT, .int 0])), (hW, .inl (cW, 2048, .inl (fun _ => 0))), (hF, .inr (0, [.int 0, .int 0, .int 0, .int 0]))] sz) (fun (u9 : Int32 × (Nat → Int32) × (Nat → Int32)) => [(cA, .int), (cB, .int), (cW, .int)]) (fun (u9 : Int32 × (Nat → Int32) × (Nat → Int32)) => [(h0, .inr (4, [.ref hM, .ref hP, .int u9.1])), (hP, .inr (3, [.ref hR, .ref hF])), (hR, .inr (2, [.ref hM, .ref hA, .ref hB, .int 0])), (hA, .inl (cA, 8, .inl u9.2.1)), (hB, .inl (cB, 8, .inl u9.2.2)), (hM, .inr (1, [.ref hW, .ref hT, .int 0])), (hW, .inl (cW, 2048, .inl (fun _ => 0))), (hF, .inr (0, [.int 0, .int 0, .int 0, .int 0]))])) (va_A [(h0, .inr (4, [.ref hM, .ref hP, .int st])), (hP, .inr (3, [.ref hR, .ref hF])), (hR, .inr (2, [.ref hM, .ref hA, .ref hB, .int 0])), (hA, .inl (cA, 8, .inl (fun _ => 0))), (hB, .inl (cB, 8, .inl (fun _ => 0))), (hM, .inr (1, [.ref hW, .ref hT, .int 0])), (hW, .inl (cW, 2048, .inl (fun _ => 0))), (hF, .inr (0, [.int 0, .int 0, .int 0, .int 0]))] sz)) (vx_X (fun (_ : Unit) => n < 0 ∨ 5000 < n) (fun E9 _ _ => E9 = "java/lang/IllegalArgumentException") (fun q => sz ≤ q)) 1 6 (va_A [(h0, .inr (4, [.ref hM, .ref hP, .int st])), (hP, .inr (3, [.ref hR, .ref hF])), (hR, .inr (2, [.ref hM, .ref hA, .ref hB, .int 0])), (hA, .inl (cA, 8, .inl (fun _ => 0))), (hB, .inl (cB, 8, .inl (fun _ => 0))), (hM, .inr (1, [.ref hW, .ref hT, .int 0])), (hW, .inl (cW, 2048, .inl (fun _ => 0))), (hF, .inr (0, [.int 0, .int 0, .int 0, .int 0]))] sz) := by
  refine vx_ofW (cc := cX4_run) (maxL := 4) (ret := (some .int)) (by decide) rfl ?_
  intro p e s m args below meth c s₁ B hml htab hv
  obtain ⟨rfl, ⟨hsz, hP, hK, hD0, hN⟩, hT⟩ := hv
  have hx := B.exec
  have hb := B.bytes
  have hr := B.returns
  have hts := atoms_spec (ws := wsX4_run) B.pre
  have hown : s.vm.findClass RX4 = some m.cls := findClass_of_methodNamed B.named
  have hlocks := B.notSynchronized
  subst hsz
  have hD := hD0.self (sz := s.heap.size)
  generalize hAe : va_A [(h0, .inr (4, [.ref hM, .ref hP, .int st])), (hP, .inr (3, [.ref hR, .ref hF])), (hR, .inr (2, [.ref hM, .ref hA, .ref hB, .int 0])), (hA, .inl (cA, 8, .inl (fun _ => 0))), (hB, .inl (cB, 8, .inl (fun _ => 0))), (hM, .inr (1, [.ref hW, .ref hT, .int 0])), (hW, .inl (cW, 2048, .inl (fun _ => 0))), (hF, .inr (0, [.int 0, .int 0, .int 0, .int 0]))] s.heap.size = A at hD hT ⊢
  have hA : ∀ q : Nat, s.heap.size ≤ q → A q := fun q h => by rw [← hAe]; exact Or.inr h
  have hS : va_S A s.heap s.heap [] := va_S.rf
  have hP : va_P (dC, dI) vwCl [(h0, .inr (4, [.ref hM, .ref hP, .int st])), (hP, .inr (3, [.ref hR, .ref hF])), (hR, .inr (2, [.ref hM, .ref hA, .ref hB, .int 0])), (hA, .inl (cA, 8, .inl (fun _ => 0))), (hB, .inl (cB, 8, .inl (fun _ => 0))), (hM, .inr (1, [.ref hW, .ref hT, .int 0])), (hW, .inl (cW, 2048, .inl (fun _ => 0))), (hF, .inr (0, [.int 0, .int 0, .int 0, .int 0]))] s.heap := hP
  have hl := lv_entry ([.ref h0, .int n]) (n := 4) (Nat.le_of_ble_eq_true rfl)
  rw [lg_entry_eq]
  generalize (lg_sl ([.ref h0, .int n]) ++ List.replicate (4 - (lg_sl ([.ref h0, .int n])).length) Slot.unset).toArray = ls at hl ⊢
  have hl : lv_has ls 4 [(0, .ref h0), (1, .int n)] := hl
  refine lv_iload_n hx hb dX4_run_0 rfl (lv_at hl 1 rfl) ?_
  refine lv_if_lt (tgt := 11) hx hb dX4_run_1 (by decide) (fun c_1 => ?_) (fun c_1 => ?_)
  · refine vx_throw0 (names := ["java/lang/RuntimeException", "java/lang/Exception"]) (A := A) hx hb hl0 hown (by decide +kernel) (by decide +kernel) (hts (.classLink RX4 67 "java/lang/IllegalArgumentException") (by decide +kernel)) (hts (.initialized "java/lang/IllegalArgumentException") (by decide +kernel)) (vx_hat (B := q_nl) (fun w9 h9 => hts w9 (List.mem_cons_of_mem _ (List.mem_append_right _ h9))) (by decide +kernel) (fun w9 h9 => va_Nw.use (q_nl_on w9 h9) (hN w9 h9))) (by decide +kernel) hT.1 hT.2 hS (hl.1.trans hml.symm) dX4_run_11 dX4_run_14 dX4_run_15 dX4_run_18 (fun x9 h9 => (htab x9 h9).elim) (by decide) (by decide) (by decide) (by decide) hlocks (fun t9 hal hz9 hk9 => ⟨(), (Or.inl c_1), rfl, ⟨hz9, fun q h1 _ => hk9 q h1⟩⟩) hS.2.2 (by decide) (by decide)
  · refine lv_iload_n hx hb dX4_run_4 rfl (lv_at hl 1 rfl) ?_
    refine lv_sipush (v := 5000) hx hb dX4_run_5 (by decide) ?_
    refine lv_icmp_le (tgt := 19) hx hb dX4_run_8 (by decide) (fun c_2 => ?_) (fun c_2 => ?_)
    · refine lv_aload_n hx hb dX4_run_19 rfl (lv_at hl 0 rfl) ?_
      refine lv_iconst (v := 0) hx hb dX4_run_20 (by decide) ?_
      refine va_put (D := (dC, dI)) (ci := 4) (v := .int 0) (ty := .int) (C := RX4) (T := TX4) (N := 3) hx hb hts (by decide +kernel) tyX4 tyX4_ok nmX4 hown hK hP hD hS 0 rfl rfl 2 (by decide) (hts (.fieldLink RX4 70 "WordGuest" "latestSteps" "I") (by decide +kernel)) (fun _ h9 => h9) rfl (by decide +kernel) rfl rfl (Nat.le_of_ble_eq_true rfl) dX4_run_21 (fun H locs hP hD hS => ?_)
      have hP : va_P (dC, dI) vwCl [(h0, .inr (4, [.ref hM, .ref hP, .int 0])), (hP, .inr (3, [.ref hR, .ref hF])), (hR, .inr (2, [.ref hM, .ref hA, .ref hB, .int 0])), (hA, .inl (cA, 8, .inl (fun _ => 0))), (hB, .inl (cB, 8, .inl (fun _ => 0))), (hM, .inr (1, [.ref hW, .ref hT, .int 0])), (hW, .inl (cW, 2048, .inl (fun _ => 0))), (hF, .inr (0, [.int 0, .int 0, .int 0, .int 0]))] H := hP
      have hD : va_D A [(h0, .inr (4, [.ref hM, .ref hP, .int 0])), (hP, .inr (3, [.ref hR, .ref hF])), (hR, .inr (2, [.ref hM, .ref hA, .ref hB, .int 0])), (hA, .inl (cA, 8, .inl (fun _ => 0))), (hB, .inl (cB, 8, .inl (fun _ => 0))), (hM, .inr (1, [.ref hW, .ref hT, .int 0])), (hW, .inl (cW, 2048, .inl (fun _ => 0))), (hF, .inr (0, [.int 0, .int 0, .int 0, .int 0]))] := hD
      refine lv_iconst (v := 0) hx hb dX4_run_24 (by decide) ?_
      refine lv_istore_n (lv' := [(2, .int 0), (0, .ref h0), (1, .int n)]) hx hb dX4_run_25 rfl hl (by decide) rfl (fun ls hl => ?_)
      refine lv_iload_n hx hb dX4_run_26 rfl (lv_at hl 0 rfl) ?_
      refine lv_iload_n hx hb dX4_run_27 rfl (lv_at hl 2 rfl) ?_
      refine lv_icmp_ge (tgt := 70) hx hb dX4_run_28 (by decide) (fun c_3 => ?_) (fun c_3 => ?_)
      · refine lv_iconst (v := 0) hx hb dX4_run_70 (by decide) ?_
        have hP9 := hP.sub (ws' := [(h0, .inr (4, [.ref hM, .ref hP, .int 0])), (hP, .inr (3, [.ref hR, .ref hF])), (hR, .inr (2, [.ref hM, .ref hA, .ref hB, .int 0])), (hA, .inl (cA, 8, .inl (fun _ => 0))), (hB, .inl (cB, 8, .inl (fun _ => 0))), (hM, .inr (1, [.ref hW, .ref hT, .int 0])), (hW, .inl (cW, 2048, .inl (fun _ => 0))), (hF, .inr (0, [.int 0, .int 0, .int 0, .int 0]))]) [0, 1, 2, 3, 4, 5, 6, 7] rfl
        have hD9 := hD.sub (ws' := [(h0, .inr (4, [.ref hM, .ref hP, .int 0])), (hP, .inr (3, [.ref hR, .ref hF])), (hR, .inr (2, [.ref hM, .ref hA, .ref hB, .int 0])), (hA, .inl (cA, 8, .inl (fun _ => 0))), (hB, .inl (cB, 8, .inl (fun _ => 0))), (hM, .inr (1, [.ref hW, .ref hT, .int 0])), (hW, .inl (cW, 2048, .inl (fun _ => 0))), (hF, .inr (0, [.int 0, .int 0, .int 0, .int 0]))]) [0, 1, 2, 3, 4, 5, 6, 7] (by decide) rfl
        have hK9 := hK.sub (tys' := [(cA, .int), (cB, .int), (cW, .int)]) [0, 1, 2] rfl
        refine vx_ret ?_
        refine W.widen (k := 1) (n := 6) (by decide) (by decide) ?_
        exact W.iret (v := 0) hx hb hr (fun t ht hW => ⟨⟨0, (0, (fun _ => 0), (fun _ => 0)), rfl, ⟨by rw [if_pos c_3], fun h => h.elim c_1 (fun h => absurd c_2 (Int32.not_le.mpr h))⟩, by rw [ht]; exact hP9, va_K.moved hW.alike hK9, hD9⟩, hS.F ht⟩) hS.2.2 dX4_run_71
      · refine lv_aload_n hx hb dX4_run_31 rfl (lv_at hl 1 rfl) ?_
        refine va_get (D := (dC, dI)) (ci := 4) (v := .ref hP) (C := RX4) (T := TX4) (N := 3) hx hb hts (by decide +kernel) hown hK hP 0 rfl rfl 1 (by decide) (hts (.fieldLink RX4 21 "WordGuest" "processor" "LWordGuest$Processor;") (by decide +kernel)) (fun _ h9 => h9) rfl dX4_run_32 ?_
        have hPc := hP.sub (ws' := [(hP, .inr (3, [.ref hR, .ref hF])), (hR, .inr (2, [.ref hM, .ref hA, .ref hB, .int 0])), (hA, .inl (cA, 8, .inl (fun _ => 0))), (hB, .inl (cB, 8, .inl (fun _ => 0))), (hM, .inr (1, [.ref hW, .ref hT, .int 0])), (hW, .inl (cW, 2048, .inl (fun _ => 0))), (hF, .inr (0, [.int 0, .int 0, .int 0, .int 0]))]) [1, 2, 3, 4, 5, 6, 7] rfl
        have hDc := hD.sub (ws' := [(hP, .inr (3, [.ref hR, .ref hF])), (hR, .inr (2, [.ref hM, .ref hA, .ref hB, .int 0])), (hA, .inl (cA, 8, .inl (fun _ => 0))), (hB, .inl (cB, 8, .inl (fun _ => 0))), (hM, .inr (1, [.ref hW, .ref hT, .int 0])), (hW, .inl (cW, 2048, .inl (fun _ => 0))), (hF, .inr (0, [.int 0, .int 0, .int 0, .int 0]))]) [1, 2, 3, 4, 5, 6, 7] (by decide) rfl
        have hKc := hK.sub (tys' := [(cA, .int), (cB, .int), (cW, .int)]) [0, 1, 2] rfl
        have hFc := va_free (wc := [(hP, .inr (3, [.ref hR, .ref hF])), (hR, .inr (2, [.ref hM, .ref hA, .ref hB, .int 0])), (hA, .inl (cA, 8, .inl (fun _ => 0))), (hB, .inl (cB, 8, .inl (fun _ => 0))), (hM, .inr (1, [.ref hW, .ref hT, .int 0])), (hW, .inl (cW, 2048, .inl (fun _ => 0))), (hF, .inr (0, [.int 0, .int 0, .int 0, .int 0]))]) hD hS hA [1, 2, 3, 4, 5, 6, 7] rfl
        refine va_calli (va_runV (C := RX3) (b := hP) (As := []) (rest := []) ⟨hx, hb, hml, hown, hts⟩ (c_X3_step0 l dC dI H.size hP hF hR hM hA hB cA cB hW hT cW) (cwV 0 hts gX4_run_X3_step rfl rfl rfl (by decide +kernel) ⟨Nat.le_of_ble_eq_true rfl, Nat.le_of_ble_eq_true rfl⟩) ⟨q_blind, va_recv hK hP (ci := 3) (q0 := 1) rfl rfl, fun U hU hW => ⟨rfl, q_pay hU hW hPc hKc hDc hN⟩⟩ rfl rfl hl.1 rfl (lv_room (Nat.le_of_ble_eq_true rfl)) dX4_run_35 ⟨Nat.le_of_ble_eq_true rfl, Nat.le_of_ble_eq_true rfl⟩) hS (fun q _ h => hFc q h) hFc (fun r_4 u9 t H locs ht hvm hw_5 hB hz1 hk1 hS => ?_)
        obtain ⟨regs2_6, regsB2_7⟩ := u9
        obtain ⟨hP1, hK1, hD1⟩ := hB
        rw [ht] at hP1
        obtain ⟨hP, hD⟩ := va_join (wr := [(h0, .inr (4, [.ref hM, .ref hP, .int 0]))]) (w1 := [(hP, .inr (3, [.ref hR, .ref hF])), (hR, .inr (2, [.ref hM, .ref hA, .ref hB, .int 0])), (hA, .inl (cA, 8, .inl regs2_6)), (hB, .inl (cB, 8, .inl regsB2_7)), (hM, .inr (1, [.ref hW, .ref hT, .int 0])), (hW, .inl (cW, 2048, .inl (fun _ => 0))), (hF, .inr (0, [.int 0, .int 0, .int 0, .int 0]))]) hP hD [1, 2, 3, 4, 5, 6, 7] [0] rfl rfl (by decide) (by decide) hk1 hFc hP1 hD1
        have hP : va_P (dC, dI) vwCl [(h0, .inr (4, [.ref hM, .ref hP, .int 0])), (hP, .inr (3, [.ref hR, .ref hF])), (hR, .inr (2, [.ref hM, .ref hA, .ref hB, .int 0])), (hA, .inl (cA, 8, .inl regs2_6)), (hB, .inl (cB, 8, .inl regsB2_7)), (hM, .inr (1, [.ref hW, .ref hT, .int 0])), (hW, .inl (cW, 2048, .inl (fun _ => 0))), (hF, .inr (0, [.int 0, .int 0, .int 0, .int 0]))] H := hP
        have hD : va_D A [(h0, .inr (4, [.ref hM, .ref hP, .int 0])), (hP, .inr (3, [.ref hR, .ref hF])), (hR, .inr (2, [.ref hM, .ref hA, .ref hB, .int 0])), (hA, .inl (cA, 8, .inl regs2_6)), (hB, .inl (cB, 8, .inl regsB2_7)), (hM, .inr (1, [.ref hW, .ref hT, .int 0])), (hW, .inl (cW, 2048, .inl (fun _ => 0))), (hF, .inr (0, [.int 0, .int 0, .int 0, .int 0]))] := hD
        refine W.widen (k := 0) (n := 0) (by decide) (by decide) ?_
        try dsimp only at hw_5
        obtain rfl := hw_5
        refine q_toc (y := 1) (by first | rfl | decide) ?_
        refine lv_istore_n (lv' := [(3, .int 1), (2, .int 0), (0, .ref h0), (1, .int n)]) hx hb dX4_run_38 rfl hl (by decide) rfl (fun ls hl => ?_)
        refine lv_iload_n hx hb dX4_run_39 rfl (lv_at hl 0 rfl) ?_
        refine lv_if_eq (tgt := 48) hx hb dX4_run_40 (by decide) (fun c9 => absurd c9 (by decide)) (fun c_8 => ?_)
        refine lv_iload_n hx hb dX4_run_43 rfl (lv_at hl 0 rfl) ?_
        refine lv_iconst (v := 1) hx hb dX4_run_44 (by decide) ?_
        refine lv_icmp_ne (tgt := 58) hx hb dX4_run_45 (by decide) (fun c9 => absurd (by decide) c9) (fun c_9 => ?_)
        refine lv_aload_n hx hb dX4_run_48 rfl (lv_at hl 2 rfl) ?_
        refine lv_dup hx hb dX4_run_49 rfl ?_
        refine va_get (D := (dC, dI)) (ci := 4) (v := .int 0) (C := RX4) (T := TX4) (N := 3) hx hb hts (by decide +kernel) hown hK hP 0 rfl rfl 2 (by decide) (hts (.fieldLink RX4 70 "WordGuest" "latestSteps" "I") (by decide +kernel)) (fun _ h9 => h9) rfl dX4_run_50 ?_
        refine lv_iconst (v := 1) hx hb dX4_run_53 (by decide) ?_
        refine lv_iadd hx hb dX4_run_54 ?_
        refine q_toc (y := 1) (by decide) ?_
        refine va_put (D := (dC, dI)) (ci := 4) (v := .int 1) (ty := .int) (C := RX4) (T := TX4) (N := 3) hx hb hts (by decide +kernel) tyX4 tyX4_ok nmX4 hown hK hP hD hS 0 rfl rfl 2 (by decide) (hts (.fieldLink RX4 70 "WordGuest" "latestSteps" "I") (by decide +kernel)) (fun _ h9 => h9) rfl (by decide +kernel) rfl rfl (Nat.le_of_ble_eq_true rfl) dX4_run_55 (fun H locs hP hD hS => ?_)
        have hP : va_P (dC, dI) vwCl [(h0, .inr (4, [.ref hM, .ref hP, .int 1])), (hP, .inr (3, [.ref hR, .ref hF])), (hR, .inr (2, [.ref hM, .ref hA, .ref hB, .int 0])), (hA, .inl (cA, 8, .inl regs2_6)), (hB, .inl (cB, 8, .inl regsB2_7)), (hM, .inr (1, [.ref hW, .ref hT, .int 0])), (hW, .inl (cW, 2048, .inl (fun _ => 0))), (hF, .inr (0, [.int 0, .int 0, .int 0, .int 0]))] H := hP
        have hD : va_D A [(h0, .inr (4, [.ref hM, .ref hP, .int 1])), (hP, .inr (3, [.ref hR, .ref hF])), (hR, .inr (2, [.ref hM, .ref hA, .ref hB, .int 0])), (hA, .inl (cA, 8, .inl regs2_6)), (hB, .inl (cB, 8, .inl regsB2_7)), (hM, .inr (1, [.ref hW, .ref hT, .int 0])), (hW, .inl (cW, 2048, .inl (fun _ => 0))), (hF, .inr (0, [.int 0, .int 0, .int 0, .int 0]))] := hD
        refine lv_iload_n hx hb dX4_run_58 rfl (lv_at hl 0 rfl) ?_
        refine lv_if_eq (tgt := 64) hx hb dX4_run_59 (by decide) (fun c9 => absurd c9 (by decide)) (fun c_10 => ?_)
        refine lv_iload_n hx hb dX4_run_62 rfl (lv_at hl 0 rfl) ?_
        have hP9 := hP.sub (ws' := [(h0, .inr (4, [.ref hM, .ref hP, .int 1])), (hP, .inr (3, [.ref hR, .ref hF])), (hR, .inr (2, [.ref hM, .ref hA, .ref hB, .int 0])), (hA, .inl (cA, 8, .inl regs2_6)), (hB, .inl (cB, 8, .inl regsB2_7)), (hM, .inr (1, [.ref hW, .ref hT, .int 0])), (hW, .inl (cW, 2048, .inl (fun _ => 0))), (hF, .inr (0, [.int 0, .int 0, .int 0, .int 0]))]) [0, 1, 2, 3, 4, 5, 6, 7] rfl
        have hD9 := hD.sub (ws' := [(h0, .inr (4, [.ref hM, .ref hP, .int 1])), (hP, .inr (3, [.ref hR, .ref hF])), (hR, .inr (2, [.ref hM, .ref hA, .ref hB, .int 0])), (hA, .inl (cA, 8, .inl regs2_6)), (hB, .inl (cB, 8, .inl regsB2_7)), (hM, .inr (1, [.ref hW, .ref hT, .int 0])), (hW, .inl (cW, 2048, .inl (fun _ => 0))), (hF, .inr (0, [.int 0, .int 0, .int 0, .int 0]))]) [0, 1, 2, 3, 4, 5, 6, 7] (by decide) rfl
        have hK9 := hK.sub (tys' := [(cA, .int), (cB, .int), (cW, .int)]) [0, 1, 2] rfl
        refine vx_ret ?_
        refine W.widen (k := 1) (n := 6) (by decide) (by decide) ?_
        exact W.iret (v := 1) hx hb hr (fun t ht hW => ⟨⟨1, (1, regs2_6, regsB2_7), rfl, ⟨by rw [if_neg c_3], fun h => h.elim c_1 (fun h => absurd c_2 (Int32.not_le.mpr h))⟩, by rw [ht]; exact hP9, va_K.moved hW.alike hK9, hD9⟩, hS.F ht⟩) hS.2.2 dX4_run_63
    · refine vx_throw0 (names := ["java/lang/RuntimeException", "java/lang/Exception"]) (A := A) hx hb hl0 hown (by decide +kernel) (by decide +kernel) (hts (.classLink RX4 67 "java/lang/IllegalArgumentException") (by decide +kernel)) (hts (.initialized "java/lang/IllegalArgumentException") (by decide +kernel)) (vx_hat (B := q_nl) (fun w9 h9 => hts w9 (List.mem_cons_of_mem _ (List.mem_append_right _ h9))) (by decide +kernel) (fun w9 h9 => va_Nw.use (q_nl_on w9 h9) (hN w9 h9))) (by decide +kernel) hT.1 hT.2 hS (hl.1.trans hml.symm) dX4_run_11 dX4_run_14 dX4_run_15 dX4_run_18 (fun x9 h9 => (htab x9 h9).elim) (by decide) (by decide) (by decide) (by decide) hlocks (fun t9 hal hz9 hk9 => ⟨(), (Or.inr (Int32.not_le.mp c_2)), rfl, ⟨hz9, fun q h1 _ => hk9 q h1⟩⟩) hS.2.2 (by decide) (by decide)
set_option maxHeartbeats 4000000 in
set_option maxRecDepth 100000 in
theorem c_X4_output0 (l : Launch) (hl0 : l.stackTraces = false) (dC : Nat → ClassId) (dI : Nat → Nat → Nat) (sz : Nat) (h0 : Nat) (hM : Nat) (hP : Nat) (st : Int32) (hW : Nat) (hT : Nat) (k : Int32)  : vx_Met l yX4_output wsX4_output ({ frames := 6, cells := 1, slots := 6, locals := 89 }) (va_Pc [.ref h0, .int k] (q_prx dC dI sz [(h0, .inr (4, [.ref hM, .ref hP, .int st])), (hM, .inr (1, [.ref hW, .ref hT, .int 0]))] [])) (va_Qi (fun (r : Int32) (u9 : Unit) => False) (q_at dC dI (va_A [(h0, .inr (4, [.ref hM, .ref hP, .int st])), (hM, .inr (1, [.ref hW, .ref hT, .int 0]))] sz) (fun (u9 : Unit) => []) (fun (u9 : Unit) => [(h0, .inr (4, [.ref hM, .ref hP, .int st])), (hM, .inr (1, [.ref hW, .ref hT, .int 0]))])) (va_A [(h0, .inr (4, [.ref hM, .ref hP, .int st])), (hM, .inr (1, [.ref hW, .ref hT, .int 0]))] sz)) (vx_X (fun (_ : Unit) => True) (fun E9 _ _ => E9 = "java/lang/IndexOutOfBoundsException") (fun q => sz ≤ q)) 1 6 (va_A [(h0, .inr (4, [.ref hM, .ref hP, .int st])), (hM, .inr (1, [.ref hW, .ref hT, .int 0]))] sz) := by
  refine vx_ofW (cc := cX4_output) (maxL := 2) (ret := (some .int)) (by decide) rfl ?_
  intro p e s m args below meth c s₁ B hml htab hv
  obtain ⟨rfl, ⟨hsz, hP, hK, hD0, hN⟩, hT⟩ := hv
  have hx := B.exec
  have hb := B.bytes
  have hr := B.returns
  have hts := atoms_spec (ws := wsX4_output) B.pre
  have hown : s.vm.findClass RX4 = some m.cls := findClass_of_methodNamed B.named
  have hlocks := B.notSynchronized
  subst hsz
  have hD := hD0.self (sz := s.heap.size)
  generalize hAe : va_A [(h0, .inr (4, [.ref hM, .ref hP, .int st])), (hM, .inr (1, [.ref hW, .ref hT, .int 0]))] s.heap.size = A at hD hT ⊢
  have hA : ∀ q : Nat, s.heap.size ≤ q → A q := fun q h => by rw [← hAe]; exact Or.inr h
  have hS : va_S A s.heap s.heap [] := va_S.rf
  have hP : va_P (dC, dI) vwCl [(h0, .inr (4, [.ref hM, .ref hP, .int st])), (hM, .inr (1, [.ref hW, .ref hT, .int 0]))] s.heap := hP
  have hl := lv_entry ([.ref h0, .int k]) (n := 2) (Nat.le_of_ble_eq_true rfl)
  rw [lg_entry_eq]
  generalize (lg_sl ([.ref h0, .int k]) ++ List.replicate (2 - (lg_sl ([.ref h0, .int k])).length) Slot.unset).toArray = ls at hl ⊢
  have hl : lv_has ls 2 [(0, .ref h0), (1, .int k)] := hl
  refine lv_iload_n hx hb dX4_output_0 rfl (lv_at hl 1 rfl) ?_
  refine lv_if_lt (tgt := 15) hx hb dX4_output_1 (by decide) (fun c_1 => ?_) (fun c_1 => ?_)
  · refine vx_throw0 (names := ["java/lang/RuntimeException", "java/lang/Exception"]) (A := A) hx hb hl0 hown (by decide +kernel) (by decide +kernel) (hts (.classLink RX4 80 "java/lang/IndexOutOfBoundsException") (by decide +kernel)) (hts (.initialized "java/lang/IndexOutOfBoundsException") (by decide +kernel)) (vx_hat (B := q_nl) (fun w9 h9 => hts w9 (List.mem_cons_of_mem _ (List.mem_append_right _ h9))) (by decide +kernel) (fun w9 h9 => va_Nw.use (q_nl_on w9 h9) (hN w9 h9))) (by decide +kernel) hT.1 hT.2 hS (hl.1.trans hml.symm) dX4_output_15 dX4_output_18 dX4_output_19 dX4_output_22 (fun x9 h9 => (htab x9 h9).elim) (by decide) (by decide) (by decide) (by decide) hlocks (fun t9 hal hz9 hk9 => ⟨(), trivial, rfl, ⟨hz9, fun q h1 _ => hk9 q h1⟩⟩) hS.2.2 (by decide) (by decide)
  · refine lv_iload_n hx hb dX4_output_4 rfl (lv_at hl 1 rfl) ?_
    refine lv_aload_n hx hb dX4_output_5 rfl (lv_at hl 0 rfl) ?_
    refine va_get (D := (dC, dI)) (ci := 4) (v := .ref hM) (C := RX4) (T := TX4) (N := 3) hx hb hts (by decide +kernel) hown hK hP 0 rfl rfl 0 (by decide) (hts (.fieldLink RX4 12 "WordGuest" "memory" "LWordGuest$Memory;") (by decide +kernel)) (fun _ h9 => h9) rfl dX4_output_6 ?_
    refine va_getN (D := (dC, dI)) (ci := 1) (v := .int 0) (C := RX1) (T := TX1) (N := 3) hx hb hts (by decide +kernel) hown hK hP 1 rfl rfl 2 (by decide) ((va_Nw.use rfl (hN _ (List.mem_of_getElem? (i := 2) rfl)))) (fun _ h9 => h9) rfl dX4_output_9 ?_
    refine lv_icmp_lt (tgt := 23) hx hb dX4_output_12 (by decide) (fun c9 => absurd c9 c_1) (fun c_2 => ?_)
    refine vx_throw0 (names := ["java/lang/RuntimeException", "java/lang/Exception"]) (A := A) hx hb hl0 hown (by decide +kernel) (by decide +kernel) (hts (.classLink RX4 80 "java/lang/IndexOutOfBoundsException") (by decide +kernel)) (hts (.initialized "java/lang/IndexOutOfBoundsException") (by decide +kernel)) (vx_hat (B := q_nl) (fun w9 h9 => hts w9 (List.mem_cons_of_mem _ (List.mem_append_right _ h9))) (by decide +kernel) (fun w9 h9 => va_Nw.use (q_nl_on w9 h9) (hN w9 h9))) (by decide +kernel) hT.1 hT.2 hS (hl.1.trans hml.symm) dX4_output_15 dX4_output_18 dX4_output_19 dX4_output_22 (fun x9 h9 => (htab x9 h9).elim) (by decide) (by decide) (by decide) (by decide) hlocks (fun t9 hal hz9 hk9 => ⟨(), trivial, rfl, ⟨hz9, fun q h1 _ => hk9 q h1⟩⟩) hS.2.2 (by decide) (by decide)
