set_option maxHeartbeats 40000000 in
set_option maxRecDepth 100000 in
theorem whole_start {p : Program} {e : Env} {s : State} {m : MethodId} {below : List Frame} {meth : Method} {c : Code} (l : Launch) (hl0 : l.stackTraces = false) {b L : Nat} {xs : Nat → Int32} (hL : L ≤ 7) (C0 : lw_At p s m meth c b L xs) : W p l e room_1 s m #[Value.ref b] below meth c s.heap [] 0 0 (lw_Z below #[Value.ref b] s) (entryFrame m ([Value.ref b] : List Value).toArray 7) := by
  obtain ⟨hx, hb, hr, hml, hown, hts0, hX, hbl, hlocks, hgv⟩ := id C0
  have hts : ∀ w ∈ wsL_law, w.before #[Value.ref b] s = true := fun w h => hts0 w (wsL_law_in w h)
  have hown : s.vm.findClass RL = some m.cls := hown
  obtain ⟨A, hAe⟩ : ∃ A : Nat → Prop, A = (fun q => s.heap.size ≤ q) := ⟨_, rfl⟩
  have hA : ∀ q : Nat, s.heap.size ≤ q → A q := fun q h => by rw [hAe]; exact h
  have hbA : ¬ A b := by rw [hAe]; exact Nat.not_le.mpr hbl
  obtain ⟨c0, iS0, hKn0⟩ := u_known (C := RX0) (T := TX0) (N := 4) (n := 4) hts inlX0 (hts (.instantiable RX0 4) (by decide +kernel))
  obtain ⟨c1, iS1, hKn1⟩ := u_known (C := RX1) (T := TX1) (N := 3) (n := 3) hts inlX1 (hts (.instantiable RX1 3) (by decide +kernel))
  obtain ⟨c2, iS2, hKn2⟩ := u_known (C := RX2) (T := TX2) (N := 4) (n := 4) hts inlX2 (hts (.instantiable RX2 4) (by decide +kernel))
  obtain ⟨c3, iS3, hKn3⟩ := u_known (C := RX3) (T := TX3) (N := 2) (n := 2) hts inlX3 (hts (.instantiable RX3 2) (by decide +kernel))
  obtain ⟨c4, iS4, hKn4⟩ := u_known (C := RX4) (T := TX4) (N := 3) (n := 3) hts inlX4 (hts (.instantiable RX4 3) (by decide +kernel))
  obtain ⟨c5, iS5, hKn5⟩ := u_known (C := RX5) (T := TX5) (N := 17) (n := 17) hts inlX5 (hts (.instantiable RX5 17) (by decide +kernel))
  obtain ⟨dC, dI, hKc⟩ : ∃ (dC : Nat → ClassId) (dI : Nat → Nat → Nat), ∀ (k : Nat) (q : vw_C), vwCl[k]? = some q → u_Kn s q.1 q.2.1 q.2.2 (dC k) (dI k) := by
    refine ⟨fun k => if k = 0 then c0 else if k = 1 then c1 else if k = 2 then c2 else if k = 3 then c3 else if k = 4 then c4 else c5, fun k => if k = 0 then iS0 else if k = 1 then iS1 else if k = 2 then iS2 else if k = 3 then iS3 else if k = 4 then iS4 else iS5, ?_⟩
    intro k q hq
    match k, hq with
    | 0, hq => cases hq; exact hKn0
    | 1, hq => cases hq; exact hKn1
    | 2, hq => cases hq; exact hKn2
    | 3, hq => cases hq; exact hKn3
    | 4, hq => cases hq; exact hKn4
    | 5, hq => cases hq; exact hKn5
    | k + 6, hq => simp [vwCl] at hq
  have hS : va_S A s.heap s.heap [] := va_S.rf
  have hK : va_K (dC, dI) vwCl [] s := ⟨hKc, fun k q h => by simp at h⟩
  have hP : va_P (dC, dI) vwCl [] s.heap := fun k q h => by simp at h
  have hD : va_D A [] := ⟨fun i j p q h => by simp at h, fun k q h => by simp at h⟩
  have hN : nst s := fun w hw => va_Nw.of (q_nl_on w hw) (hts0 w (q_nl_in w hw))
  have hfl := flat_of_before _ hgv
  have hAn : ∀ a : Nat, a < s.heap.size → ¬ A a := fun a h => by rw [hAe]; exact Nat.not_le.mpr h
  have hT : q_thr A s s.heap := ⟨vx_Zqof (hts0 (.laysStatic Bundle.tN "UNASSIGNED_STACK" Bundle.steD) (by decide +kernel)) (hts0 (.initialized Bundle.tN) (by decide +kernel)) (hfl (.isRef (.static Bundle.tN "UNASSIGNED_STACK" Bundle.steD)) (by decide +kernel)) hAn, vx_Zqof (hts0 (.laysStatic Bundle.tN "SUPPRESSED_SENTINEL" Bundle.listD) (by decide +kernel)) (hts0 (.initialized Bundle.tN) (by decide +kernel)) (hfl (.isRef (.static Bundle.tN "SUPPRESSED_SENTINEL" Bundle.listD)) (by decide +kernel)) hAn⟩
  have hl := lv_entry ([.ref b]) (n := 7) (Nat.le_of_ble_eq_true rfl)
  rw [lg_entry_eq]
  generalize (lg_sl ([.ref b]) ++ List.replicate (7 - (lg_sl ([.ref b])).length) Slot.unset).toArray = ls at hl ⊢
  have hl : lv_has ls 7 [(0, .ref b)] := hl
  refine va_new (ci := 4) (fs := [.null, .null, .int 0]) (C := RX4) (T := TX4) (N := 3) hx hb hts inlX4 tyX4 tyX4_ok hown (hts (.classLink RL 8 RX4) (by decide +kernel)) (hts (.instantiable RX4 3) (by decide +kernel)) (hts (.initialized RX4) (by decide +kernel)) hK hP hD hS hA rfl (fun j hj => by rcases (show j = 0 ∨ j = 1 ∨ j = 2 by omega) with rfl | rfl | rfl <;> rfl) (show 0 + 1 ≤ 21 from by omega) (show 0 + 3 ≤ 7050 from by omega) dL_law_0 (fun q_1 H hP hD hS => ?_)
  have hP : va_P (dC, dI) vwCl [(q_1, .inr (4, [.null, .null, .int 0]))] H := hP
  have hD : va_D A [(q_1, .inr (4, [.null, .null, .int 0]))] := hD
  refine W.widen (k := 1) (n := 3) (by omega) (by omega) ?_
  refine lv_dup hx hb dL_law_3 rfl ?_
  have hPc := hP.sub (ws' := [(q_1, .inr (4, [.null, .null, .int 0]))]) [0] rfl
  have hDc := hD.sub (ws' := [(q_1, .inr (4, [.null, .null, .int 0]))]) [0] (by decide) rfl
  have hKc := hK.sub (tys' := []) [] rfl
  have hFc := va_free (wc := [(q_1, .inr (4, [.null, .null, .int 0]))]) hD hS hA [0] rfl
  refine va_callv (va_runI (b := q_1) (As := []) (rest := [.ref q_1]) ⟨hx, hb, hml, hown, hts⟩ (c_X4_init l dC dI H.size q_1) (cwI 0 hts gL_law_X4_init rfl rfl rfl (hts (.initialized RX4) (by decide +kernel)) (hts (.methodLink RL 38 yX4_init) (by decide +kernel)) (hts (.instanceMethod yX4_init) (by decide +kernel)) rfl (by decide +kernel) ⟨Nat.le_of_ble_eq_true rfl, Nat.le_of_ble_eq_true rfl⟩) ⟨q_blind, fun U hU hW => ⟨rfl, q_pay hU hW hPc hKc hDc hN⟩⟩ rfl rfl hl.1 rfl (lv_room (Nat.le_of_ble_eq_true rfl)) dL_law_4 ⟨show 1 + 8 ≤ 21 from by omega, show 3 + 2477 ≤ 7050 from by omega⟩) hS (fun q _ h => hFc q h) hFc (fun u9 t H locs ht hvm hw_3 hB hz1 hk1 hS => ?_)
  obtain ⟨aM_4, aP_5, aW_6, aT_7, cW_8, cT_9, aR_10, aF_11, aA_12, aB_13, cA_14, cB_15⟩ := u9
  obtain ⟨hP1, hK1, hD1⟩ := hB
  rw [ht] at hP1
  obtain ⟨hP, hD⟩ := va_join (wr := []) (w1 := [(q_1, .inr (4, [.ref aM_4, .ref aP_5, .int 0])), (aM_4, .inr (1, [.ref aW_6, .ref aT_7, .int 0])), (aW_6, .inl (cW_8, 2048, .inl (fun _ => 0))), (aT_7, .inl (cT_9, 400, .inl (fun _ => 0))), (aP_5, .inr (3, [.ref aR_10, .ref aF_11])), (aR_10, .inr (2, [.ref aM_4, .ref aA_12, .ref aB_13, .int 0])), (aA_12, .inl (cA_14, 8, .inl (fun _ => 0))), (aB_13, .inl (cB_15, 8, .inl (fun _ => 0))), (aF_11, .inr (0, [.int 0, .int 0, .int 0, .int 0]))]) hP hD [0] [] rfl rfl (by decide) (by decide) hk1 hFc hP1 hD1
  have hP : va_P (dC, dI) vwCl [(q_1, .inr (4, [.ref aM_4, .ref aP_5, .int 0])), (aM_4, .inr (1, [.ref aW_6, .ref aT_7, .int 0])), (aW_6, .inl (cW_8, 2048, .inl (fun _ => 0))), (aT_7, .inl (cT_9, 400, .inl (fun _ => 0))), (aP_5, .inr (3, [.ref aR_10, .ref aF_11])), (aR_10, .inr (2, [.ref aM_4, .ref aA_12, .ref aB_13, .int 0])), (aA_12, .inl (cA_14, 8, .inl (fun _ => 0))), (aB_13, .inl (cB_15, 8, .inl (fun _ => 0))), (aF_11, .inr (0, [.int 0, .int 0, .int 0, .int 0]))] H := hP
  have hD : va_D A [(q_1, .inr (4, [.ref aM_4, .ref aP_5, .int 0])), (aM_4, .inr (1, [.ref aW_6, .ref aT_7, .int 0])), (aW_6, .inl (cW_8, 2048, .inl (fun _ => 0))), (aT_7, .inl (cT_9, 400, .inl (fun _ => 0))), (aP_5, .inr (3, [.ref aR_10, .ref aF_11])), (aR_10, .inr (2, [.ref aM_4, .ref aA_12, .ref aB_13, .int 0])), (aA_12, .inl (cA_14, 8, .inl (fun _ => 0))), (aB_13, .inl (cB_15, 8, .inl (fun _ => 0))), (aF_11, .inr (0, [.int 0, .int 0, .int 0, .int 0]))] := hD
  have hK := hK.app (va_K.moved hvm.symm hK1)
  have hK : va_K (dC, dI) vwCl [(cW_8, .int), (cT_9, .int), (cA_14, .int), (cB_15, .int)] s := hK
  refine W.widen (k := 9) (n := 2480) (by omega) (by omega) ?_
  try dsimp only at hw_3
  refine lv_astore_n (lv' := [(1, .ref q_1), (0, .ref b)]) hx hb dL_law_7 rfl hl (by decide) rfl (fun ls hl => ?_)
  refine va_new (ci := 5) (fs := [.int 0, .null, .null, .int 0, .null, .int 0, .int 0, .null, .int 0, .int 0, .int 0, .int 0, .int 0, .int 0, .int 0, .int 0, .int 0]) (C := RX5) (T := TX5) (N := 17) hx hb hts inlX5 tyX5 tyX5_ok hown (hts (.classLink RL 39 RX5) (by decide +kernel)) (hts (.instantiable RX5 17) (by decide +kernel)) (hts (.initialized RX5) (by decide +kernel)) hK hP hD hS hA rfl (fun j hj => by rcases (show j = 0 ∨ j = 1 ∨ j = 2 ∨ j = 3 ∨ j = 4 ∨ j = 5 ∨ j = 6 ∨ j = 7 ∨ j = 8 ∨ j = 9 ∨ j = 10 ∨ j = 11 ∨ j = 12 ∨ j = 13 ∨ j = 14 ∨ j = 15 ∨ j = 16 by omega) with rfl | rfl | rfl | rfl | rfl | rfl | rfl | rfl | rfl | rfl | rfl | rfl | rfl | rfl | rfl | rfl | rfl <;> rfl) (show 9 + 1 ≤ 21 from by omega) (show 2480 + 17 ≤ 7050 from by omega) dL_law_8 (fun q_16 H hP hD hS => ?_)
  have hP : va_P (dC, dI) vwCl [(q_1, .inr (4, [.ref aM_4, .ref aP_5, .int 0])), (aM_4, .inr (1, [.ref aW_6, .ref aT_7, .int 0])), (aW_6, .inl (cW_8, 2048, .inl (fun _ => 0))), (aT_7, .inl (cT_9, 400, .inl (fun _ => 0))), (aP_5, .inr (3, [.ref aR_10, .ref aF_11])), (aR_10, .inr (2, [.ref aM_4, .ref aA_12, .ref aB_13, .int 0])), (aA_12, .inl (cA_14, 8, .inl (fun _ => 0))), (aB_13, .inl (cB_15, 8, .inl (fun _ => 0))), (aF_11, .inr (0, [.int 0, .int 0, .int 0, .int 0])), (q_16, .inr (5, [.int 0, .null, .null, .int 0, .null, .int 0, .int 0, .null, .int 0, .int 0, .int 0, .int 0, .int 0, .int 0, .int 0, .int 0, .int 0]))] H := hP
  have hD : va_D A [(q_1, .inr (4, [.ref aM_4, .ref aP_5, .int 0])), (aM_4, .inr (1, [.ref aW_6, .ref aT_7, .int 0])), (aW_6, .inl (cW_8, 2048, .inl (fun _ => 0))), (aT_7, .inl (cT_9, 400, .inl (fun _ => 0))), (aP_5, .inr (3, [.ref aR_10, .ref aF_11])), (aR_10, .inr (2, [.ref aM_4, .ref aA_12, .ref aB_13, .int 0])), (aA_12, .inl (cA_14, 8, .inl (fun _ => 0))), (aB_13, .inl (cB_15, 8, .inl (fun _ => 0))), (aF_11, .inr (0, [.int 0, .int 0, .int 0, .int 0])), (q_16, .inr (5, [.int 0, .null, .null, .int 0, .null, .int 0, .int 0, .null, .int 0, .int 0, .int 0, .int 0, .int 0, .int 0, .int 0, .int 0, .int 0]))] := hD
  refine W.widen (k := 10) (n := 2497) (by omega) (by omega) ?_
  refine lv_dup hx hb dL_law_11 rfl ?_
  have hPc := hP.sub (ws' := [(q_16, .inr (5, [.int 0, .null, .null, .int 0, .null, .int 0, .int 0, .null, .int 0, .int 0, .int 0, .int 0, .int 0, .int 0, .int 0, .int 0, .int 0]))]) [9] rfl
  have hDc := hD.sub (ws' := [(q_16, .inr (5, [.int 0, .null, .null, .int 0, .null, .int 0, .int 0, .null, .int 0, .int 0, .int 0, .int 0, .int 0, .int 0, .int 0, .int 0, .int 0]))]) [9] (by decide) rfl
  have hKc := hK.sub (tys' := []) [] rfl
  have hFc := va_free (wc := [(q_16, .inr (5, [.int 0, .null, .null, .int 0, .null, .int 0, .int 0, .null, .int 0, .int 0, .int 0, .int 0, .int 0, .int 0, .int 0, .int 0, .int 0]))]) hD hS hA [9] rfl
  refine va_callv (va_runI (b := q_16) (As := []) (rest := [.ref q_16]) ⟨hx, hb, hml, hown, hts⟩ (c_X5_init l dC dI H.size q_16) (cwI 0 hts gL_law_X5_init rfl rfl rfl (hts (.initialized RX5) (by decide +kernel)) (hts (.methodLink RL 41 yX5_init) (by decide +kernel)) (hts (.instanceMethod yX5_init) (by decide +kernel)) rfl (by decide +kernel) ⟨Nat.le_of_ble_eq_true rfl, Nat.le_of_ble_eq_true rfl⟩) ⟨q_blind, fun U hU hW => ⟨rfl, q_pay hU hW hPc hKc hDc hN⟩⟩ rfl rfl hl.1 rfl (lv_room (Nat.le_of_ble_eq_true rfl)) dL_law_12 ⟨show 10 + 4 ≤ 21 from by omega, show 2497 + 4512 ≤ 7050 from by omega⟩) hS (fun q _ h => hFc q h) hFc (fun u9 t H locs ht hvm hw_18 hB hz1 hk1 hS => ?_)
  obtain ⟨mB_19, mR_20, mO_21, mN_22, cY_23, cG_24, cO_25, cN_26⟩ := u9
  obtain ⟨hP1, hK1, hD1⟩ := hB
  rw [ht] at hP1
  obtain ⟨hP, hD⟩ := va_join (wr := [(q_1, .inr (4, [.ref aM_4, .ref aP_5, .int 0])), (aM_4, .inr (1, [.ref aW_6, .ref aT_7, .int 0])), (aW_6, .inl (cW_8, 2048, .inl (fun _ => 0))), (aT_7, .inl (cT_9, 400, .inl (fun _ => 0))), (aP_5, .inr (3, [.ref aR_10, .ref aF_11])), (aR_10, .inr (2, [.ref aM_4, .ref aA_12, .ref aB_13, .int 0])), (aA_12, .inl (cA_14, 8, .inl (fun _ => 0))), (aB_13, .inl (cB_15, 8, .inl (fun _ => 0))), (aF_11, .inr (0, [.int 0, .int 0, .int 0, .int 0]))]) (w1 := [(q_16, .inr (5, [.int 0, .ref mB_19, .ref mR_20, .int 0, .ref mO_21, .int 0, .int 0, .ref mN_22, .int 0, .int 0, .int 0, .int 0, .int 0, .int 0, .int 0, .int 0, .int 0])), (mB_19, .inl (cY_23, 4096, .inl (fun _ => 0))), (mR_20, .inl (cG_24, 8, .inl (fun _ => 0))), (mO_21, .inl (cO_25, 400, .inl (fun _ => 0))), (mN_22, .inl (cN_26, 8, .inl (fun _ => 0)))]) hP hD [9] [0, 1, 2, 3, 4, 5, 6, 7, 8] rfl rfl (by decide) (by decide) hk1 hFc hP1 hD1
  have hP : va_P (dC, dI) vwCl [(q_1, .inr (4, [.ref aM_4, .ref aP_5, .int 0])), (aM_4, .inr (1, [.ref aW_6, .ref aT_7, .int 0])), (aW_6, .inl (cW_8, 2048, .inl (fun _ => 0))), (aT_7, .inl (cT_9, 400, .inl (fun _ => 0))), (aP_5, .inr (3, [.ref aR_10, .ref aF_11])), (aR_10, .inr (2, [.ref aM_4, .ref aA_12, .ref aB_13, .int 0])), (aA_12, .inl (cA_14, 8, .inl (fun _ => 0))), (aB_13, .inl (cB_15, 8, .inl (fun _ => 0))), (aF_11, .inr (0, [.int 0, .int 0, .int 0, .int 0])), (q_16, .inr (5, [.int 0, .ref mB_19, .ref mR_20, .int 0, .ref mO_21, .int 0, .int 0, .ref mN_22, .int 0, .int 0, .int 0, .int 0, .int 0, .int 0, .int 0, .int 0, .int 0])), (mB_19, .inl (cY_23, 4096, .inl (fun _ => 0))), (mR_20, .inl (cG_24, 8, .inl (fun _ => 0))), (mO_21, .inl (cO_25, 400, .inl (fun _ => 0))), (mN_22, .inl (cN_26, 8, .inl (fun _ => 0)))] H := hP
  have hD : va_D A [(q_1, .inr (4, [.ref aM_4, .ref aP_5, .int 0])), (aM_4, .inr (1, [.ref aW_6, .ref aT_7, .int 0])), (aW_6, .inl (cW_8, 2048, .inl (fun _ => 0))), (aT_7, .inl (cT_9, 400, .inl (fun _ => 0))), (aP_5, .inr (3, [.ref aR_10, .ref aF_11])), (aR_10, .inr (2, [.ref aM_4, .ref aA_12, .ref aB_13, .int 0])), (aA_12, .inl (cA_14, 8, .inl (fun _ => 0))), (aB_13, .inl (cB_15, 8, .inl (fun _ => 0))), (aF_11, .inr (0, [.int 0, .int 0, .int 0, .int 0])), (q_16, .inr (5, [.int 0, .ref mB_19, .ref mR_20, .int 0, .ref mO_21, .int 0, .int 0, .ref mN_22, .int 0, .int 0, .int 0, .int 0, .int 0, .int 0, .int 0, .int 0, .int 0])), (mB_19, .inl (cY_23, 4096, .inl (fun _ => 0))), (mR_20, .inl (cG_24, 8, .inl (fun _ => 0))), (mO_21, .inl (cO_25, 400, .inl (fun _ => 0))), (mN_22, .inl (cN_26, 8, .inl (fun _ => 0)))] := hD
  have hK := hK.app (va_K.moved hvm.symm hK1)
  have hK : va_K (dC, dI) vwCl [(cW_8, .int), (cT_9, .int), (cA_14, .int), (cB_15, .int), (cY_23, .int), (cG_24, .int), (cO_25, .int), (cN_26, .int)] s := hK
  refine W.widen (k := 14) (n := 7009) (by omega) (by omega) ?_
  try dsimp only at hw_18
  refine lv_astore_n (lv' := [(2, .ref q_16), (1, .ref q_1), (0, .ref b)]) hx hb dL_law_15 rfl hl (by decide) rfl (fun ls hl => ?_)
  refine lv_iconst (v := 1) hx hb dL_law_16 (by decide) ?_
  refine va_newa (atype := .long) (a0 := (1, .inr (.inl (fun _ => 0)))) (N' := 1) (ty := .long) hx hb (hts (.arrayClass .long) (by decide +kernel)) rfl hK hP hD hS hA (fun _ => q_zl _ _) (by decide) (by decide) (by decide) (show 14 + 1 ≤ 21 from by omega) (show 7009 + 1 ≤ 7050 from by omega) dL_law_17 (fun q_27 cA_28 H hK hP hD hS => ?_)
  have hP : va_P (dC, dI) vwCl [(q_1, .inr (4, [.ref aM_4, .ref aP_5, .int 0])), (aM_4, .inr (1, [.ref aW_6, .ref aT_7, .int 0])), (aW_6, .inl (cW_8, 2048, .inl (fun _ => 0))), (aT_7, .inl (cT_9, 400, .inl (fun _ => 0))), (aP_5, .inr (3, [.ref aR_10, .ref aF_11])), (aR_10, .inr (2, [.ref aM_4, .ref aA_12, .ref aB_13, .int 0])), (aA_12, .inl (cA_14, 8, .inl (fun _ => 0))), (aB_13, .inl (cB_15, 8, .inl (fun _ => 0))), (aF_11, .inr (0, [.int 0, .int 0, .int 0, .int 0])), (q_16, .inr (5, [.int 0, .ref mB_19, .ref mR_20, .int 0, .ref mO_21, .int 0, .int 0, .ref mN_22, .int 0, .int 0, .int 0, .int 0, .int 0, .int 0, .int 0, .int 0, .int 0])), (mB_19, .inl (cY_23, 4096, .inl (fun _ => 0))), (mR_20, .inl (cG_24, 8, .inl (fun _ => 0))), (mO_21, .inl (cO_25, 400, .inl (fun _ => 0))), (mN_22, .inl (cN_26, 8, .inl (fun _ => 0))), (q_27, .inl (cA_28, 1, .inr (.inl (fun _ => 0))))] H := hP
  have hD : va_D A [(q_1, .inr (4, [.ref aM_4, .ref aP_5, .int 0])), (aM_4, .inr (1, [.ref aW_6, .ref aT_7, .int 0])), (aW_6, .inl (cW_8, 2048, .inl (fun _ => 0))), (aT_7, .inl (cT_9, 400, .inl (fun _ => 0))), (aP_5, .inr (3, [.ref aR_10, .ref aF_11])), (aR_10, .inr (2, [.ref aM_4, .ref aA_12, .ref aB_13, .int 0])), (aA_12, .inl (cA_14, 8, .inl (fun _ => 0))), (aB_13, .inl (cB_15, 8, .inl (fun _ => 0))), (aF_11, .inr (0, [.int 0, .int 0, .int 0, .int 0])), (q_16, .inr (5, [.int 0, .ref mB_19, .ref mR_20, .int 0, .ref mO_21, .int 0, .int 0, .ref mN_22, .int 0, .int 0, .int 0, .int 0, .int 0, .int 0, .int 0, .int 0, .int 0])), (mB_19, .inl (cY_23, 4096, .inl (fun _ => 0))), (mR_20, .inl (cG_24, 8, .inl (fun _ => 0))), (mO_21, .inl (cO_25, 400, .inl (fun _ => 0))), (mN_22, .inl (cN_26, 8, .inl (fun _ => 0))), (q_27, .inl (cA_28, 1, .inr (.inl (fun _ => 0))))] := hD
  have hK : va_K (dC, dI) vwCl [(cW_8, .int), (cT_9, .int), (cA_14, .int), (cB_15, .int), (cY_23, .int), (cG_24, .int), (cO_25, .int), (cN_26, .int), (cA_28, .long)] s := hK
  refine W.widen (k := 15) (n := 7010) (by omega) (by omega) ?_
  refine lv_astore_n (lv' := [(3, .ref q_27), (2, .ref q_16), (1, .ref q_1), (0, .ref b)]) hx hb dL_law_19 rfl hl (by decide) rfl (fun ls hl => ?_)
  refine lv_iconst (v := 0) hx hb dL_law_20 (by decide) ?_
  refine lv_istore (lv' := [(4, .int 0), (3, .ref q_27), (2, .ref q_16), (1, .ref q_1), (0, .ref b)]) hx hb dL_law_21 hl (by decide) rfl (fun ls hl => ?_)
  refine lv_iload hx hb dL_law_23 (lv_at hl 0 rfl) ?_
  refine lv_aload_n hx hb dL_law_25 rfl (lv_at hl 4 rfl) ?_
  refine va_slen hx hb hX hbl hbA hS dL_law_26 ?_
  refine lv_bipush (v := 7) hx hb dL_law_27 (by decide) ?_
  refine lv_isub hx hb dL_law_29 ?_
  refine lv_icmp_gt (tgt := 648) hx hb dL_law_30 (by decide) (fun c_29 => ?_) (fun c_29 => ?_)
  · refine lv_iconst (v := 1) hx hb dL_law_648 (by decide) ?_
    refine va_forget (fun q hq => by have h9 := hS.2.2 q hq; rw [hAe] at h9; exact h9) ?_
    refine W.widen (k := 21) (n := 7050) (by omega) (by omega) ?_
    exact lw_ret hx hb hr hlocks dL_law_649
  · have hL7 : L = 7 := q_l7 hL c_29
    refine lv_aload_n hx hb dL_law_33 rfl (lv_at hl 4 rfl) ?_
    refine lv_iload hx hb dL_law_34 (lv_at hl 0 rfl) ?_
    refine va_sld hx hb hX hbl hbA hS (by rw [hL7]; unfold vp_in; decide) dL_law_36 ?_
    refine lv_bipush (v := 15) hx hb dL_law_37 (by decide) ?_
    refine lv_iand hx hb dL_law_39 ?_
    obtain ⟨j9, hj9, ej9⟩ := pk_andE (xs (0 : Int32).toNatClampNeg) (m := 15) 4 (by decide)
    refine q_toc (y := nI j9) ej9 ?_
    rcases (show j9 = 0 ∨ j9 = 1 ∨ j9 = 2 ∨ j9 = 3 ∨ j9 = 4 ∨ j9 = 5 ∨ j9 = 6 ∨ j9 = 7 ∨ j9 = 8 ∨ j9 = 9 ∨ j9 = 10 ∨ j9 = 11 ∨ j9 = 12 ∨ j9 = 13 ∨ j9 = 14 ∨ j9 = 15 by omega) with rfl | rfl | rfl | rfl | rfl | rfl | rfl | rfl | rfl | rfl | rfl | rfl | rfl | rfl | rfl | rfl
    · refine q_toc (y := 0) rfl ?_
      refine lv_tableIn (off := 64) (tgt := 104) hx hb dL_law_40 (by decide) (by decide) (by decide) (by decide) ?_
      exact law_0 hl0 hx hb hr hml hown hts hX hbl hlocks hAe hA hbA hL7 hN hT _ _ _ _ _ _ _ _ _ _ _ _ _ _ _ _ _ _ _ _ _ _ _ _ hK hP hD hS hl
    · refine q_toc (y := 1) rfl ?_
      refine lv_tableIn (off := 182) (tgt := 222) hx hb dL_law_40 (by decide) (by decide) (by decide) (by decide) ?_
      exact law_1 hl0 hx hb hr hml hown hts hX hbl hlocks hAe hA hbA hL7 hN hT _ _ _ _ _ _ _ _ _ _ _ _ _ _ _ _ _ _ _ _ _ _ _ _ hK hP hD hS hl
    · refine q_toc (y := 2) rfl ?_
      refine lv_tableIn (off := 238) (tgt := 278) hx hb dL_law_40 (by decide) (by decide) (by decide) (by decide) ?_
      exact law_2 hl0 hx hb hr hml hown hts hX hbl hlocks hAe hA hbA hL7 hN hT _ _ _ _ _ _ _ _ _ _ _ _ _ _ _ _ _ _ _ _ _ _ _ _ hK hP hD hS hl
    · refine q_toc (y := 3) rfl ?_
      refine lv_tableIn (off := 313) (tgt := 353) hx hb dL_law_40 (by decide) (by decide) (by decide) (by decide) ?_
      exact law_3 hl0 hx hb hr hml hown hts hX hbl hlocks hAe hA hbA hL7 hN hT _ _ _ _ _ _ _ _ _ _ _ _ _ _ _ _ _ _ _ _ _ _ _ _ hK hP hD hS hl
    · refine q_toc (y := 4) rfl ?_
      refine lv_tableIn (off := 369) (tgt := 409) hx hb dL_law_40 (by decide) (by decide) (by decide) (by decide) ?_
      exact law_4 hl0 hx hb hr hml hown hts hX hbl hlocks hAe hA hbA hL7 hN hT _ _ _ _ _ _ _ _ _ _ _ _ _ _ _ _ _ _ _ _ _ _ _ _ hK hP hD hS hl
    · refine q_toc (y := 5) rfl ?_
      refine lv_tableIn (off := 417) (tgt := 457) hx hb dL_law_40 (by decide) (by decide) (by decide) (by decide) ?_
      exact law_5 hl0 hx hb hr hml hown hts hX hbl hlocks hAe hA hbA hL7 hN hT _ _ _ _ _ _ _ _ _ _ _ _ _ _ _ _ _ _ _ _ _ _ _ _ hK hP hD hS hl
    · refine q_toc (y := 6) rfl ?_
      refine lv_tableIn (off := 430) (tgt := 470) hx hb dL_law_40 (by decide) (by decide) (by decide) (by decide) ?_
      exact law_6 hl0 hx hb hr hml hown hts hX hbl hlocks hAe hA hbA hL7 hN hT _ _ _ _ _ _ _ _ _ _ _ _ _ _ _ _ _ _ _ _ _ _ _ _ hK hP hD hS hl
    · refine q_toc (y := 7) rfl ?_
      refine lv_tableIn (off := 453) (tgt := 493) hx hb dL_law_40 (by decide) (by decide) (by decide) (by decide) ?_
      exact law_7 hl0 hx hb hr hml hown hts hX hbl hlocks hAe hA hbA hL7 hN hT _ _ _ _ _ _ _ _ _ _ _ _ _ _ _ _ _ _ _ _ _ _ _ _ hK hP hD hS hl
    · refine q_toc (y := 8) rfl ?_
      refine lv_tableIn (off := 509) (tgt := 549) hx hb dL_law_40 (by decide) (by decide) (by decide) (by decide) ?_
      exact law_8 hl0 hx hb hr hml hown hts hX hbl hlocks hAe hA hbA hL7 hN hT _ _ _ _ _ _ _ _ _ _ _ _ _ _ _ _ _ _ _ _ _ _ _ _ hK hP hD hS hl
    · refine q_toc (y := 9) rfl ?_
      refine lv_tableIn (off := 522) (tgt := 562) hx hb dL_law_40 (by decide) (by decide) (by decide) (by decide) ?_
      exact law_9 hl0 hx hb hr hml hown hts hX hbl hlocks hAe hA hbA hL7 hN hT _ _ _ _ _ _ _ _ _ _ _ _ _ _ _ _ _ _ _ _ _ _ _ _ hK hP hD hS hl
    · refine q_toc (y := 10) rfl ?_
      refine lv_tableIn (off := 578) (tgt := 618) hx hb dL_law_40 (by decide) (by decide) (by decide) (by decide) ?_
      exact law_10 hl0 hx hb hr hml hown hts hX hbl hlocks hAe hA hbA hL7 hN hT _ _ _ _ _ _ _ _ _ _ _ _ _ _ _ _ _ _ _ _ _ _ _ _ hK hP hD hS hl
    · refine q_toc (y := 11) rfl ?_
      refine lv_tableIn (off := 591) (tgt := 631) hx hb dL_law_40 (by decide) (by decide) (by decide) (by decide) ?_
      exact law_11 hl0 hx hb hr hml hown hts hX hbl hlocks hAe hA hbA hL7 hN hT _ _ _ _ _ _ _ _ _ _ _ _ _ _ _ _ _ _ _ _ _ _ _ _ hK hP hD hS hl
    · refine q_toc (y := 12) rfl ?_
      refine lv_tableOut (tgt := 642) hx hb dL_law_40 (Or.inr (by decide)) (by decide) ?_
      exact law_12 hl0 hx hb hr hml hown hts hX hbl hlocks hAe hA hbA hL7 hN hT _ _ _ _ _ _ _ _ _ _ _ _ _ _ _ _ _ _ _ _ _ _ _ _ hK hP hD hS hl
    · refine q_toc (y := 13) rfl ?_
      refine lv_tableOut (tgt := 642) hx hb dL_law_40 (Or.inr (by decide)) (by decide) ?_
      exact law_12 hl0 hx hb hr hml hown hts hX hbl hlocks hAe hA hbA hL7 hN hT _ _ _ _ _ _ _ _ _ _ _ _ _ _ _ _ _ _ _ _ _ _ _ _ hK hP hD hS hl
    · refine q_toc (y := 14) rfl ?_
      refine lv_tableOut (tgt := 642) hx hb dL_law_40 (Or.inr (by decide)) (by decide) ?_
      exact law_12 hl0 hx hb hr hml hown hts hX hbl hlocks hAe hA hbA hL7 hN hT _ _ _ _ _ _ _ _ _ _ _ _ _ _ _ _ _ _ _ _ _ _ _ _ hK hP hD hS hl
    · refine q_toc (y := 15) rfl ?_
      refine lv_tableOut (tgt := 642) hx hb dL_law_40 (Or.inr (by decide)) (by decide) ?_
      exact law_12 hl0 hx hb hr hml hown hts hX hbl hlocks hAe hA hbA hL7 hN hT _ _ _ _ _ _ _ _ _ _ _ _ _ _ _ _ _ _ _ _ _ _ _ _ hK hP hD hS hl
