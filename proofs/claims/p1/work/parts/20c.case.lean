set_option maxHeartbeats 40000000 in
set_option maxRecDepth 100000 in
theorem law_2 {p : Program} {e : Env} {s : State} {m : MethodId} {below : List Frame} {meth : Method} {c : Code} {l : Launch} (hl0 : l.stackTraces = false) {b L : Nat} {xs : Nat → Int32} {A : Nat → Prop} {dC : Nat → ClassId} {dI : Nat → Nat → Nat} (hx : p.tables.exec = Jvm.exec) (hb : c.code = code) (hr : meth.sig.returnType = ret) (hml : c.maxLocals = 7) (hown : s.vm.findClass RL = some m.cls) (hts : ∀ w ∈ wsL_law, w.before #[Value.ref b] s = true) (hX : va_X b L xs s s.heap) (hbl : b < s.heap.size) (hlocks : meth.locks = false) (hAe : A = (fun q => s.heap.size ≤ q)) (hA : ∀ q : Nat, s.heap.size ≤ q → A q) (hbA : ¬ A b) (hL7 : L = 7) (hN : nst s) (hT : q_thr A s s.heap) (q_1 : Nat) (aM_4 : Nat) (aW_6 : Nat) (aT_7 : Nat) (aP_5 : Nat) (aR_10 : Nat) (aA_12 : Nat) (aB_13 : Nat) (aF_11 : Nat) (q_16 : Nat) (mB_19 : Nat) (mR_20 : Nat) (mO_21 : Nat) (mN_22 : Nat) (q_27 : Nat) (cW_8 : ClassId) (cT_9 : ClassId) (cA_14 : ClassId) (cB_15 : ClassId) (cY_23 : ClassId) (cG_24 : ClassId) (cO_25 : ClassId) (cN_26 : ClassId) (cA_28 : ClassId) {H : Heap} {locs : List Loc} {ls : Array Slot} (hK : va_K (dC, dI) vwCl [(cW_8, .int), (cT_9, .int), (cA_14, .int), (cB_15, .int), (cY_23, .int), (cG_24, .int), (cO_25, .int), (cN_26, .int), (cA_28, .long)] s) (hP : va_P (dC, dI) vwCl [(q_1, .inr (4, [.ref aM_4, .ref aP_5, .int 0])), (aM_4, .inr (1, [.ref aW_6, .ref aT_7, .int 0])), (aW_6, .inl (cW_8, 2048, .inl (fun _ => 0))), (aT_7, .inl (cT_9, 400, .inl (fun _ => 0))), (aP_5, .inr (3, [.ref aR_10, .ref aF_11])), (aR_10, .inr (2, [.ref aM_4, .ref aA_12, .ref aB_13, .int 0])), (aA_12, .inl (cA_14, 8, .inl (fun _ => 0))), (aB_13, .inl (cB_15, 8, .inl (fun _ => 0))), (aF_11, .inr (0, [.int 0, .int 0, .int 0, .int 0])), (q_16, .inr (5, [.int 0, .ref mB_19, .ref mR_20, .int 0, .ref mO_21, .int 0, .int 0, .ref mN_22, .int 0, .int 0, .int 0, .int 0, .int 0, .int 0, .int 0, .int 0, .int 0])), (mB_19, .inl (cY_23, 4096, .inl (fun _ => 0))), (mR_20, .inl (cG_24, 8, .inl (fun _ => 0))), (mO_21, .inl (cO_25, 400, .inl (fun _ => 0))), (mN_22, .inl (cN_26, 8, .inl (fun _ => 0))), (q_27, .inl (cA_28, 1, .inr (.inl (fun _ => 0))))] H) (hD : va_D A [(q_1, .inr (4, [.ref aM_4, .ref aP_5, .int 0])), (aM_4, .inr (1, [.ref aW_6, .ref aT_7, .int 0])), (aW_6, .inl (cW_8, 2048, .inl (fun _ => 0))), (aT_7, .inl (cT_9, 400, .inl (fun _ => 0))), (aP_5, .inr (3, [.ref aR_10, .ref aF_11])), (aR_10, .inr (2, [.ref aM_4, .ref aA_12, .ref aB_13, .int 0])), (aA_12, .inl (cA_14, 8, .inl (fun _ => 0))), (aB_13, .inl (cB_15, 8, .inl (fun _ => 0))), (aF_11, .inr (0, [.int 0, .int 0, .int 0, .int 0])), (q_16, .inr (5, [.int 0, .ref mB_19, .ref mR_20, .int 0, .ref mO_21, .int 0, .int 0, .ref mN_22, .int 0, .int 0, .int 0, .int 0, .int 0, .int 0, .int 0, .int 0, .int 0])), (mB_19, .inl (cY_23, 4096, .inl (fun _ => 0))), (mR_20, .inl (cG_24, 8, .inl (fun _ => 0))), (mO_21, .inl (cO_25, 400, .inl (fun _ => 0))), (mN_22, .inl (cN_26, 8, .inl (fun _ => 0))), (q_27, .inl (cA_28, 1, .inr (.inl (fun _ => 0))))]) (hS : va_S A s.heap H locs) (hl : lv_has ls 7 [(4, .int 0), (3, .ref q_27), (2, .ref q_16), (1, .ref q_1), (0, .ref b)]) : W p l e room_1 s m #[Value.ref b] below meth c H locs 15 7010 (lw_Z below #[Value.ref b] s) (F0 m 278 ls []) := by
  refine lv_aload_n hx hb dL_law_278 rfl (lv_at hl 3 rfl) ?_
  refine lv_aload_n hx hb dL_law_279 rfl (lv_at hl 4 rfl) ?_
  refine lv_iload hx hb dL_law_280 (lv_at hl 0 rfl) ?_
  refine lv_iconst (v := 1) hx hb dL_law_282 (by decide) ?_
  refine lv_iadd hx hb dL_law_283 ?_
  refine q_toc (y := 1) (by decide) ?_
  refine va_sld hx hb hX hbl hbA hS (by rw [hL7]; unfold vp_in; decide) dL_law_284 ?_
  refine lv_aload_n hx hb dL_law_285 rfl (lv_at hl 4 rfl) ?_
  refine lv_iload hx hb dL_law_286 (lv_at hl 0 rfl) ?_
  refine lv_iconst (v := 2) hx hb dL_law_288 (by decide) ?_
  refine lv_iadd hx hb dL_law_289 ?_
  refine q_toc (y := 2) (by decide) ?_
  refine va_sld hx hb hX hbl hbA hS (by rw [hL7]; unfold vp_in; decide) dL_law_290 ?_
  refine lv_aload_n hx hb dL_law_291 rfl (lv_at hl 1 rfl) ?_
  have hPc := hP.sub (ws' := [(q_1, .inr (4, [.ref aM_4, .ref aP_5, .int 0])), (aM_4, .inr (1, [.ref aW_6, .ref aT_7, .int 0])), (aW_6, .inl (cW_8, 2048, .inl (fun _ => 0))), (q_27, .inl (cA_28, 1, .inr (.inl (fun _ => 0))))]) [0, 1, 2, 14] rfl
  have hDc := hD.sub (ws' := [(q_1, .inr (4, [.ref aM_4, .ref aP_5, .int 0])), (aM_4, .inr (1, [.ref aW_6, .ref aT_7, .int 0])), (aW_6, .inl (cW_8, 2048, .inl (fun _ => 0))), (q_27, .inl (cA_28, 1, .inr (.inl (fun _ => 0))))]) [0, 1, 2, 14] (by decide) rfl
  have hKc := hK.sub (tys' := [(cW_8, .int), (cA_28, .long)]) [0, 8] rfl
  have hFc := va_free (wc := [(q_1, .inr (4, [.ref aM_4, .ref aP_5, .int 0])), (aM_4, .inr (1, [.ref aW_6, .ref aT_7, .int 0])), (aW_6, .inl (cW_8, 2048, .inl (fun _ => 0))), (q_27, .inl (cA_28, 1, .inr (.inl (fun _ => 0))))]) hD hS hA [0, 1, 2, 14] rfl
  refine va_calli (vx_runSW (As := [.ref q_1, .int (xs (1 : Int32).toNatClampNeg), .int (xs (2 : Int32).toNatClampNeg), .ref q_27]) (rest := []) ⟨hx, hb, hml, hown, hts⟩ (c_L_poke l hl0 dC dI H.size q_1 aM_4 aP_5 (0 : Int32) aW_6 aT_7 (0 : Int32) cW_8 q_27 cA_28 (fun _ => 0) (xs (1 : Int32).toNatClampNeg) (xs (2 : Int32).toNatClampNeg)) (vx_cwSW 4 hts gL_law_L_poke rfl rfl rfl (by decide +kernel) ⟨Nat.le_of_ble_eq_true rfl, Nat.le_of_ble_eq_true rfl⟩) ⟨q_blindx, fun U hU hW => ⟨rfl, q_payx hU hW hPc hKc hDc hN hT hS hFc⟩⟩ rfl rfl hl.1 rfl (lv_room (Nat.le_of_ble_eq_true rfl)) dL_law_292 ⟨show 15 + 1 ≤ 21 from by omega, show 7010 + 6 ≤ 7050 from by omega⟩) hS (fun q _ h => hFc q h) hFc (fun r_101 u9 t H locs ht hvm hw_102 hB hz1 hk1 hS => ?_)
  obtain ⟨words2_103, of2_104⟩ := u9
  obtain ⟨hP1, hK1, hD1⟩ := hB
  rw [ht] at hP1
  obtain ⟨hP, hD⟩ := va_join (wr := [(aT_7, .inl (cT_9, 400, .inl (fun _ => 0))), (aP_5, .inr (3, [.ref aR_10, .ref aF_11])), (aR_10, .inr (2, [.ref aM_4, .ref aA_12, .ref aB_13, .int 0])), (aA_12, .inl (cA_14, 8, .inl (fun _ => 0))), (aB_13, .inl (cB_15, 8, .inl (fun _ => 0))), (aF_11, .inr (0, [.int 0, .int 0, .int 0, .int 0])), (q_16, .inr (5, [.int 0, .ref mB_19, .ref mR_20, .int 0, .ref mO_21, .int 0, .int 0, .ref mN_22, .int 0, .int 0, .int 0, .int 0, .int 0, .int 0, .int 0, .int 0, .int 0])), (mB_19, .inl (cY_23, 4096, .inl (fun _ => 0))), (mR_20, .inl (cG_24, 8, .inl (fun _ => 0))), (mO_21, .inl (cO_25, 400, .inl (fun _ => 0))), (mN_22, .inl (cN_26, 8, .inl (fun _ => 0)))]) (w1 := [(q_1, .inr (4, [.ref aM_4, .ref aP_5, .int 0])), (aM_4, .inr (1, [.ref aW_6, .ref aT_7, .int 0])), (aW_6, .inl (cW_8, 2048, .inl words2_103)), (q_27, .inl (cA_28, 1, .inr (.inl of2_104)))]) hP hD [0, 1, 2, 14] [3, 4, 5, 6, 7, 8, 9, 10, 11, 12, 13] rfl rfl (by decide) (by decide) hk1 hFc hP1 hD1
  have hP : va_P (dC, dI) vwCl [(aT_7, .inl (cT_9, 400, .inl (fun _ => 0))), (aP_5, .inr (3, [.ref aR_10, .ref aF_11])), (aR_10, .inr (2, [.ref aM_4, .ref aA_12, .ref aB_13, .int 0])), (aA_12, .inl (cA_14, 8, .inl (fun _ => 0))), (aB_13, .inl (cB_15, 8, .inl (fun _ => 0))), (aF_11, .inr (0, [.int 0, .int 0, .int 0, .int 0])), (q_16, .inr (5, [.int 0, .ref mB_19, .ref mR_20, .int 0, .ref mO_21, .int 0, .int 0, .ref mN_22, .int 0, .int 0, .int 0, .int 0, .int 0, .int 0, .int 0, .int 0, .int 0])), (mB_19, .inl (cY_23, 4096, .inl (fun _ => 0))), (mR_20, .inl (cG_24, 8, .inl (fun _ => 0))), (mO_21, .inl (cO_25, 400, .inl (fun _ => 0))), (mN_22, .inl (cN_26, 8, .inl (fun _ => 0))), (q_1, .inr (4, [.ref aM_4, .ref aP_5, .int 0])), (aM_4, .inr (1, [.ref aW_6, .ref aT_7, .int 0])), (aW_6, .inl (cW_8, 2048, .inl words2_103)), (q_27, .inl (cA_28, 1, .inr (.inl of2_104)))] H := hP
  have hD : va_D A [(aT_7, .inl (cT_9, 400, .inl (fun _ => 0))), (aP_5, .inr (3, [.ref aR_10, .ref aF_11])), (aR_10, .inr (2, [.ref aM_4, .ref aA_12, .ref aB_13, .int 0])), (aA_12, .inl (cA_14, 8, .inl (fun _ => 0))), (aB_13, .inl (cB_15, 8, .inl (fun _ => 0))), (aF_11, .inr (0, [.int 0, .int 0, .int 0, .int 0])), (q_16, .inr (5, [.int 0, .ref mB_19, .ref mR_20, .int 0, .ref mO_21, .int 0, .int 0, .ref mN_22, .int 0, .int 0, .int 0, .int 0, .int 0, .int 0, .int 0, .int 0, .int 0])), (mB_19, .inl (cY_23, 4096, .inl (fun _ => 0))), (mR_20, .inl (cG_24, 8, .inl (fun _ => 0))), (mO_21, .inl (cO_25, 400, .inl (fun _ => 0))), (mN_22, .inl (cN_26, 8, .inl (fun _ => 0))), (q_1, .inr (4, [.ref aM_4, .ref aP_5, .int 0])), (aM_4, .inr (1, [.ref aW_6, .ref aT_7, .int 0])), (aW_6, .inl (cW_8, 2048, .inl words2_103)), (q_27, .inl (cA_28, 1, .inr (.inl of2_104)))] := hD
  refine W.widen (k := 16) (n := 7016) (by omega) (by omega) ?_
  try dsimp only at hw_102
  rcases hw_102 with ⟨rfl, f_105, o_106⟩ | ⟨rfl, f_107⟩
  · refine lv_istore (lv' := [(5, .int 0), (4, .int 0), (3, .ref q_27), (2, .ref q_16), (1, .ref q_1), (0, .ref b)]) hx hb dL_law_295 hl (by decide) rfl (fun ls hl => ?_)
    refine lv_aload_n hx hb dL_law_297 rfl (lv_at hl 3 rfl) ?_
    refine lv_aload_n hx hb dL_law_298 rfl (lv_at hl 5 rfl) ?_
    refine lv_iload hx hb dL_law_299 (lv_at hl 1 rfl) ?_
    refine lv_iconst (v := 1) hx hb dL_law_301 (by decide) ?_
    refine lv_iadd hx hb dL_law_302 ?_
    refine q_toc (y := 1) (by decide) ?_
    refine va_sld hx hb hX hbl hbA hS (by rw [hL7]; unfold vp_in; decide) dL_law_303 ?_
    refine lv_aload_n hx hb dL_law_304 rfl (lv_at hl 5 rfl) ?_
    refine lv_iload hx hb dL_law_305 (lv_at hl 1 rfl) ?_
    refine lv_iconst (v := 2) hx hb dL_law_307 (by decide) ?_
    refine lv_iadd hx hb dL_law_308 ?_
    refine q_toc (y := 2) (by decide) ?_
    refine va_sld hx hb hX hbl hbA hS (by rw [hL7]; unfold vp_in; decide) dL_law_309 ?_
    have hPc := hP.sub (ws' := [(q_16, .inr (5, [.int 0, .ref mB_19, .ref mR_20, .int 0, .ref mO_21, .int 0, .int 0, .ref mN_22, .int 0, .int 0, .int 0, .int 0, .int 0, .int 0, .int 0, .int 0, .int 0])), (mB_19, .inl (cY_23, 4096, .inl (fun _ => 0)))]) [6, 7] rfl
    have hDc := hD.sub (ws' := [(q_16, .inr (5, [.int 0, .ref mB_19, .ref mR_20, .int 0, .ref mO_21, .int 0, .int 0, .ref mN_22, .int 0, .int 0, .int 0, .int 0, .int 0, .int 0, .int 0, .int 0, .int 0])), (mB_19, .inl (cY_23, 4096, .inl (fun _ => 0)))]) [6, 7] (by decide) rfl
    have hKc := hK.sub (tys' := [(cY_23, .int)]) [4] rfl
    have hFc := va_free (wc := [(q_16, .inr (5, [.int 0, .ref mB_19, .ref mR_20, .int 0, .ref mO_21, .int 0, .int 0, .ref mN_22, .int 0, .int 0, .int 0, .int 0, .int 0, .int 0, .int 0, .int 0, .int 0])), (mB_19, .inl (cY_23, 4096, .inl (fun _ => 0)))]) hD hS hA [6, 7] rfl
    refine va_calli (va_runV (C := RX5) (b := q_16) (As := [.int (xs (1 : Int32).toNatClampNeg), .int (xs (2 : Int32).toNatClampNeg)]) (rest := []) ⟨hx, hb, hml, hown, hts⟩ (c_X5_poke l dC dI H.size q_16 mB_19 mR_20 mO_21 mN_22 cY_23 (xs (1 : Int32).toNatClampNeg) (xs (2 : Int32).toNatClampNeg)) (cwV 2 hts gL_law_X5_poke rfl rfl rfl (by decide +kernel) ⟨Nat.le_of_ble_eq_true rfl, Nat.le_of_ble_eq_true rfl⟩) ⟨q_blind, va_recv hK hP (ci := 5) (q0 := 6) rfl rfl, fun U hU hW => ⟨rfl, q_pay hU hW hPc hKc hDc hN⟩⟩ rfl rfl hl.1 rfl (lv_room (Nat.le_of_ble_eq_true rfl)) dL_law_310 ⟨show 16 + 0 ≤ 21 from by omega, show 7016 + 0 ≤ 7050 from by omega⟩) hS (fun q _ h => hFc q h) hFc (fun r_108 u9 t H locs ht hvm hw_109 hB hz1 hk1 hS => ?_)
    obtain ⟨t2_110, bf2_111⟩ := u9
    obtain ⟨hP1, hK1, hD1⟩ := hB
    rw [ht] at hP1
    obtain ⟨hP, hD⟩ := va_join (wr := [(aT_7, .inl (cT_9, 400, .inl (fun _ => 0))), (aP_5, .inr (3, [.ref aR_10, .ref aF_11])), (aR_10, .inr (2, [.ref aM_4, .ref aA_12, .ref aB_13, .int 0])), (aA_12, .inl (cA_14, 8, .inl (fun _ => 0))), (aB_13, .inl (cB_15, 8, .inl (fun _ => 0))), (aF_11, .inr (0, [.int 0, .int 0, .int 0, .int 0])), (mR_20, .inl (cG_24, 8, .inl (fun _ => 0))), (mO_21, .inl (cO_25, 400, .inl (fun _ => 0))), (mN_22, .inl (cN_26, 8, .inl (fun _ => 0))), (q_1, .inr (4, [.ref aM_4, .ref aP_5, .int 0])), (aM_4, .inr (1, [.ref aW_6, .ref aT_7, .int 0])), (aW_6, .inl (cW_8, 2048, .inl words2_103)), (q_27, .inl (cA_28, 1, .inr (.inl of2_104)))]) (w1 := [(q_16, .inr (5, [.int t2_110, .ref mB_19, .ref mR_20, .int 0, .ref mO_21, .int 0, .int 0, .ref mN_22, .int 0, .int 0, .int 0, .int 0, .int 0, .int 0, .int 0, .int 0, .int 0])), (mB_19, .inl (cY_23, 4096, .inl bf2_111))]) hP hD [6, 7] [0, 1, 2, 3, 4, 5, 8, 9, 10, 11, 12, 13, 14] rfl rfl (by decide) (by decide) hk1 hFc hP1 hD1
    have hP : va_P (dC, dI) vwCl [(aT_7, .inl (cT_9, 400, .inl (fun _ => 0))), (aP_5, .inr (3, [.ref aR_10, .ref aF_11])), (aR_10, .inr (2, [.ref aM_4, .ref aA_12, .ref aB_13, .int 0])), (aA_12, .inl (cA_14, 8, .inl (fun _ => 0))), (aB_13, .inl (cB_15, 8, .inl (fun _ => 0))), (aF_11, .inr (0, [.int 0, .int 0, .int 0, .int 0])), (mR_20, .inl (cG_24, 8, .inl (fun _ => 0))), (mO_21, .inl (cO_25, 400, .inl (fun _ => 0))), (mN_22, .inl (cN_26, 8, .inl (fun _ => 0))), (q_1, .inr (4, [.ref aM_4, .ref aP_5, .int 0])), (aM_4, .inr (1, [.ref aW_6, .ref aT_7, .int 0])), (aW_6, .inl (cW_8, 2048, .inl words2_103)), (q_27, .inl (cA_28, 1, .inr (.inl of2_104))), (q_16, .inr (5, [.int t2_110, .ref mB_19, .ref mR_20, .int 0, .ref mO_21, .int 0, .int 0, .ref mN_22, .int 0, .int 0, .int 0, .int 0, .int 0, .int 0, .int 0, .int 0, .int 0])), (mB_19, .inl (cY_23, 4096, .inl bf2_111))] H := hP
    have hD : va_D A [(aT_7, .inl (cT_9, 400, .inl (fun _ => 0))), (aP_5, .inr (3, [.ref aR_10, .ref aF_11])), (aR_10, .inr (2, [.ref aM_4, .ref aA_12, .ref aB_13, .int 0])), (aA_12, .inl (cA_14, 8, .inl (fun _ => 0))), (aB_13, .inl (cB_15, 8, .inl (fun _ => 0))), (aF_11, .inr (0, [.int 0, .int 0, .int 0, .int 0])), (mR_20, .inl (cG_24, 8, .inl (fun _ => 0))), (mO_21, .inl (cO_25, 400, .inl (fun _ => 0))), (mN_22, .inl (cN_26, 8, .inl (fun _ => 0))), (q_1, .inr (4, [.ref aM_4, .ref aP_5, .int 0])), (aM_4, .inr (1, [.ref aW_6, .ref aT_7, .int 0])), (aW_6, .inl (cW_8, 2048, .inl words2_103)), (q_27, .inl (cA_28, 1, .inr (.inl of2_104))), (q_16, .inr (5, [.int t2_110, .ref mB_19, .ref mR_20, .int 0, .ref mO_21, .int 0, .int 0, .ref mN_22, .int 0, .int 0, .int 0, .int 0, .int 0, .int 0, .int 0, .int 0, .int 0])), (mB_19, .inl (cY_23, 4096, .inl bf2_111))] := hD
    refine W.widen (k := 16) (n := 7016) (by omega) (by omega) ?_
    try dsimp only at hw_109
    rcases hw_109 with ⟨f_112, rfl, rfl⟩ | ⟨f_113, rfl, rfl⟩
    · refine lv_istore (lv' := [(6, .int (if (0 : Int32) = (xs (2 : Int32).toNatClampNeg) &&& 65535 then 0 else 1)), (5, .int 0), (4, .int 0), (3, .ref q_27), (2, .ref q_16), (1, .ref q_1), (0, .ref b)]) hx hb dL_law_313 hl (by decide) rfl (fun ls hl => ?_)
      refine lv_aload_n hx hb dL_law_315 rfl (lv_at hl 4 rfl) ?_
      have hPc := hP.sub (ws' := [(q_16, .inr (5, [.int 0, .ref mB_19, .ref mR_20, .int 0, .ref mO_21, .int 0, .int 0, .ref mN_22, .int 0, .int 0, .int 0, .int 0, .int 0, .int 0, .int 0, .int 0, .int 0]))]) [13] rfl
      have hDc := hD.sub (ws' := [(q_16, .inr (5, [.int 0, .ref mB_19, .ref mR_20, .int 0, .ref mO_21, .int 0, .int 0, .ref mN_22, .int 0, .int 0, .int 0, .int 0, .int 0, .int 0, .int 0, .int 0, .int 0]))]) [13] (by decide) rfl
      have hKc := hK.sub (tys' := []) [] rfl
      have hFc := va_free (wc := [(q_16, .inr (5, [.int 0, .ref mB_19, .ref mR_20, .int 0, .ref mO_21, .int 0, .int 0, .ref mN_22, .int 0, .int 0, .int 0, .int 0, .int 0, .int 0, .int 0, .int 0, .int 0]))]) hD hS hA [13] rfl
      refine va_calli (va_runV (C := RX5) (b := q_16) (As := []) (rest := []) ⟨hx, hb, hml, hown, hts⟩ (c_X5_thrown l dC dI H.size q_16 mB_19 mR_20 mO_21 mN_22 (0 : Int32) (0 : Int32) (0 : Int32) (0 : Int32) (0 : Int32) (0 : Int32) (0 : Int32) (0 : Int32) (0 : Int32) (0 : Int32) (0 : Int32) (0 : Int32) (0 : Int32)) (cwV 0 hts gL_law_X5_thrown rfl rfl rfl (by decide +kernel) ⟨Nat.le_of_ble_eq_true rfl, Nat.le_of_ble_eq_true rfl⟩) ⟨q_blind, va_recv hK hP (ci := 5) (q0 := 13) rfl rfl, fun U hU hW => ⟨rfl, q_pay hU hW hPc hKc hDc hN⟩⟩ rfl rfl hl.1 rfl (lv_room (Nat.le_of_ble_eq_true rfl)) dL_law_316 ⟨show 16 + 0 ≤ 21 from by omega, show 7016 + 0 ≤ 7050 from by omega⟩) hS (fun q _ h => hFc q h) hFc (fun r_114 u9 t H locs ht hvm hw_115 hB hz1 hk1 hS => ?_)
      obtain ⟨hP1, hK1, hD1⟩ := hB
      rw [ht] at hP1
      obtain ⟨hP, hD⟩ := va_join (wr := [(aT_7, .inl (cT_9, 400, .inl (fun _ => 0))), (aP_5, .inr (3, [.ref aR_10, .ref aF_11])), (aR_10, .inr (2, [.ref aM_4, .ref aA_12, .ref aB_13, .int 0])), (aA_12, .inl (cA_14, 8, .inl (fun _ => 0))), (aB_13, .inl (cB_15, 8, .inl (fun _ => 0))), (aF_11, .inr (0, [.int 0, .int 0, .int 0, .int 0])), (mR_20, .inl (cG_24, 8, .inl (fun _ => 0))), (mO_21, .inl (cO_25, 400, .inl (fun _ => 0))), (mN_22, .inl (cN_26, 8, .inl (fun _ => 0))), (q_1, .inr (4, [.ref aM_4, .ref aP_5, .int 0])), (aM_4, .inr (1, [.ref aW_6, .ref aT_7, .int 0])), (aW_6, .inl (cW_8, 2048, .inl words2_103)), (q_27, .inl (cA_28, 1, .inr (.inl of2_104))), (mB_19, .inl (cY_23, 4096, .inl bf2_111))]) (w1 := [(q_16, .inr (5, [.int 0, .ref mB_19, .ref mR_20, .int 0, .ref mO_21, .int 0, .int 0, .ref mN_22, .int 0, .int 0, .int 0, .int 0, .int 0, .int 0, .int 0, .int 0, .int 0]))]) hP hD [13] [0, 1, 2, 3, 4, 5, 6, 7, 8, 9, 10, 11, 12, 14] rfl rfl (by decide) (by decide) hk1 hFc hP1 hD1
      have hP : va_P (dC, dI) vwCl [(aT_7, .inl (cT_9, 400, .inl (fun _ => 0))), (aP_5, .inr (3, [.ref aR_10, .ref aF_11])), (aR_10, .inr (2, [.ref aM_4, .ref aA_12, .ref aB_13, .int 0])), (aA_12, .inl (cA_14, 8, .inl (fun _ => 0))), (aB_13, .inl (cB_15, 8, .inl (fun _ => 0))), (aF_11, .inr (0, [.int 0, .int 0, .int 0, .int 0])), (mR_20, .inl (cG_24, 8, .inl (fun _ => 0))), (mO_21, .inl (cO_25, 400, .inl (fun _ => 0))), (mN_22, .inl (cN_26, 8, .inl (fun _ => 0))), (q_1, .inr (4, [.ref aM_4, .ref aP_5, .int 0])), (aM_4, .inr (1, [.ref aW_6, .ref aT_7, .int 0])), (aW_6, .inl (cW_8, 2048, .inl words2_103)), (q_27, .inl (cA_28, 1, .inr (.inl of2_104))), (mB_19, .inl (cY_23, 4096, .inl bf2_111)), (q_16, .inr (5, [.int 0, .ref mB_19, .ref mR_20, .int 0, .ref mO_21, .int 0, .int 0, .ref mN_22, .int 0, .int 0, .int 0, .int 0, .int 0, .int 0, .int 0, .int 0, .int 0]))] H := hP
      have hD : va_D A [(aT_7, .inl (cT_9, 400, .inl (fun _ => 0))), (aP_5, .inr (3, [.ref aR_10, .ref aF_11])), (aR_10, .inr (2, [.ref aM_4, .ref aA_12, .ref aB_13, .int 0])), (aA_12, .inl (cA_14, 8, .inl (fun _ => 0))), (aB_13, .inl (cB_15, 8, .inl (fun _ => 0))), (aF_11, .inr (0, [.int 0, .int 0, .int 0, .int 0])), (mR_20, .inl (cG_24, 8, .inl (fun _ => 0))), (mO_21, .inl (cO_25, 400, .inl (fun _ => 0))), (mN_22, .inl (cN_26, 8, .inl (fun _ => 0))), (q_1, .inr (4, [.ref aM_4, .ref aP_5, .int 0])), (aM_4, .inr (1, [.ref aW_6, .ref aT_7, .int 0])), (aW_6, .inl (cW_8, 2048, .inl words2_103)), (q_27, .inl (cA_28, 1, .inr (.inl of2_104))), (mB_19, .inl (cY_23, 4096, .inl bf2_111)), (q_16, .inr (5, [.int 0, .ref mB_19, .ref mR_20, .int 0, .ref mO_21, .int 0, .int 0, .ref mN_22, .int 0, .int 0, .int 0, .int 0, .int 0, .int 0, .int 0, .int 0, .int 0]))] := hD
      refine W.widen (k := 16) (n := 7016) (by omega) (by omega) ?_
      try dsimp only at hw_115
      obtain rfl := hw_115
      refine q_toc (y := 0) rfl ?_
      refine lv_iload hx hb dL_law_319 (lv_at hl 1 rfl) ?_
      refine lv_icmp_eq (tgt := 326) hx hb dL_law_321 (by decide) (fun c_116 => ?_) (fun c9 => absurd (by decide) c9)
      refine lv_iload hx hb dL_law_326 (lv_at hl 1 rfl) ?_
      refine lv_if_ne (tgt := 350) hx hb dL_law_328 (by decide) (fun c9 => absurd (by decide) c9) (fun c_117 => ?_)
      refine lv_aload_n hx hb dL_law_331 rfl (lv_at hl 3 rfl) ?_
      refine lv_iconst (v := 0) hx hb dL_law_332 (by decide) ?_
      refine va_lald hx hb hK hP 12 8 rfl rfl (by unfold vp_in; decide) dL_law_333 ?_
      refine q_tol (y := (if (0 : Int32) = (xs (2 : Int32).toNatClampNeg) &&& 65535 then (0 : Int64) else 1)) o_106 ?_
      refine lv_iload hx hb dL_law_334 (lv_at hl 0 rfl) ?_
      refine lv_if_eq (tgt := 343) hx hb dL_law_336 (by decide) (fun c_118 => ?_) (fun c_118 => ?_)
      · refine lv_lconst (v := 0) hx hb dL_law_343 (by decide) ?_
        refine W.lcmp hx hb dL_law_344 ?_
        refine q_toc (y := 0) (q_cmp0 (q_if1 c_118).symm) ?_
        refine lv_if_eq (tgt := 350) hx hb dL_law_345 (by decide) (fun c_119 => ?_) (fun c9 => absurd (by decide) c9)
        refine lv_goto (tgt := 642) hx hb dL_law_350 (by decide) ?_
        refine lv_iinc (v := 7) (lv' := [(4, .int 7), (6, .int (if (0 : Int32) = (xs (2 : Int32).toNatClampNeg) &&& 65535 then 0 else 1)), (5, .int 0), (3, .ref q_27), (2, .ref q_16), (1, .ref q_1), (0, .ref b)]) hx hb dL_law_642 hl (k := 2) rfl (by decide) (by decide) rfl (fun ls hl => ?_)
        refine lv_goto (tgt := 23) hx hb dL_law_645 (by decide) ?_
        refine lv_iload hx hb dL_law_23 (lv_at hl 0 rfl) ?_
        refine lv_aload_n hx hb dL_law_25 rfl (lv_at hl 6 rfl) ?_
        refine va_slen hx hb hX hbl hbA hS dL_law_26 ?_
        refine lv_bipush (v := 7) hx hb dL_law_27 (by decide) ?_
        refine lv_isub hx hb dL_law_29 ?_
        refine lv_icmp_gt (tgt := 648) hx hb dL_law_30 (by decide) (fun c_120 => ?_) (fun c9 => absurd (by rw [hL7]; decide) c9)
        refine lv_iconst (v := 1) hx hb dL_law_648 (by decide) ?_
        refine va_forget (fun q hq => by have h9 := hS.2.2 q hq; rw [hAe] at h9; exact h9) ?_
        refine W.widen (k := 21) (n := 7050) (by omega) (by omega) ?_
        exact lw_ret hx hb hr hlocks dL_law_649
      · refine lv_lconst (v := 1) hx hb dL_law_339 (by decide) ?_
        refine lv_goto (tgt := 344) hx hb dL_law_340 (by decide) ?_
        refine W.lcmp hx hb dL_law_344 ?_
        refine q_toc (y := 0) (q_cmp0 (q_if2 c_118).symm) ?_
        refine lv_if_eq (tgt := 350) hx hb dL_law_345 (by decide) (fun c_121 => ?_) (fun c9 => absurd (by decide) c9)
        refine lv_goto (tgt := 642) hx hb dL_law_350 (by decide) ?_
        refine lv_iinc (v := 7) (lv' := [(4, .int 7), (6, .int (if (0 : Int32) = (xs (2 : Int32).toNatClampNeg) &&& 65535 then 0 else 1)), (5, .int 0), (3, .ref q_27), (2, .ref q_16), (1, .ref q_1), (0, .ref b)]) hx hb dL_law_642 hl (k := 2) rfl (by decide) (by decide) rfl (fun ls hl => ?_)
        refine lv_goto (tgt := 23) hx hb dL_law_645 (by decide) ?_
        refine lv_iload hx hb dL_law_23 (lv_at hl 0 rfl) ?_
        refine lv_aload_n hx hb dL_law_25 rfl (lv_at hl 6 rfl) ?_
        refine va_slen hx hb hX hbl hbA hS dL_law_26 ?_
        refine lv_bipush (v := 7) hx hb dL_law_27 (by decide) ?_
        refine lv_isub hx hb dL_law_29 ?_
        refine lv_icmp_gt (tgt := 648) hx hb dL_law_30 (by decide) (fun c_122 => ?_) (fun c9 => absurd (by rw [hL7]; decide) c9)
        refine lv_iconst (v := 1) hx hb dL_law_648 (by decide) ?_
        refine va_forget (fun q hq => by have h9 := hS.2.2 q hq; rw [hAe] at h9; exact h9) ?_
        refine W.widen (k := 21) (n := 7050) (by omega) (by omega) ?_
        exact lw_ret hx hb hr hlocks dL_law_649
    · exact (fw.mp f_105 f_113).elim
  · refine lv_istore (lv' := [(5, .int 1), (4, .int 0), (3, .ref q_27), (2, .ref q_16), (1, .ref q_1), (0, .ref b)]) hx hb dL_law_295 hl (by decide) rfl (fun ls hl => ?_)
    refine lv_aload_n hx hb dL_law_297 rfl (lv_at hl 3 rfl) ?_
    refine lv_aload_n hx hb dL_law_298 rfl (lv_at hl 5 rfl) ?_
    refine lv_iload hx hb dL_law_299 (lv_at hl 1 rfl) ?_
    refine lv_iconst (v := 1) hx hb dL_law_301 (by decide) ?_
    refine lv_iadd hx hb dL_law_302 ?_
    refine q_toc (y := 1) (by decide) ?_
    refine va_sld hx hb hX hbl hbA hS (by rw [hL7]; unfold vp_in; decide) dL_law_303 ?_
    refine lv_aload_n hx hb dL_law_304 rfl (lv_at hl 5 rfl) ?_
    refine lv_iload hx hb dL_law_305 (lv_at hl 1 rfl) ?_
    refine lv_iconst (v := 2) hx hb dL_law_307 (by decide) ?_
    refine lv_iadd hx hb dL_law_308 ?_
    refine q_toc (y := 2) (by decide) ?_
    refine va_sld hx hb hX hbl hbA hS (by rw [hL7]; unfold vp_in; decide) dL_law_309 ?_
    have hPc := hP.sub (ws' := [(q_16, .inr (5, [.int 0, .ref mB_19, .ref mR_20, .int 0, .ref mO_21, .int 0, .int 0, .ref mN_22, .int 0, .int 0, .int 0, .int 0, .int 0, .int 0, .int 0, .int 0, .int 0])), (mB_19, .inl (cY_23, 4096, .inl (fun _ => 0)))]) [6, 7] rfl
    have hDc := hD.sub (ws' := [(q_16, .inr (5, [.int 0, .ref mB_19, .ref mR_20, .int 0, .ref mO_21, .int 0, .int 0, .ref mN_22, .int 0, .int 0, .int 0, .int 0, .int 0, .int 0, .int 0, .int 0, .int 0])), (mB_19, .inl (cY_23, 4096, .inl (fun _ => 0)))]) [6, 7] (by decide) rfl
    have hKc := hK.sub (tys' := [(cY_23, .int)]) [4] rfl
    have hFc := va_free (wc := [(q_16, .inr (5, [.int 0, .ref mB_19, .ref mR_20, .int 0, .ref mO_21, .int 0, .int 0, .ref mN_22, .int 0, .int 0, .int 0, .int 0, .int 0, .int 0, .int 0, .int 0, .int 0])), (mB_19, .inl (cY_23, 4096, .inl (fun _ => 0)))]) hD hS hA [6, 7] rfl
    refine va_calli (va_runV (C := RX5) (b := q_16) (As := [.int (xs (1 : Int32).toNatClampNeg), .int (xs (2 : Int32).toNatClampNeg)]) (rest := []) ⟨hx, hb, hml, hown, hts⟩ (c_X5_poke l dC dI H.size q_16 mB_19 mR_20 mO_21 mN_22 cY_23 (xs (1 : Int32).toNatClampNeg) (xs (2 : Int32).toNatClampNeg)) (cwV 2 hts gL_law_X5_poke rfl rfl rfl (by decide +kernel) ⟨Nat.le_of_ble_eq_true rfl, Nat.le_of_ble_eq_true rfl⟩) ⟨q_blind, va_recv hK hP (ci := 5) (q0 := 6) rfl rfl, fun U hU hW => ⟨rfl, q_pay hU hW hPc hKc hDc hN⟩⟩ rfl rfl hl.1 rfl (lv_room (Nat.le_of_ble_eq_true rfl)) dL_law_310 ⟨show 16 + 0 ≤ 21 from by omega, show 7016 + 0 ≤ 7050 from by omega⟩) hS (fun q _ h => hFc q h) hFc (fun r_123 u9 t H locs ht hvm hw_124 hB hz1 hk1 hS => ?_)
    obtain ⟨t2_125, bf2_126⟩ := u9
    obtain ⟨hP1, hK1, hD1⟩ := hB
    rw [ht] at hP1
    obtain ⟨hP, hD⟩ := va_join (wr := [(aT_7, .inl (cT_9, 400, .inl (fun _ => 0))), (aP_5, .inr (3, [.ref aR_10, .ref aF_11])), (aR_10, .inr (2, [.ref aM_4, .ref aA_12, .ref aB_13, .int 0])), (aA_12, .inl (cA_14, 8, .inl (fun _ => 0))), (aB_13, .inl (cB_15, 8, .inl (fun _ => 0))), (aF_11, .inr (0, [.int 0, .int 0, .int 0, .int 0])), (mR_20, .inl (cG_24, 8, .inl (fun _ => 0))), (mO_21, .inl (cO_25, 400, .inl (fun _ => 0))), (mN_22, .inl (cN_26, 8, .inl (fun _ => 0))), (q_1, .inr (4, [.ref aM_4, .ref aP_5, .int 0])), (aM_4, .inr (1, [.ref aW_6, .ref aT_7, .int 0])), (aW_6, .inl (cW_8, 2048, .inl words2_103)), (q_27, .inl (cA_28, 1, .inr (.inl of2_104)))]) (w1 := [(q_16, .inr (5, [.int t2_125, .ref mB_19, .ref mR_20, .int 0, .ref mO_21, .int 0, .int 0, .ref mN_22, .int 0, .int 0, .int 0, .int 0, .int 0, .int 0, .int 0, .int 0, .int 0])), (mB_19, .inl (cY_23, 4096, .inl bf2_126))]) hP hD [6, 7] [0, 1, 2, 3, 4, 5, 8, 9, 10, 11, 12, 13, 14] rfl rfl (by decide) (by decide) hk1 hFc hP1 hD1
    have hP : va_P (dC, dI) vwCl [(aT_7, .inl (cT_9, 400, .inl (fun _ => 0))), (aP_5, .inr (3, [.ref aR_10, .ref aF_11])), (aR_10, .inr (2, [.ref aM_4, .ref aA_12, .ref aB_13, .int 0])), (aA_12, .inl (cA_14, 8, .inl (fun _ => 0))), (aB_13, .inl (cB_15, 8, .inl (fun _ => 0))), (aF_11, .inr (0, [.int 0, .int 0, .int 0, .int 0])), (mR_20, .inl (cG_24, 8, .inl (fun _ => 0))), (mO_21, .inl (cO_25, 400, .inl (fun _ => 0))), (mN_22, .inl (cN_26, 8, .inl (fun _ => 0))), (q_1, .inr (4, [.ref aM_4, .ref aP_5, .int 0])), (aM_4, .inr (1, [.ref aW_6, .ref aT_7, .int 0])), (aW_6, .inl (cW_8, 2048, .inl words2_103)), (q_27, .inl (cA_28, 1, .inr (.inl of2_104))), (q_16, .inr (5, [.int t2_125, .ref mB_19, .ref mR_20, .int 0, .ref mO_21, .int 0, .int 0, .ref mN_22, .int 0, .int 0, .int 0, .int 0, .int 0, .int 0, .int 0, .int 0, .int 0])), (mB_19, .inl (cY_23, 4096, .inl bf2_126))] H := hP
    have hD : va_D A [(aT_7, .inl (cT_9, 400, .inl (fun _ => 0))), (aP_5, .inr (3, [.ref aR_10, .ref aF_11])), (aR_10, .inr (2, [.ref aM_4, .ref aA_12, .ref aB_13, .int 0])), (aA_12, .inl (cA_14, 8, .inl (fun _ => 0))), (aB_13, .inl (cB_15, 8, .inl (fun _ => 0))), (aF_11, .inr (0, [.int 0, .int 0, .int 0, .int 0])), (mR_20, .inl (cG_24, 8, .inl (fun _ => 0))), (mO_21, .inl (cO_25, 400, .inl (fun _ => 0))), (mN_22, .inl (cN_26, 8, .inl (fun _ => 0))), (q_1, .inr (4, [.ref aM_4, .ref aP_5, .int 0])), (aM_4, .inr (1, [.ref aW_6, .ref aT_7, .int 0])), (aW_6, .inl (cW_8, 2048, .inl words2_103)), (q_27, .inl (cA_28, 1, .inr (.inl of2_104))), (q_16, .inr (5, [.int t2_125, .ref mB_19, .ref mR_20, .int 0, .ref mO_21, .int 0, .int 0, .ref mN_22, .int 0, .int 0, .int 0, .int 0, .int 0, .int 0, .int 0, .int 0, .int 0])), (mB_19, .inl (cY_23, 4096, .inl bf2_126))] := hD
    refine W.widen (k := 16) (n := 7016) (by omega) (by omega) ?_
    try dsimp only at hw_124
    rcases hw_124 with ⟨f_127, rfl, rfl⟩ | ⟨f_128, rfl, rfl⟩
    · exact (f_107 (fw.mpr f_127)).elim
    · refine lv_istore (lv' := [(6, .int 0), (5, .int 1), (4, .int 0), (3, .ref q_27), (2, .ref q_16), (1, .ref q_1), (0, .ref b)]) hx hb dL_law_313 hl (by decide) rfl (fun ls hl => ?_)
      refine lv_aload_n hx hb dL_law_315 rfl (lv_at hl 4 rfl) ?_
      have hPc := hP.sub (ws' := [(q_16, .inr (5, [.int 1, .ref mB_19, .ref mR_20, .int 0, .ref mO_21, .int 0, .int 0, .ref mN_22, .int 0, .int 0, .int 0, .int 0, .int 0, .int 0, .int 0, .int 0, .int 0]))]) [13] rfl
      have hDc := hD.sub (ws' := [(q_16, .inr (5, [.int 1, .ref mB_19, .ref mR_20, .int 0, .ref mO_21, .int 0, .int 0, .ref mN_22, .int 0, .int 0, .int 0, .int 0, .int 0, .int 0, .int 0, .int 0, .int 0]))]) [13] (by decide) rfl
      have hKc := hK.sub (tys' := []) [] rfl
      have hFc := va_free (wc := [(q_16, .inr (5, [.int 1, .ref mB_19, .ref mR_20, .int 0, .ref mO_21, .int 0, .int 0, .ref mN_22, .int 0, .int 0, .int 0, .int 0, .int 0, .int 0, .int 0, .int 0, .int 0]))]) hD hS hA [13] rfl
      refine va_calli (va_runV (C := RX5) (b := q_16) (As := []) (rest := []) ⟨hx, hb, hml, hown, hts⟩ (c_X5_thrown l dC dI H.size q_16 mB_19 mR_20 mO_21 mN_22 (1 : Int32) (0 : Int32) (0 : Int32) (0 : Int32) (0 : Int32) (0 : Int32) (0 : Int32) (0 : Int32) (0 : Int32) (0 : Int32) (0 : Int32) (0 : Int32) (0 : Int32)) (cwV 0 hts gL_law_X5_thrown rfl rfl rfl (by decide +kernel) ⟨Nat.le_of_ble_eq_true rfl, Nat.le_of_ble_eq_true rfl⟩) ⟨q_blind, va_recv hK hP (ci := 5) (q0 := 13) rfl rfl, fun U hU hW => ⟨rfl, q_pay hU hW hPc hKc hDc hN⟩⟩ rfl rfl hl.1 rfl (lv_room (Nat.le_of_ble_eq_true rfl)) dL_law_316 ⟨show 16 + 0 ≤ 21 from by omega, show 7016 + 0 ≤ 7050 from by omega⟩) hS (fun q _ h => hFc q h) hFc (fun r_129 u9 t H locs ht hvm hw_130 hB hz1 hk1 hS => ?_)
      obtain ⟨hP1, hK1, hD1⟩ := hB
      rw [ht] at hP1
      obtain ⟨hP, hD⟩ := va_join (wr := [(aT_7, .inl (cT_9, 400, .inl (fun _ => 0))), (aP_5, .inr (3, [.ref aR_10, .ref aF_11])), (aR_10, .inr (2, [.ref aM_4, .ref aA_12, .ref aB_13, .int 0])), (aA_12, .inl (cA_14, 8, .inl (fun _ => 0))), (aB_13, .inl (cB_15, 8, .inl (fun _ => 0))), (aF_11, .inr (0, [.int 0, .int 0, .int 0, .int 0])), (mR_20, .inl (cG_24, 8, .inl (fun _ => 0))), (mO_21, .inl (cO_25, 400, .inl (fun _ => 0))), (mN_22, .inl (cN_26, 8, .inl (fun _ => 0))), (q_1, .inr (4, [.ref aM_4, .ref aP_5, .int 0])), (aM_4, .inr (1, [.ref aW_6, .ref aT_7, .int 0])), (aW_6, .inl (cW_8, 2048, .inl words2_103)), (q_27, .inl (cA_28, 1, .inr (.inl of2_104))), (mB_19, .inl (cY_23, 4096, .inl bf2_126))]) (w1 := [(q_16, .inr (5, [.int 1, .ref mB_19, .ref mR_20, .int 0, .ref mO_21, .int 0, .int 0, .ref mN_22, .int 0, .int 0, .int 0, .int 0, .int 0, .int 0, .int 0, .int 0, .int 0]))]) hP hD [13] [0, 1, 2, 3, 4, 5, 6, 7, 8, 9, 10, 11, 12, 14] rfl rfl (by decide) (by decide) hk1 hFc hP1 hD1
      have hP : va_P (dC, dI) vwCl [(aT_7, .inl (cT_9, 400, .inl (fun _ => 0))), (aP_5, .inr (3, [.ref aR_10, .ref aF_11])), (aR_10, .inr (2, [.ref aM_4, .ref aA_12, .ref aB_13, .int 0])), (aA_12, .inl (cA_14, 8, .inl (fun _ => 0))), (aB_13, .inl (cB_15, 8, .inl (fun _ => 0))), (aF_11, .inr (0, [.int 0, .int 0, .int 0, .int 0])), (mR_20, .inl (cG_24, 8, .inl (fun _ => 0))), (mO_21, .inl (cO_25, 400, .inl (fun _ => 0))), (mN_22, .inl (cN_26, 8, .inl (fun _ => 0))), (q_1, .inr (4, [.ref aM_4, .ref aP_5, .int 0])), (aM_4, .inr (1, [.ref aW_6, .ref aT_7, .int 0])), (aW_6, .inl (cW_8, 2048, .inl words2_103)), (q_27, .inl (cA_28, 1, .inr (.inl of2_104))), (mB_19, .inl (cY_23, 4096, .inl bf2_126)), (q_16, .inr (5, [.int 1, .ref mB_19, .ref mR_20, .int 0, .ref mO_21, .int 0, .int 0, .ref mN_22, .int 0, .int 0, .int 0, .int 0, .int 0, .int 0, .int 0, .int 0, .int 0]))] H := hP
      have hD : va_D A [(aT_7, .inl (cT_9, 400, .inl (fun _ => 0))), (aP_5, .inr (3, [.ref aR_10, .ref aF_11])), (aR_10, .inr (2, [.ref aM_4, .ref aA_12, .ref aB_13, .int 0])), (aA_12, .inl (cA_14, 8, .inl (fun _ => 0))), (aB_13, .inl (cB_15, 8, .inl (fun _ => 0))), (aF_11, .inr (0, [.int 0, .int 0, .int 0, .int 0])), (mR_20, .inl (cG_24, 8, .inl (fun _ => 0))), (mO_21, .inl (cO_25, 400, .inl (fun _ => 0))), (mN_22, .inl (cN_26, 8, .inl (fun _ => 0))), (q_1, .inr (4, [.ref aM_4, .ref aP_5, .int 0])), (aM_4, .inr (1, [.ref aW_6, .ref aT_7, .int 0])), (aW_6, .inl (cW_8, 2048, .inl words2_103)), (q_27, .inl (cA_28, 1, .inr (.inl of2_104))), (mB_19, .inl (cY_23, 4096, .inl bf2_126)), (q_16, .inr (5, [.int 1, .ref mB_19, .ref mR_20, .int 0, .ref mO_21, .int 0, .int 0, .ref mN_22, .int 0, .int 0, .int 0, .int 0, .int 0, .int 0, .int 0, .int 0, .int 0]))] := hD
      refine W.widen (k := 16) (n := 7016) (by omega) (by omega) ?_
      try dsimp only at hw_130
      obtain rfl := hw_130
      refine q_toc (y := 1) rfl ?_
      refine lv_iload hx hb dL_law_319 (lv_at hl 1 rfl) ?_
      refine lv_icmp_eq (tgt := 326) hx hb dL_law_321 (by decide) (fun c_131 => ?_) (fun c9 => absurd (by decide) c9)
      refine lv_iload hx hb dL_law_326 (lv_at hl 1 rfl) ?_
      refine lv_if_ne (tgt := 350) hx hb dL_law_328 (by decide) (fun c_132 => ?_) (fun c9 => absurd c9 (by decide))
      refine lv_goto (tgt := 642) hx hb dL_law_350 (by decide) ?_
      refine lv_iinc (v := 7) (lv' := [(4, .int 7), (6, .int 0), (5, .int 1), (3, .ref q_27), (2, .ref q_16), (1, .ref q_1), (0, .ref b)]) hx hb dL_law_642 hl (k := 2) rfl (by decide) (by decide) rfl (fun ls hl => ?_)
      refine lv_goto (tgt := 23) hx hb dL_law_645 (by decide) ?_
      refine lv_iload hx hb dL_law_23 (lv_at hl 0 rfl) ?_
      refine lv_aload_n hx hb dL_law_25 rfl (lv_at hl 6 rfl) ?_
      refine va_slen hx hb hX hbl hbA hS dL_law_26 ?_
      refine lv_bipush (v := 7) hx hb dL_law_27 (by decide) ?_
      refine lv_isub hx hb dL_law_29 ?_
      refine lv_icmp_gt (tgt := 648) hx hb dL_law_30 (by decide) (fun c_133 => ?_) (fun c9 => absurd (by rw [hL7]; decide) c9)
      refine lv_iconst (v := 1) hx hb dL_law_648 (by decide) ?_
      refine va_forget (fun q hq => by have h9 := hS.2.2 q hq; rw [hAe] at h9; exact h9) ?_
      refine W.widen (k := 21) (n := 7050) (by omega) (by omega) ?_
      exact lw_ret hx hb hr hlocks dL_law_649
