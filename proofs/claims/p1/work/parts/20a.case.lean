set_option maxHeartbeats 40000000 in
set_option maxRecDepth 100000 in
theorem law_0 {p : Program} {e : Env} {s : State} {m : MethodId} {below : List Frame} {meth : Method} {c : Code} {l : Launch} (hl0 : l.stackTraces = false) {b L : Nat} {xs : Nat → Int32} {A : Nat → Prop} {dC : Nat → ClassId} {dI : Nat → Nat → Nat} (hx : p.tables.exec = Jvm.exec) (hb : c.code = code) (hr : meth.sig.returnType = ret) (hml : c.maxLocals = 7) (hown : s.vm.findClass RL = some m.cls) (hts : ∀ w ∈ wsL_law, w.before #[Value.ref b] s = true) (hX : va_X b L xs s s.heap) (hbl : b < s.heap.size) (hlocks : meth.locks = false) (hAe : A = (fun q => s.heap.size ≤ q)) (hA : ∀ q : Nat, s.heap.size ≤ q → A q) (hbA : ¬ A b) (hL7 : L = 7) (hN : nst s) (hT : q_thr A s s.heap) (q_1 : Nat) (aM_4 : Nat) (aW_6 : Nat) (aT_7 : Nat) (aP_5 : Nat) (aR_10 : Nat) (aA_12 : Nat) (aB_13 : Nat) (aF_11 : Nat) (q_16 : Nat) (mB_19 : Nat) (mR_20 : Nat) (mO_21 : Nat) (mN_22 : Nat) (q_27 : Nat) (cW_8 : ClassId) (cT_9 : ClassId) (cA_14 : ClassId) (cB_15 : ClassId) (cY_23 : ClassId) (cG_24 : ClassId) (cO_25 : ClassId) (cN_26 : ClassId) (cA_28 : ClassId) {H : Heap} {locs : List Loc} {ls : Array Slot} (hK : va_K (dC, dI) vwCl [(cW_8, .int), (cT_9, .int), (cA_14, .int), (cB_15, .int), (cY_23, .int), (cG_24, .int), (cO_25, .int), (cN_26, .int), (cA_28, .long)] s) (hP : va_P (dC, dI) vwCl [(q_1, .inr (4, [.ref aM_4, .ref aP_5, .int 0])), (aM_4, .inr (1, [.ref aW_6, .ref aT_7, .int 0])), (aW_6, .inl (cW_8, 2048, .inl (fun _ => 0))), (aT_7, .inl (cT_9, 400, .inl (fun _ => 0))), (aP_5, .inr (3, [.ref aR_10, .ref aF_11])), (aR_10, .inr (2, [.ref aM_4, .ref aA_12, .ref aB_13, .int 0])), (aA_12, .inl (cA_14, 8, .inl (fun _ => 0))), (aB_13, .inl (cB_15, 8, .inl (fun _ => 0))), (aF_11, .inr (0, [.int 0, .int 0, .int 0, .int 0])), (q_16, .inr (5, [.int 0, .ref mB_19, .ref mR_20, .int 0, .ref mO_21, .int 0, .int 0, .ref mN_22, .int 0, .int 0, .int 0, .int 0, .int 0, .int 0, .int 0, .int 0, .int 0])), (mB_19, .inl (cY_23, 4096, .inl (fun _ => 0))), (mR_20, .inl (cG_24, 8, .inl (fun _ => 0))), (mO_21, .inl (cO_25, 400, .inl (fun _ => 0))), (mN_22, .inl (cN_26, 8, .inl (fun _ => 0))), (q_27, .inl (cA_28, 1, .inr (.inl (fun _ => 0))))] H) (hD : va_D A [(q_1, .inr (4, [.ref aM_4, .ref aP_5, .int 0])), (aM_4, .inr (1, [.ref aW_6, .ref aT_7, .int 0])), (aW_6, .inl (cW_8, 2048, .inl (fun _ => 0))), (aT_7, .inl (cT_9, 400, .inl (fun _ => 0))), (aP_5, .inr (3, [.ref aR_10, .ref aF_11])), (aR_10, .inr (2, [.ref aM_4, .ref aA_12, .ref aB_13, .int 0])), (aA_12, .inl (cA_14, 8, .inl (fun _ => 0))), (aB_13, .inl (cB_15, 8, .inl (fun _ => 0))), (aF_11, .inr (0, [.int 0, .int 0, .int 0, .int 0])), (q_16, .inr (5, [.int 0, .ref mB_19, .ref mR_20, .int 0, .ref mO_21, .int 0, .int 0, .ref mN_22, .int 0, .int 0, .int 0, .int 0, .int 0, .int 0, .int 0, .int 0, .int 0])), (mB_19, .inl (cY_23, 4096, .inl (fun _ => 0))), (mR_20, .inl (cG_24, 8, .inl (fun _ => 0))), (mO_21, .inl (cO_25, 400, .inl (fun _ => 0))), (mN_22, .inl (cN_26, 8, .inl (fun _ => 0))), (q_27, .inl (cA_28, 1, .inr (.inl (fun _ => 0))))]) (hS : va_S A s.heap H locs) (hl : lv_has ls 7 [(4, .int 0), (3, .ref q_27), (2, .ref q_16), (1, .ref q_1), (0, .ref b)]) : W p l e room_1 s m #[Value.ref b] below meth c H locs 15 7010 (lw_Z below #[Value.ref b] s) (F0 m 104 ls []) := by
  refine lv_aload_n hx hb dL_law_104 rfl (lv_at hl 3 rfl) ?_
  refine lv_aload_n hx hb dL_law_105 rfl (lv_at hl 4 rfl) ?_
  refine lv_iload hx hb dL_law_106 (lv_at hl 0 rfl) ?_
  refine lv_iconst (v := 1) hx hb dL_law_108 (by decide) ?_
  refine lv_iadd hx hb dL_law_109 ?_
  refine q_toc (y := 1) (by decide) ?_
  refine va_sld hx hb hX hbl hbA hS (by rw [hL7]; unfold vp_in; decide) dL_law_110 ?_
  refine lv_aload_n hx hb dL_law_111 rfl (lv_at hl 4 rfl) ?_
  refine lv_iload hx hb dL_law_112 (lv_at hl 0 rfl) ?_
  refine lv_iconst (v := 2) hx hb dL_law_114 (by decide) ?_
  refine lv_iadd hx hb dL_law_115 ?_
  refine q_toc (y := 2) (by decide) ?_
  refine va_sld hx hb hX hbl hbA hS (by rw [hL7]; unfold vp_in; decide) dL_law_116 ?_
  refine lv_aload_n hx hb dL_law_117 rfl (lv_at hl 4 rfl) ?_
  refine lv_iload hx hb dL_law_118 (lv_at hl 0 rfl) ?_
  refine lv_iconst (v := 3) hx hb dL_law_120 (by decide) ?_
  refine lv_iadd hx hb dL_law_121 ?_
  refine q_toc (y := 3) (by decide) ?_
  refine va_sld hx hb hX hbl hbA hS (by rw [hL7]; unfold vp_in; decide) dL_law_122 ?_
  refine lv_aload_n hx hb dL_law_123 rfl (lv_at hl 4 rfl) ?_
  refine lv_iload hx hb dL_law_124 (lv_at hl 0 rfl) ?_
  refine lv_iconst (v := 4) hx hb dL_law_126 (by decide) ?_
  refine lv_iadd hx hb dL_law_127 ?_
  refine q_toc (y := 4) (by decide) ?_
  refine va_sld hx hb hX hbl hbA hS (by rw [hL7]; unfold vp_in; decide) dL_law_128 ?_
  refine lv_aload_n hx hb dL_law_129 rfl (lv_at hl 4 rfl) ?_
  refine lv_iload hx hb dL_law_130 (lv_at hl 0 rfl) ?_
  refine lv_iconst (v := 5) hx hb dL_law_132 (by decide) ?_
  refine lv_iadd hx hb dL_law_133 ?_
  refine q_toc (y := 5) (by decide) ?_
  refine va_sld hx hb hX hbl hbA hS (by rw [hL7]; unfold vp_in; decide) dL_law_134 ?_
  refine lv_aload_n hx hb dL_law_135 rfl (lv_at hl 4 rfl) ?_
  refine lv_iload hx hb dL_law_136 (lv_at hl 0 rfl) ?_
  refine lv_bipush (v := 6) hx hb dL_law_138 (by decide) ?_
  refine lv_iadd hx hb dL_law_140 ?_
  refine q_toc (y := 6) (by decide) ?_
  refine va_sld hx hb hX hbl hbA hS (by rw [hL7]; unfold vp_in; decide) dL_law_141 ?_
  refine lv_aload_n hx hb dL_law_142 rfl (lv_at hl 1 rfl) ?_
  have hPc := hP.sub (ws' := [(q_1, .inr (4, [.ref aM_4, .ref aP_5, .int 0])), (aM_4, .inr (1, [.ref aW_6, .ref aT_7, .int 0])), (aW_6, .inl (cW_8, 2048, .inl (fun _ => 0))), (q_27, .inl (cA_28, 1, .inr (.inl (fun _ => 0))))]) [0, 1, 2, 14] rfl
  have hDc := hD.sub (ws' := [(q_1, .inr (4, [.ref aM_4, .ref aP_5, .int 0])), (aM_4, .inr (1, [.ref aW_6, .ref aT_7, .int 0])), (aW_6, .inl (cW_8, 2048, .inl (fun _ => 0))), (q_27, .inl (cA_28, 1, .inr (.inl (fun _ => 0))))]) [0, 1, 2, 14] (by decide) rfl
  have hKc := hK.sub (tys' := [(cW_8, .int), (cA_28, .long)]) [0, 8] rfl
  have hFc := va_free (wc := [(q_1, .inr (4, [.ref aM_4, .ref aP_5, .int 0])), (aM_4, .inr (1, [.ref aW_6, .ref aT_7, .int 0])), (aW_6, .inl (cW_8, 2048, .inl (fun _ => 0))), (q_27, .inl (cA_28, 1, .inr (.inl (fun _ => 0))))]) hD hS hA [0, 1, 2, 14] rfl
  refine va_calli (vx_runSW (As := [.ref q_1, .int (xs (1 : Int32).toNatClampNeg), .int (xs (2 : Int32).toNatClampNeg), .int (xs (3 : Int32).toNatClampNeg), .int (xs (4 : Int32).toNatClampNeg), .int (xs (5 : Int32).toNatClampNeg), .int (xs (6 : Int32).toNatClampNeg), .ref q_27]) (rest := []) ⟨hx, hb, hml, hown, hts⟩ (c_L_load l hl0 dC dI H.size q_1 aM_4 aP_5 (0 : Int32) aW_6 aT_7 (0 : Int32) cW_8 (fun _ => 0) q_27 cA_28 (fun _ => 0) (xs (1 : Int32).toNatClampNeg) (xs (2 : Int32).toNatClampNeg) (xs (3 : Int32).toNatClampNeg) (xs (4 : Int32).toNatClampNeg) (xs (5 : Int32).toNatClampNeg) (xs (6 : Int32).toNatClampNeg)) (vx_cwSW 8 hts gL_law_L_load rfl rfl rfl (by decide +kernel) ⟨Nat.le_of_ble_eq_true rfl, Nat.le_of_ble_eq_true rfl⟩) ⟨q_blindx, fun U hU hW => ⟨rfl, q_payx hU hW hPc hKc hDc hN hT hS hFc⟩⟩ rfl rfl hl.1 rfl (lv_room (Nat.le_of_ble_eq_true rfl)) dL_law_143 ⟨show 15 + 1 ≤ 21 from by omega, show 7010 + 6 ≤ 7050 from by omega⟩) hS (fun q _ h => hFc q h) hFc (fun r_101 u9 t H locs ht hvm hw_102 hB hz1 hk1 hS => ?_)
  obtain ⟨words2_103, of2_104⟩ := u9
  obtain ⟨hP1, hK1, hD1⟩ := hB
  rw [ht] at hP1
  obtain ⟨hP, hD⟩ := va_join (wr := [(aT_7, .inl (cT_9, 400, .inl (fun _ => 0))), (aP_5, .inr (3, [.ref aR_10, .ref aF_11])), (aR_10, .inr (2, [.ref aM_4, .ref aA_12, .ref aB_13, .int 0])), (aA_12, .inl (cA_14, 8, .inl (fun _ => 0))), (aB_13, .inl (cB_15, 8, .inl (fun _ => 0))), (aF_11, .inr (0, [.int 0, .int 0, .int 0, .int 0])), (q_16, .inr (5, [.int 0, .ref mB_19, .ref mR_20, .int 0, .ref mO_21, .int 0, .int 0, .ref mN_22, .int 0, .int 0, .int 0, .int 0, .int 0, .int 0, .int 0, .int 0, .int 0])), (mB_19, .inl (cY_23, 4096, .inl (fun _ => 0))), (mR_20, .inl (cG_24, 8, .inl (fun _ => 0))), (mO_21, .inl (cO_25, 400, .inl (fun _ => 0))), (mN_22, .inl (cN_26, 8, .inl (fun _ => 0)))]) (w1 := [(q_1, .inr (4, [.ref aM_4, .ref aP_5, .int 0])), (aM_4, .inr (1, [.ref aW_6, .ref aT_7, .int 0])), (aW_6, .inl (cW_8, 2048, .inl words2_103)), (q_27, .inl (cA_28, 1, .inr (.inl of2_104)))]) hP hD [0, 1, 2, 14] [3, 4, 5, 6, 7, 8, 9, 10, 11, 12, 13] rfl rfl (by decide) (by decide) hk1 hFc hP1 hD1
  have hP : va_P (dC, dI) vwCl [(aT_7, .inl (cT_9, 400, .inl (fun _ => 0))), (aP_5, .inr (3, [.ref aR_10, .ref aF_11])), (aR_10, .inr (2, [.ref aM_4, .ref aA_12, .ref aB_13, .int 0])), (aA_12, .inl (cA_14, 8, .inl (fun _ => 0))), (aB_13, .inl (cB_15, 8, .inl (fun _ => 0))), (aF_11, .inr (0, [.int 0, .int 0, .int 0, .int 0])), (q_16, .inr (5, [.int 0, .ref mB_19, .ref mR_20, .int 0, .ref mO_21, .int 0, .int 0, .ref mN_22, .int 0, .int 0, .int 0, .int 0, .int 0, .int 0, .int 0, .int 0, .int 0])), (mB_19, .inl (cY_23, 4096, .inl (fun _ => 0))), (mR_20, .inl (cG_24, 8, .inl (fun _ => 0))), (mO_21, .inl (cO_25, 400, .inl (fun _ => 0))), (mN_22, .inl (cN_26, 8, .inl (fun _ => 0))), (q_1, .inr (4, [.ref aM_4, .ref aP_5, .int 0])), (aM_4, .inr (1, [.ref aW_6, .ref aT_7, .int 0])), (aW_6, .inl (cW_8, 2048, .inl words2_103)), (q_27, .inl (cA_28, 1, .inr (.inl of2_104)))] H := hP
  have hD : va_D A [(aT_7, .inl (cT_9, 400, .inl (fun _ => 0))), (aP_5, .inr (3, [.ref aR_10, .ref aF_11])), (aR_10, .inr (2, [.ref aM_4, .ref aA_12, .ref aB_13, .int 0])), (aA_12, .inl (cA_14, 8, .inl (fun _ => 0))), (aB_13, .inl (cB_15, 8, .inl (fun _ => 0))), (aF_11, .inr (0, [.int 0, .int 0, .int 0, .int 0])), (q_16, .inr (5, [.int 0, .ref mB_19, .ref mR_20, .int 0, .ref mO_21, .int 0, .int 0, .ref mN_22, .int 0, .int 0, .int 0, .int 0, .int 0, .int 0, .int 0, .int 0, .int 0])), (mB_19, .inl (cY_23, 4096, .inl (fun _ => 0))), (mR_20, .inl (cG_24, 8, .inl (fun _ => 0))), (mO_21, .inl (cO_25, 400, .inl (fun _ => 0))), (mN_22, .inl (cN_26, 8, .inl (fun _ => 0))), (q_1, .inr (4, [.ref aM_4, .ref aP_5, .int 0])), (aM_4, .inr (1, [.ref aW_6, .ref aT_7, .int 0])), (aW_6, .inl (cW_8, 2048, .inl words2_103)), (q_27, .inl (cA_28, 1, .inr (.inl of2_104)))] := hD
  refine W.widen (k := 16) (n := 7016) (by omega) (by omega) ?_
  try dsimp only at hw_102
  rcases hw_102 with ⟨rfl, f_105, o_106⟩ | ⟨rfl, f_107⟩
  · refine lv_istore (lv' := [(5, .int 0), (4, .int 0), (3, .ref q_27), (2, .ref q_16), (1, .ref q_1), (0, .ref b)]) hx hb dL_law_146 hl (by decide) rfl (fun ls hl => ?_)
    refine lv_aload_n hx hb dL_law_148 rfl (lv_at hl 3 rfl) ?_
    refine lv_aload_n hx hb dL_law_149 rfl (lv_at hl 5 rfl) ?_
    refine lv_iload hx hb dL_law_150 (lv_at hl 1 rfl) ?_
    refine lv_iconst (v := 1) hx hb dL_law_152 (by decide) ?_
    refine lv_iadd hx hb dL_law_153 ?_
    refine q_toc (y := 1) (by decide) ?_
    refine va_sld hx hb hX hbl hbA hS (by rw [hL7]; unfold vp_in; decide) dL_law_154 ?_
    refine lv_aload_n hx hb dL_law_155 rfl (lv_at hl 5 rfl) ?_
    refine lv_iload hx hb dL_law_156 (lv_at hl 1 rfl) ?_
    refine lv_iconst (v := 2) hx hb dL_law_158 (by decide) ?_
    refine lv_iadd hx hb dL_law_159 ?_
    refine q_toc (y := 2) (by decide) ?_
    refine va_sld hx hb hX hbl hbA hS (by rw [hL7]; unfold vp_in; decide) dL_law_160 ?_
    refine lv_aload_n hx hb dL_law_161 rfl (lv_at hl 5 rfl) ?_
    refine lv_iload hx hb dL_law_162 (lv_at hl 1 rfl) ?_
    refine lv_iconst (v := 3) hx hb dL_law_164 (by decide) ?_
    refine lv_iadd hx hb dL_law_165 ?_
    refine q_toc (y := 3) (by decide) ?_
    refine va_sld hx hb hX hbl hbA hS (by rw [hL7]; unfold vp_in; decide) dL_law_166 ?_
    refine lv_aload_n hx hb dL_law_167 rfl (lv_at hl 5 rfl) ?_
    refine lv_iload hx hb dL_law_168 (lv_at hl 1 rfl) ?_
    refine lv_iconst (v := 4) hx hb dL_law_170 (by decide) ?_
    refine lv_iadd hx hb dL_law_171 ?_
    refine q_toc (y := 4) (by decide) ?_
    refine va_sld hx hb hX hbl hbA hS (by rw [hL7]; unfold vp_in; decide) dL_law_172 ?_
    refine lv_aload_n hx hb dL_law_173 rfl (lv_at hl 5 rfl) ?_
    refine lv_iload hx hb dL_law_174 (lv_at hl 1 rfl) ?_
    refine lv_iconst (v := 5) hx hb dL_law_176 (by decide) ?_
    refine lv_iadd hx hb dL_law_177 ?_
    refine q_toc (y := 5) (by decide) ?_
    refine va_sld hx hb hX hbl hbA hS (by rw [hL7]; unfold vp_in; decide) dL_law_178 ?_
    refine lv_aload_n hx hb dL_law_179 rfl (lv_at hl 5 rfl) ?_
    refine lv_iload hx hb dL_law_180 (lv_at hl 1 rfl) ?_
    refine lv_bipush (v := 6) hx hb dL_law_182 (by decide) ?_
    refine lv_iadd hx hb dL_law_184 ?_
    refine q_toc (y := 6) (by decide) ?_
    refine va_sld hx hb hX hbl hbA hS (by rw [hL7]; unfold vp_in; decide) dL_law_185 ?_
    have hPc := hP.sub (ws' := [(q_16, .inr (5, [.int 0, .ref mB_19, .ref mR_20, .int 0, .ref mO_21, .int 0, .int 0, .ref mN_22, .int 0, .int 0, .int 0, .int 0, .int 0, .int 0, .int 0, .int 0, .int 0])), (mB_19, .inl (cY_23, 4096, .inl (fun _ => 0)))]) [6, 7] rfl
    have hDc := hD.sub (ws' := [(q_16, .inr (5, [.int 0, .ref mB_19, .ref mR_20, .int 0, .ref mO_21, .int 0, .int 0, .ref mN_22, .int 0, .int 0, .int 0, .int 0, .int 0, .int 0, .int 0, .int 0, .int 0])), (mB_19, .inl (cY_23, 4096, .inl (fun _ => 0)))]) [6, 7] (by decide) rfl
    have hKc := hK.sub (tys' := [(cY_23, .int)]) [4] rfl
    have hFc := va_free (wc := [(q_16, .inr (5, [.int 0, .ref mB_19, .ref mR_20, .int 0, .ref mO_21, .int 0, .int 0, .ref mN_22, .int 0, .int 0, .int 0, .int 0, .int 0, .int 0, .int 0, .int 0, .int 0])), (mB_19, .inl (cY_23, 4096, .inl (fun _ => 0)))]) hD hS hA [6, 7] rfl
    refine va_calli (va_runV (C := RX5) (b := q_16) (As := [.int (xs (1 : Int32).toNatClampNeg), .int (xs (2 : Int32).toNatClampNeg), .int (xs (3 : Int32).toNatClampNeg), .int (xs (4 : Int32).toNatClampNeg), .int (xs (5 : Int32).toNatClampNeg), .int (xs (6 : Int32).toNatClampNeg)]) (rest := []) ⟨hx, hb, hml, hown, hts⟩ (c_X5_load l dC dI H.size q_16 mB_19 mR_20 mO_21 mN_22 cY_23 (fun _ => 0) (xs (1 : Int32).toNatClampNeg) (xs (2 : Int32).toNatClampNeg) (xs (3 : Int32).toNatClampNeg) (xs (4 : Int32).toNatClampNeg) (xs (5 : Int32).toNatClampNeg) (xs (6 : Int32).toNatClampNeg)) (cwV 6 hts gL_law_X5_load rfl rfl rfl (by decide +kernel) ⟨Nat.le_of_ble_eq_true rfl, Nat.le_of_ble_eq_true rfl⟩) ⟨q_blind, va_recv hK hP (ci := 5) (q0 := 6) rfl rfl, fun U hU hW => ⟨rfl, q_pay hU hW hPc hKc hDc hN⟩⟩ rfl rfl hl.1 rfl (lv_room (Nat.le_of_ble_eq_true rfl)) dL_law_186 ⟨show 16 + 0 ≤ 21 from by omega, show 7016 + 0 ≤ 7050 from by omega⟩) hS (fun q _ h => hFc q h) hFc (fun r_108 u9 t H locs ht hvm hw_109 hB hz1 hk1 hS => ?_)
    obtain ⟨t2_110, bf2_111⟩ := u9
    obtain ⟨hP1, hK1, hD1⟩ := hB
    rw [ht] at hP1
    obtain ⟨hP, hD⟩ := va_join (wr := [(aT_7, .inl (cT_9, 400, .inl (fun _ => 0))), (aP_5, .inr (3, [.ref aR_10, .ref aF_11])), (aR_10, .inr (2, [.ref aM_4, .ref aA_12, .ref aB_13, .int 0])), (aA_12, .inl (cA_14, 8, .inl (fun _ => 0))), (aB_13, .inl (cB_15, 8, .inl (fun _ => 0))), (aF_11, .inr (0, [.int 0, .int 0, .int 0, .int 0])), (mR_20, .inl (cG_24, 8, .inl (fun _ => 0))), (mO_21, .inl (cO_25, 400, .inl (fun _ => 0))), (mN_22, .inl (cN_26, 8, .inl (fun _ => 0))), (q_1, .inr (4, [.ref aM_4, .ref aP_5, .int 0])), (aM_4, .inr (1, [.ref aW_6, .ref aT_7, .int 0])), (aW_6, .inl (cW_8, 2048, .inl words2_103)), (q_27, .inl (cA_28, 1, .inr (.inl of2_104)))]) (w1 := [(q_16, .inr (5, [.int t2_110, .ref mB_19, .ref mR_20, .int 0, .ref mO_21, .int 0, .int 0, .ref mN_22, .int 0, .int 0, .int 0, .int 0, .int 0, .int 0, .int 0, .int 0, .int 0])), (mB_19, .inl (cY_23, 4096, .inl bf2_111))]) hP hD [6, 7] [0, 1, 2, 3, 4, 5, 8, 9, 10, 11, 12, 13, 14] rfl rfl (by decide) (by decide) hk1 hFc hP1 hD1
    have hP : va_P (dC, dI) vwCl [(aT_7, .inl (cT_9, 400, .inl (fun _ => 0))), (aP_5, .inr (3, [.ref aR_10, .ref aF_11])), (aR_10, .inr (2, [.ref aM_4, .ref aA_12, .ref aB_13, .int 0])), (aA_12, .inl (cA_14, 8, .inl (fun _ => 0))), (aB_13, .inl (cB_15, 8, .inl (fun _ => 0))), (aF_11, .inr (0, [.int 0, .int 0, .int 0, .int 0])), (mR_20, .inl (cG_24, 8, .inl (fun _ => 0))), (mO_21, .inl (cO_25, 400, .inl (fun _ => 0))), (mN_22, .inl (cN_26, 8, .inl (fun _ => 0))), (q_1, .inr (4, [.ref aM_4, .ref aP_5, .int 0])), (aM_4, .inr (1, [.ref aW_6, .ref aT_7, .int 0])), (aW_6, .inl (cW_8, 2048, .inl words2_103)), (q_27, .inl (cA_28, 1, .inr (.inl of2_104))), (q_16, .inr (5, [.int t2_110, .ref mB_19, .ref mR_20, .int 0, .ref mO_21, .int 0, .int 0, .ref mN_22, .int 0, .int 0, .int 0, .int 0, .int 0, .int 0, .int 0, .int 0, .int 0])), (mB_19, .inl (cY_23, 4096, .inl bf2_111))] H := hP
    have hD : va_D A [(aT_7, .inl (cT_9, 400, .inl (fun _ => 0))), (aP_5, .inr (3, [.ref aR_10, .ref aF_11])), (aR_10, .inr (2, [.ref aM_4, .ref aA_12, .ref aB_13, .int 0])), (aA_12, .inl (cA_14, 8, .inl (fun _ => 0))), (aB_13, .inl (cB_15, 8, .inl (fun _ => 0))), (aF_11, .inr (0, [.int 0, .int 0, .int 0, .int 0])), (mR_20, .inl (cG_24, 8, .inl (fun _ => 0))), (mO_21, .inl (cO_25, 400, .inl (fun _ => 0))), (mN_22, .inl (cN_26, 8, .inl (fun _ => 0))), (q_1, .inr (4, [.ref aM_4, .ref aP_5, .int 0])), (aM_4, .inr (1, [.ref aW_6, .ref aT_7, .int 0])), (aW_6, .inl (cW_8, 2048, .inl words2_103)), (q_27, .inl (cA_28, 1, .inr (.inl of2_104))), (q_16, .inr (5, [.int t2_110, .ref mB_19, .ref mR_20, .int 0, .ref mO_21, .int 0, .int 0, .ref mN_22, .int 0, .int 0, .int 0, .int 0, .int 0, .int 0, .int 0, .int 0, .int 0])), (mB_19, .inl (cY_23, 4096, .inl bf2_111))] := hD
    refine W.widen (k := 16) (n := 7016) (by omega) (by omega) ?_
    try dsimp only at hw_109
    rcases hw_109 with ⟨f_112, rfl, rfl⟩ | ⟨f_113, rfl, rfl⟩
    · refine lv_istore (lv' := [(6, .int ((((((((((0 + dn ((xs (1 : Int32).toNatClampNeg) + 0)) + dn ((xs (1 : Int32).toNatClampNeg) + 2)) + dn ((xs (1 : Int32).toNatClampNeg) + 4)) + dn ((xs (1 : Int32).toNatClampNeg) + 6)) + dn ((xs (1 : Int32).toNatClampNeg) + 8)) + dn ((xs (1 : Int32).toNatClampNeg) + 10)) + dn ((xs (1 : Int32).toNatClampNeg) + 12)) + dn ((xs (1 : Int32).toNatClampNeg) + 14)) + dn ((xs (1 : Int32).toNatClampNeg) + 16)) + dn ((xs (1 : Int32).toNatClampNeg) + 18))), (5, .int 0), (4, .int 0), (3, .ref q_27), (2, .ref q_16), (1, .ref q_1), (0, .ref b)]) hx hb dL_law_189 hl (by decide) rfl (fun ls hl => ?_)
      refine lv_aload_n hx hb dL_law_191 rfl (lv_at hl 4 rfl) ?_
      have hPc := hP.sub (ws' := [(q_16, .inr (5, [.int 0, .ref mB_19, .ref mR_20, .int 0, .ref mO_21, .int 0, .int 0, .ref mN_22, .int 0, .int 0, .int 0, .int 0, .int 0, .int 0, .int 0, .int 0, .int 0]))]) [13] rfl
      have hDc := hD.sub (ws' := [(q_16, .inr (5, [.int 0, .ref mB_19, .ref mR_20, .int 0, .ref mO_21, .int 0, .int 0, .ref mN_22, .int 0, .int 0, .int 0, .int 0, .int 0, .int 0, .int 0, .int 0, .int 0]))]) [13] (by decide) rfl
      have hKc := hK.sub (tys' := []) [] rfl
      have hFc := va_free (wc := [(q_16, .inr (5, [.int 0, .ref mB_19, .ref mR_20, .int 0, .ref mO_21, .int 0, .int 0, .ref mN_22, .int 0, .int 0, .int 0, .int 0, .int 0, .int 0, .int 0, .int 0, .int 0]))]) hD hS hA [13] rfl
      refine va_calli (va_runV (C := RX5) (b := q_16) (As := []) (rest := []) ⟨hx, hb, hml, hown, hts⟩ (c_X5_thrown l dC dI H.size q_16 mB_19 mR_20 mO_21 mN_22 (0 : Int32) (0 : Int32) (0 : Int32) (0 : Int32) (0 : Int32) (0 : Int32) (0 : Int32) (0 : Int32) (0 : Int32) (0 : Int32) (0 : Int32) (0 : Int32) (0 : Int32)) (cwV 0 hts gL_law_X5_thrown rfl rfl rfl (by decide +kernel) ⟨Nat.le_of_ble_eq_true rfl, Nat.le_of_ble_eq_true rfl⟩) ⟨q_blind, va_recv hK hP (ci := 5) (q0 := 13) rfl rfl, fun U hU hW => ⟨rfl, q_pay hU hW hPc hKc hDc hN⟩⟩ rfl rfl hl.1 rfl (lv_room (Nat.le_of_ble_eq_true rfl)) dL_law_192 ⟨show 16 + 0 ≤ 21 from by omega, show 7016 + 0 ≤ 7050 from by omega⟩) hS (fun q _ h => hFc q h) hFc (fun r_114 u9 t H locs ht hvm hw_115 hB hz1 hk1 hS => ?_)
      obtain ⟨hP1, hK1, hD1⟩ := hB
      rw [ht] at hP1
      obtain ⟨hP, hD⟩ := va_join (wr := [(aT_7, .inl (cT_9, 400, .inl (fun _ => 0))), (aP_5, .inr (3, [.ref aR_10, .ref aF_11])), (aR_10, .inr (2, [.ref aM_4, .ref aA_12, .ref aB_13, .int 0])), (aA_12, .inl (cA_14, 8, .inl (fun _ => 0))), (aB_13, .inl (cB_15, 8, .inl (fun _ => 0))), (aF_11, .inr (0, [.int 0, .int 0, .int 0, .int 0])), (mR_20, .inl (cG_24, 8, .inl (fun _ => 0))), (mO_21, .inl (cO_25, 400, .inl (fun _ => 0))), (mN_22, .inl (cN_26, 8, .inl (fun _ => 0))), (q_1, .inr (4, [.ref aM_4, .ref aP_5, .int 0])), (aM_4, .inr (1, [.ref aW_6, .ref aT_7, .int 0])), (aW_6, .inl (cW_8, 2048, .inl words2_103)), (q_27, .inl (cA_28, 1, .inr (.inl of2_104))), (mB_19, .inl (cY_23, 4096, .inl bf2_111))]) (w1 := [(q_16, .inr (5, [.int 0, .ref mB_19, .ref mR_20, .int 0, .ref mO_21, .int 0, .int 0, .ref mN_22, .int 0, .int 0, .int 0, .int 0, .int 0, .int 0, .int 0, .int 0, .int 0]))]) hP hD [13] [0, 1, 2, 3, 4, 5, 6, 7, 8, 9, 10, 11, 12, 14] rfl rfl (by decide) (by decide) hk1 hFc hP1 hD1
      have hP : va_P (dC, dI) vwCl [(aT_7, .inl (cT_9, 400, .inl (fun _ => 0))), (aP_5, .inr (3, [.ref aR_10, .ref aF_11])), (aR_10, .inr (2, [.ref aM_4, .ref aA_12, .ref aB_13, .int 0])), (aA_12, .inl (cA_14, 8, .inl (fun _ => 0))), (aB_13, .inl (cB_15, 8, .inl (fun _ => 0))), (aF_11, .inr (0, [.int 0, .int 0, .int 0, .int 0])), (mR_20, .inl (cG_24, 8, .inl (fun _ => 0))), (mO_21, .inl (cO_25, 400, .inl (fun _ => 0))), (mN_22, .inl (cN_26, 8, .inl (fun _ => 0))), (q_1, .inr (4, [.ref aM_4, .ref aP_5, .int 0])), (aM_4, .inr (1, [.ref aW_6, .ref aT_7, .int 0])), (aW_6, .inl (cW_8, 2048, .inl words2_103)), (q_27, .inl (cA_28, 1, .inr (.inl of2_104))), (mB_19, .inl (cY_23, 4096, .inl bf2_111)), (q_16, .inr (5, [.int 0, .ref mB_19, .ref mR_20, .int 0, .ref mO_21, .int 0, .int 0, .ref mN_22, .int 0, .int 0, .int 0, .int 0, .int 0, .int 0, .int 0, .int 0, .int 0]))] H := hP
      have hD : va_D A [(aT_7, .inl (cT_9, 400, .inl (fun _ => 0))), (aP_5, .inr (3, [.ref aR_10, .ref aF_11])), (aR_10, .inr (2, [.ref aM_4, .ref aA_12, .ref aB_13, .int 0])), (aA_12, .inl (cA_14, 8, .inl (fun _ => 0))), (aB_13, .inl (cB_15, 8, .inl (fun _ => 0))), (aF_11, .inr (0, [.int 0, .int 0, .int 0, .int 0])), (mR_20, .inl (cG_24, 8, .inl (fun _ => 0))), (mO_21, .inl (cO_25, 400, .inl (fun _ => 0))), (mN_22, .inl (cN_26, 8, .inl (fun _ => 0))), (q_1, .inr (4, [.ref aM_4, .ref aP_5, .int 0])), (aM_4, .inr (1, [.ref aW_6, .ref aT_7, .int 0])), (aW_6, .inl (cW_8, 2048, .inl words2_103)), (q_27, .inl (cA_28, 1, .inr (.inl of2_104))), (mB_19, .inl (cY_23, 4096, .inl bf2_111)), (q_16, .inr (5, [.int 0, .ref mB_19, .ref mR_20, .int 0, .ref mO_21, .int 0, .int 0, .ref mN_22, .int 0, .int 0, .int 0, .int 0, .int 0, .int 0, .int 0, .int 0, .int 0]))] := hD
      refine W.widen (k := 16) (n := 7016) (by omega) (by omega) ?_
      try dsimp only at hw_115
      obtain rfl := hw_115
      refine q_toc (y := 0) rfl ?_
      refine lv_iload hx hb dL_law_195 (lv_at hl 1 rfl) ?_
      refine lv_icmp_eq (tgt := 202) hx hb dL_law_197 (by decide) (fun c_116 => ?_) (fun c9 => absurd (by decide) c9)
      refine lv_iload hx hb dL_law_202 (lv_at hl 1 rfl) ?_
      refine lv_if_ne (tgt := 219) hx hb dL_law_204 (by decide) (fun c9 => absurd (by decide) c9) (fun c_117 => ?_)
      refine lv_aload_n hx hb dL_law_207 rfl (lv_at hl 3 rfl) ?_
      refine lv_iconst (v := 0) hx hb dL_law_208 (by decide) ?_
      refine va_lald hx hb hK hP 12 8 rfl rfl (by unfold vp_in; decide) dL_law_209 ?_
      refine q_tol (y := (ct (xs (1 : Int32).toNatClampNeg) + ct ((xs (1 : Int32).toNatClampNeg) + 2) + (ct ((xs (1 : Int32).toNatClampNeg) + 4) + ct ((xs (1 : Int32).toNatClampNeg) + 4 + 2)) + (ct ((xs (1 : Int32).toNatClampNeg) + 8) + ct ((xs (1 : Int32).toNatClampNeg) + 8 + 2)) + (ct ((xs (1 : Int32).toNatClampNeg) + 12) + ct ((xs (1 : Int32).toNatClampNeg) + 12 + 2)) + (ct ((xs (1 : Int32).toNatClampNeg) + 16) + ct ((xs (1 : Int32).toNatClampNeg) + 16 + 2))).toInt64) o_106 ?_
      refine lv_iload hx hb dL_law_210 (lv_at hl 0 rfl) ?_
      refine lv_i2l (v := Int32.toInt64 ((((((((((0 + dn ((xs (1 : Int32).toNatClampNeg) + 0)) + dn ((xs (1 : Int32).toNatClampNeg) + 2)) + dn ((xs (1 : Int32).toNatClampNeg) + 4)) + dn ((xs (1 : Int32).toNatClampNeg) + 6)) + dn ((xs (1 : Int32).toNatClampNeg) + 8)) + dn ((xs (1 : Int32).toNatClampNeg) + 10)) + dn ((xs (1 : Int32).toNatClampNeg) + 12)) + dn ((xs (1 : Int32).toNatClampNeg) + 14)) + dn ((xs (1 : Int32).toNatClampNeg) + 16)) + dn ((xs (1 : Int32).toNatClampNeg) + 18))) hx hb dL_law_212 rfl ?_
      refine W.lcmp hx hb dL_law_213 ?_
      refine q_toc (y := 0) (q_cmp0 (congrArg Int32.toInt64 (ld_eq f_112))) ?_
      refine lv_if_eq (tgt := 219) hx hb dL_law_214 (by decide) (fun c_118 => ?_) (fun c9 => absurd (by decide) c9)
      refine lv_goto (tgt := 642) hx hb dL_law_219 (by decide) ?_
      refine lv_iinc (v := 7) (lv' := [(4, .int 7), (6, .int ((((((((((0 + dn ((xs (1 : Int32).toNatClampNeg) + 0)) + dn ((xs (1 : Int32).toNatClampNeg) + 2)) + dn ((xs (1 : Int32).toNatClampNeg) + 4)) + dn ((xs (1 : Int32).toNatClampNeg) + 6)) + dn ((xs (1 : Int32).toNatClampNeg) + 8)) + dn ((xs (1 : Int32).toNatClampNeg) + 10)) + dn ((xs (1 : Int32).toNatClampNeg) + 12)) + dn ((xs (1 : Int32).toNatClampNeg) + 14)) + dn ((xs (1 : Int32).toNatClampNeg) + 16)) + dn ((xs (1 : Int32).toNatClampNeg) + 18))), (5, .int 0), (3, .ref q_27), (2, .ref q_16), (1, .ref q_1), (0, .ref b)]) hx hb dL_law_642 hl (k := 2) rfl (by decide) (by decide) rfl (fun ls hl => ?_)
      refine lv_goto (tgt := 23) hx hb dL_law_645 (by decide) ?_
      refine lv_iload hx hb dL_law_23 (lv_at hl 0 rfl) ?_
      refine lv_aload_n hx hb dL_law_25 rfl (lv_at hl 6 rfl) ?_
      refine va_slen hx hb hX hbl hbA hS dL_law_26 ?_
      refine lv_bipush (v := 7) hx hb dL_law_27 (by decide) ?_
      refine lv_isub hx hb dL_law_29 ?_
      refine lv_icmp_gt (tgt := 648) hx hb dL_law_30 (by decide) (fun c_119 => ?_) (fun c9 => absurd (by rw [hL7]; decide) c9)
      refine lv_iconst (v := 1) hx hb dL_law_648 (by decide) ?_
      refine va_forget (fun q hq => by have h9 := hS.2.2 q hq; rw [hAe] at h9; exact h9) ?_
      refine W.widen (k := 21) (n := 7050) (by omega) (by omega) ?_
      exact lw_ret hx hb hr hlocks dL_law_649
    · exact (fw.mp f_105 f_113).elim
  · refine lv_istore (lv' := [(5, .int 1), (4, .int 0), (3, .ref q_27), (2, .ref q_16), (1, .ref q_1), (0, .ref b)]) hx hb dL_law_146 hl (by decide) rfl (fun ls hl => ?_)
    refine lv_aload_n hx hb dL_law_148 rfl (lv_at hl 3 rfl) ?_
    refine lv_aload_n hx hb dL_law_149 rfl (lv_at hl 5 rfl) ?_
    refine lv_iload hx hb dL_law_150 (lv_at hl 1 rfl) ?_
    refine lv_iconst (v := 1) hx hb dL_law_152 (by decide) ?_
    refine lv_iadd hx hb dL_law_153 ?_
    refine q_toc (y := 1) (by decide) ?_
    refine va_sld hx hb hX hbl hbA hS (by rw [hL7]; unfold vp_in; decide) dL_law_154 ?_
    refine lv_aload_n hx hb dL_law_155 rfl (lv_at hl 5 rfl) ?_
    refine lv_iload hx hb dL_law_156 (lv_at hl 1 rfl) ?_
    refine lv_iconst (v := 2) hx hb dL_law_158 (by decide) ?_
    refine lv_iadd hx hb dL_law_159 ?_
    refine q_toc (y := 2) (by decide) ?_
    refine va_sld hx hb hX hbl hbA hS (by rw [hL7]; unfold vp_in; decide) dL_law_160 ?_
    refine lv_aload_n hx hb dL_law_161 rfl (lv_at hl 5 rfl) ?_
    refine lv_iload hx hb dL_law_162 (lv_at hl 1 rfl) ?_
    refine lv_iconst (v := 3) hx hb dL_law_164 (by decide) ?_
    refine lv_iadd hx hb dL_law_165 ?_
    refine q_toc (y := 3) (by decide) ?_
    refine va_sld hx hb hX hbl hbA hS (by rw [hL7]; unfold vp_in; decide) dL_law_166 ?_
    refine lv_aload_n hx hb dL_law_167 rfl (lv_at hl 5 rfl) ?_
    refine lv_iload hx hb dL_law_168 (lv_at hl 1 rfl) ?_
    refine lv_iconst (v := 4) hx hb dL_law_170 (by decide) ?_
    refine lv_iadd hx hb dL_law_171 ?_
    refine q_toc (y := 4) (by decide) ?_
    refine va_sld hx hb hX hbl hbA hS (by rw [hL7]; unfold vp_in; decide) dL_law_172 ?_
    refine lv_aload_n hx hb dL_law_173 rfl (lv_at hl 5 rfl) ?_
    refine lv_iload hx hb dL_law_174 (lv_at hl 1 rfl) ?_
    refine lv_iconst (v := 5) hx hb dL_law_176 (by decide) ?_
    refine lv_iadd hx hb dL_law_177 ?_
    refine q_toc (y := 5) (by decide) ?_
    refine va_sld hx hb hX hbl hbA hS (by rw [hL7]; unfold vp_in; decide) dL_law_178 ?_
    refine lv_aload_n hx hb dL_law_179 rfl (lv_at hl 5 rfl) ?_
    refine lv_iload hx hb dL_law_180 (lv_at hl 1 rfl) ?_
    refine lv_bipush (v := 6) hx hb dL_law_182 (by decide) ?_
    refine lv_iadd hx hb dL_law_184 ?_
    refine q_toc (y := 6) (by decide) ?_
    refine va_sld hx hb hX hbl hbA hS (by rw [hL7]; unfold vp_in; decide) dL_law_185 ?_
    have hPc := hP.sub (ws' := [(q_16, .inr (5, [.int 0, .ref mB_19, .ref mR_20, .int 0, .ref mO_21, .int 0, .int 0, .ref mN_22, .int 0, .int 0, .int 0, .int 0, .int 0, .int 0, .int 0, .int 0, .int 0])), (mB_19, .inl (cY_23, 4096, .inl (fun _ => 0)))]) [6, 7] rfl
    have hDc := hD.sub (ws' := [(q_16, .inr (5, [.int 0, .ref mB_19, .ref mR_20, .int 0, .ref mO_21, .int 0, .int 0, .ref mN_22, .int 0, .int 0, .int 0, .int 0, .int 0, .int 0, .int 0, .int 0, .int 0])), (mB_19, .inl (cY_23, 4096, .inl (fun _ => 0)))]) [6, 7] (by decide) rfl
    have hKc := hK.sub (tys' := [(cY_23, .int)]) [4] rfl
    have hFc := va_free (wc := [(q_16, .inr (5, [.int 0, .ref mB_19, .ref mR_20, .int 0, .ref mO_21, .int 0, .int 0, .ref mN_22, .int 0, .int 0, .int 0, .int 0, .int 0, .int 0, .int 0, .int 0, .int 0])), (mB_19, .inl (cY_23, 4096, .inl (fun _ => 0)))]) hD hS hA [6, 7] rfl
    refine va_calli (va_runV (C := RX5) (b := q_16) (As := [.int (xs (1 : Int32).toNatClampNeg), .int (xs (2 : Int32).toNatClampNeg), .int (xs (3 : Int32).toNatClampNeg), .int (xs (4 : Int32).toNatClampNeg), .int (xs (5 : Int32).toNatClampNeg), .int (xs (6 : Int32).toNatClampNeg)]) (rest := []) ⟨hx, hb, hml, hown, hts⟩ (c_X5_load l dC dI H.size q_16 mB_19 mR_20 mO_21 mN_22 cY_23 (fun _ => 0) (xs (1 : Int32).toNatClampNeg) (xs (2 : Int32).toNatClampNeg) (xs (3 : Int32).toNatClampNeg) (xs (4 : Int32).toNatClampNeg) (xs (5 : Int32).toNatClampNeg) (xs (6 : Int32).toNatClampNeg)) (cwV 6 hts gL_law_X5_load rfl rfl rfl (by decide +kernel) ⟨Nat.le_of_ble_eq_true rfl, Nat.le_of_ble_eq_true rfl⟩) ⟨q_blind, va_recv hK hP (ci := 5) (q0 := 6) rfl rfl, fun U hU hW => ⟨rfl, q_pay hU hW hPc hKc hDc hN⟩⟩ rfl rfl hl.1 rfl (lv_room (Nat.le_of_ble_eq_true rfl)) dL_law_186 ⟨show 16 + 0 ≤ 21 from by omega, show 7016 + 0 ≤ 7050 from by omega⟩) hS (fun q _ h => hFc q h) hFc (fun r_120 u9 t H locs ht hvm hw_121 hB hz1 hk1 hS => ?_)
    obtain ⟨t2_122, bf2_123⟩ := u9
    obtain ⟨hP1, hK1, hD1⟩ := hB
    rw [ht] at hP1
    obtain ⟨hP, hD⟩ := va_join (wr := [(aT_7, .inl (cT_9, 400, .inl (fun _ => 0))), (aP_5, .inr (3, [.ref aR_10, .ref aF_11])), (aR_10, .inr (2, [.ref aM_4, .ref aA_12, .ref aB_13, .int 0])), (aA_12, .inl (cA_14, 8, .inl (fun _ => 0))), (aB_13, .inl (cB_15, 8, .inl (fun _ => 0))), (aF_11, .inr (0, [.int 0, .int 0, .int 0, .int 0])), (mR_20, .inl (cG_24, 8, .inl (fun _ => 0))), (mO_21, .inl (cO_25, 400, .inl (fun _ => 0))), (mN_22, .inl (cN_26, 8, .inl (fun _ => 0))), (q_1, .inr (4, [.ref aM_4, .ref aP_5, .int 0])), (aM_4, .inr (1, [.ref aW_6, .ref aT_7, .int 0])), (aW_6, .inl (cW_8, 2048, .inl words2_103)), (q_27, .inl (cA_28, 1, .inr (.inl of2_104)))]) (w1 := [(q_16, .inr (5, [.int t2_122, .ref mB_19, .ref mR_20, .int 0, .ref mO_21, .int 0, .int 0, .ref mN_22, .int 0, .int 0, .int 0, .int 0, .int 0, .int 0, .int 0, .int 0, .int 0])), (mB_19, .inl (cY_23, 4096, .inl bf2_123))]) hP hD [6, 7] [0, 1, 2, 3, 4, 5, 8, 9, 10, 11, 12, 13, 14] rfl rfl (by decide) (by decide) hk1 hFc hP1 hD1
    have hP : va_P (dC, dI) vwCl [(aT_7, .inl (cT_9, 400, .inl (fun _ => 0))), (aP_5, .inr (3, [.ref aR_10, .ref aF_11])), (aR_10, .inr (2, [.ref aM_4, .ref aA_12, .ref aB_13, .int 0])), (aA_12, .inl (cA_14, 8, .inl (fun _ => 0))), (aB_13, .inl (cB_15, 8, .inl (fun _ => 0))), (aF_11, .inr (0, [.int 0, .int 0, .int 0, .int 0])), (mR_20, .inl (cG_24, 8, .inl (fun _ => 0))), (mO_21, .inl (cO_25, 400, .inl (fun _ => 0))), (mN_22, .inl (cN_26, 8, .inl (fun _ => 0))), (q_1, .inr (4, [.ref aM_4, .ref aP_5, .int 0])), (aM_4, .inr (1, [.ref aW_6, .ref aT_7, .int 0])), (aW_6, .inl (cW_8, 2048, .inl words2_103)), (q_27, .inl (cA_28, 1, .inr (.inl of2_104))), (q_16, .inr (5, [.int t2_122, .ref mB_19, .ref mR_20, .int 0, .ref mO_21, .int 0, .int 0, .ref mN_22, .int 0, .int 0, .int 0, .int 0, .int 0, .int 0, .int 0, .int 0, .int 0])), (mB_19, .inl (cY_23, 4096, .inl bf2_123))] H := hP
    have hD : va_D A [(aT_7, .inl (cT_9, 400, .inl (fun _ => 0))), (aP_5, .inr (3, [.ref aR_10, .ref aF_11])), (aR_10, .inr (2, [.ref aM_4, .ref aA_12, .ref aB_13, .int 0])), (aA_12, .inl (cA_14, 8, .inl (fun _ => 0))), (aB_13, .inl (cB_15, 8, .inl (fun _ => 0))), (aF_11, .inr (0, [.int 0, .int 0, .int 0, .int 0])), (mR_20, .inl (cG_24, 8, .inl (fun _ => 0))), (mO_21, .inl (cO_25, 400, .inl (fun _ => 0))), (mN_22, .inl (cN_26, 8, .inl (fun _ => 0))), (q_1, .inr (4, [.ref aM_4, .ref aP_5, .int 0])), (aM_4, .inr (1, [.ref aW_6, .ref aT_7, .int 0])), (aW_6, .inl (cW_8, 2048, .inl words2_103)), (q_27, .inl (cA_28, 1, .inr (.inl of2_104))), (q_16, .inr (5, [.int t2_122, .ref mB_19, .ref mR_20, .int 0, .ref mO_21, .int 0, .int 0, .ref mN_22, .int 0, .int 0, .int 0, .int 0, .int 0, .int 0, .int 0, .int 0, .int 0])), (mB_19, .inl (cY_23, 4096, .inl bf2_123))] := hD
    refine W.widen (k := 16) (n := 7016) (by omega) (by omega) ?_
    try dsimp only at hw_121
    rcases hw_121 with ⟨f_124, rfl, rfl⟩ | ⟨f_125, rfl, rfl⟩
    · exact (f_107 (fw.mpr f_124)).elim
    · refine lv_istore (lv' := [(6, .int 0), (5, .int 1), (4, .int 0), (3, .ref q_27), (2, .ref q_16), (1, .ref q_1), (0, .ref b)]) hx hb dL_law_189 hl (by decide) rfl (fun ls hl => ?_)
      refine lv_aload_n hx hb dL_law_191 rfl (lv_at hl 4 rfl) ?_
      have hPc := hP.sub (ws' := [(q_16, .inr (5, [.int 1, .ref mB_19, .ref mR_20, .int 0, .ref mO_21, .int 0, .int 0, .ref mN_22, .int 0, .int 0, .int 0, .int 0, .int 0, .int 0, .int 0, .int 0, .int 0]))]) [13] rfl
      have hDc := hD.sub (ws' := [(q_16, .inr (5, [.int 1, .ref mB_19, .ref mR_20, .int 0, .ref mO_21, .int 0, .int 0, .ref mN_22, .int 0, .int 0, .int 0, .int 0, .int 0, .int 0, .int 0, .int 0, .int 0]))]) [13] (by decide) rfl
      have hKc := hK.sub (tys' := []) [] rfl
      have hFc := va_free (wc := [(q_16, .inr (5, [.int 1, .ref mB_19, .ref mR_20, .int 0, .ref mO_21, .int 0, .int 0, .ref mN_22, .int 0, .int 0, .int 0, .int 0, .int 0, .int 0, .int 0, .int 0, .int 0]))]) hD hS hA [13] rfl
      refine va_calli (va_runV (C := RX5) (b := q_16) (As := []) (rest := []) ⟨hx, hb, hml, hown, hts⟩ (c_X5_thrown l dC dI H.size q_16 mB_19 mR_20 mO_21 mN_22 (1 : Int32) (0 : Int32) (0 : Int32) (0 : Int32) (0 : Int32) (0 : Int32) (0 : Int32) (0 : Int32) (0 : Int32) (0 : Int32) (0 : Int32) (0 : Int32) (0 : Int32)) (cwV 0 hts gL_law_X5_thrown rfl rfl rfl (by decide +kernel) ⟨Nat.le_of_ble_eq_true rfl, Nat.le_of_ble_eq_true rfl⟩) ⟨q_blind, va_recv hK hP (ci := 5) (q0 := 13) rfl rfl, fun U hU hW => ⟨rfl, q_pay hU hW hPc hKc hDc hN⟩⟩ rfl rfl hl.1 rfl (lv_room (Nat.le_of_ble_eq_true rfl)) dL_law_192 ⟨show 16 + 0 ≤ 21 from by omega, show 7016 + 0 ≤ 7050 from by omega⟩) hS (fun q _ h => hFc q h) hFc (fun r_126 u9 t H locs ht hvm hw_127 hB hz1 hk1 hS => ?_)
      obtain ⟨hP1, hK1, hD1⟩ := hB
      rw [ht] at hP1
      obtain ⟨hP, hD⟩ := va_join (wr := [(aT_7, .inl (cT_9, 400, .inl (fun _ => 0))), (aP_5, .inr (3, [.ref aR_10, .ref aF_11])), (aR_10, .inr (2, [.ref aM_4, .ref aA_12, .ref aB_13, .int 0])), (aA_12, .inl (cA_14, 8, .inl (fun _ => 0))), (aB_13, .inl (cB_15, 8, .inl (fun _ => 0))), (aF_11, .inr (0, [.int 0, .int 0, .int 0, .int 0])), (mR_20, .inl (cG_24, 8, .inl (fun _ => 0))), (mO_21, .inl (cO_25, 400, .inl (fun _ => 0))), (mN_22, .inl (cN_26, 8, .inl (fun _ => 0))), (q_1, .inr (4, [.ref aM_4, .ref aP_5, .int 0])), (aM_4, .inr (1, [.ref aW_6, .ref aT_7, .int 0])), (aW_6, .inl (cW_8, 2048, .inl words2_103)), (q_27, .inl (cA_28, 1, .inr (.inl of2_104))), (mB_19, .inl (cY_23, 4096, .inl bf2_123))]) (w1 := [(q_16, .inr (5, [.int 1, .ref mB_19, .ref mR_20, .int 0, .ref mO_21, .int 0, .int 0, .ref mN_22, .int 0, .int 0, .int 0, .int 0, .int 0, .int 0, .int 0, .int 0, .int 0]))]) hP hD [13] [0, 1, 2, 3, 4, 5, 6, 7, 8, 9, 10, 11, 12, 14] rfl rfl (by decide) (by decide) hk1 hFc hP1 hD1
      have hP : va_P (dC, dI) vwCl [(aT_7, .inl (cT_9, 400, .inl (fun _ => 0))), (aP_5, .inr (3, [.ref aR_10, .ref aF_11])), (aR_10, .inr (2, [.ref aM_4, .ref aA_12, .ref aB_13, .int 0])), (aA_12, .inl (cA_14, 8, .inl (fun _ => 0))), (aB_13, .inl (cB_15, 8, .inl (fun _ => 0))), (aF_11, .inr (0, [.int 0, .int 0, .int 0, .int 0])), (mR_20, .inl (cG_24, 8, .inl (fun _ => 0))), (mO_21, .inl (cO_25, 400, .inl (fun _ => 0))), (mN_22, .inl (cN_26, 8, .inl (fun _ => 0))), (q_1, .inr (4, [.ref aM_4, .ref aP_5, .int 0])), (aM_4, .inr (1, [.ref aW_6, .ref aT_7, .int 0])), (aW_6, .inl (cW_8, 2048, .inl words2_103)), (q_27, .inl (cA_28, 1, .inr (.inl of2_104))), (mB_19, .inl (cY_23, 4096, .inl bf2_123)), (q_16, .inr (5, [.int 1, .ref mB_19, .ref mR_20, .int 0, .ref mO_21, .int 0, .int 0, .ref mN_22, .int 0, .int 0, .int 0, .int 0, .int 0, .int 0, .int 0, .int 0, .int 0]))] H := hP
      have hD : va_D A [(aT_7, .inl (cT_9, 400, .inl (fun _ => 0))), (aP_5, .inr (3, [.ref aR_10, .ref aF_11])), (aR_10, .inr (2, [.ref aM_4, .ref aA_12, .ref aB_13, .int 0])), (aA_12, .inl (cA_14, 8, .inl (fun _ => 0))), (aB_13, .inl (cB_15, 8, .inl (fun _ => 0))), (aF_11, .inr (0, [.int 0, .int 0, .int 0, .int 0])), (mR_20, .inl (cG_24, 8, .inl (fun _ => 0))), (mO_21, .inl (cO_25, 400, .inl (fun _ => 0))), (mN_22, .inl (cN_26, 8, .inl (fun _ => 0))), (q_1, .inr (4, [.ref aM_4, .ref aP_5, .int 0])), (aM_4, .inr (1, [.ref aW_6, .ref aT_7, .int 0])), (aW_6, .inl (cW_8, 2048, .inl words2_103)), (q_27, .inl (cA_28, 1, .inr (.inl of2_104))), (mB_19, .inl (cY_23, 4096, .inl bf2_123)), (q_16, .inr (5, [.int 1, .ref mB_19, .ref mR_20, .int 0, .ref mO_21, .int 0, .int 0, .ref mN_22, .int 0, .int 0, .int 0, .int 0, .int 0, .int 0, .int 0, .int 0, .int 0]))] := hD
      refine W.widen (k := 16) (n := 7016) (by omega) (by omega) ?_
      try dsimp only at hw_127
      obtain rfl := hw_127
      refine q_toc (y := 1) rfl ?_
      refine lv_iload hx hb dL_law_195 (lv_at hl 1 rfl) ?_
      refine lv_icmp_eq (tgt := 202) hx hb dL_law_197 (by decide) (fun c_128 => ?_) (fun c9 => absurd (by decide) c9)
      refine lv_iload hx hb dL_law_202 (lv_at hl 1 rfl) ?_
      refine lv_if_ne (tgt := 219) hx hb dL_law_204 (by decide) (fun c_129 => ?_) (fun c9 => absurd c9 (by decide))
      refine lv_goto (tgt := 642) hx hb dL_law_219 (by decide) ?_
      refine lv_iinc (v := 7) (lv' := [(4, .int 7), (6, .int 0), (5, .int 1), (3, .ref q_27), (2, .ref q_16), (1, .ref q_1), (0, .ref b)]) hx hb dL_law_642 hl (k := 2) rfl (by decide) (by decide) rfl (fun ls hl => ?_)
      refine lv_goto (tgt := 23) hx hb dL_law_645 (by decide) ?_
      refine lv_iload hx hb dL_law_23 (lv_at hl 0 rfl) ?_
      refine lv_aload_n hx hb dL_law_25 rfl (lv_at hl 6 rfl) ?_
      refine va_slen hx hb hX hbl hbA hS dL_law_26 ?_
      refine lv_bipush (v := 7) hx hb dL_law_27 (by decide) ?_
      refine lv_isub hx hb dL_law_29 ?_
      refine lv_icmp_gt (tgt := 648) hx hb dL_law_30 (by decide) (fun c_130 => ?_) (fun c9 => absurd (by rw [hL7]; decide) c9)
      refine lv_iconst (v := 1) hx hb dL_law_648 (by decide) ?_
      refine va_forget (fun q hq => by have h9 := hS.2.2 q hq; rw [hAe] at h9; exact h9) ?_
      refine W.widen (k := 21) (n := 7050) (by omega) (by omega) ?_
      exact lw_ret hx hb hr hlocks dL_law_649
