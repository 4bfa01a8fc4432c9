set_option maxHeartbeats 4000000 in
set_option maxRecDepth 100000 in
theorem s_L_word (l : Launch) (hl0 : l.stackTraces = false) (dC : Nat → ClassId) (dI : Nat → Nat → Nat) (sz : Nat) (g0 : Nat) (pl : Int32) (ho : Nat) (aM : Nat) (aP : Nat) (st : Int32) (aW : Nat) (aT : Nat) (cnt : Int32) (cW : ClassId) (words : Nat → Int32) (cL : ClassId) (of : Nat → Int64)  : Met l yL_word wsL_word ({ frames := 8, cells := 1, slots := 6, locals := 131 }) (va_Pc [.ref g0, .int pl, .ref ho] (q_prx dC dI sz [(g0, .inr (4, [.ref aM, .ref aP, .int st])), (aM, .inr (1, [.ref aW, .ref aT, .int cnt])), (aW, .inl (cW, 2048, .inl words)), (ho, .inl (cL, 1, .inr (.inl of)))] [(cW, .int), (cL, .long)])) (va_Qi (fun (r : Int32) (u9 : (Nat → Int64)) => True) (q_at dC dI (va_A [(g0, .inr (4, [.ref aM, .ref aP, .int st])), (aM, .inr (1, [.ref aW, .ref aT, .int cnt])), (aW, .inl (cW, 2048, .inl words)), (ho, .inl (cL, 1, .inr (.inl of)))] sz) (fun (u9 : (Nat → Int64)) => [(cW, .int), (cL, .long)]) (fun (u9 : (Nat → Int64)) => [(g0, .inr (4, [.ref aM, .ref aP, .int st])), (aM, .inr (1, [.ref aW, .ref aT, .int cnt])), (aW, .inl (cW, 2048, .inl words)), (ho, .inl (cL, 1, .inr (.inl u9)))])) (va_A [(g0, .inr (4, [.ref aM, .ref aP, .int st])), (aM, .inr (1, [.ref aW, .ref aT, .int cnt])), (aW, .inl (cW, 2048, .inl words)), (ho, .inl (cL, 1, .inr (.inl of)))] sz)) 1 6 (va_A [(g0, .inr (4, [.ref aM, .ref aP, .int st])), (aM, .inr (1, [.ref aW, .ref aT, .int cnt])), (aW, .inl (cW, 2048, .inl words)), (ho, .inl (cL, 1, .inr (.inl of)))] sz) := by
  refine va_MetW (cc := cL_word) (maxL := 4) (ret := (some .int)) (hh := [(0, 9, 12, 13)]) (by decide) rfl ?_
  intro p e s m args below meth c s₁ B hml hv
  obtain ⟨rfl, ⟨hsz, hP, hK, hD0, hN⟩, hT⟩ := hv
  have hx := B.exec
  have hb := B.bytes
  have hr := B.returns
  have hts := atoms_spec (ws := wsL_word) B.pre
  have hown : s.vm.findClass RL = some m.cls := findClass_of_methodNamed B.named
  have hlocks := B.notSynchronized
  have htab : c.exceptionTable.toList = [⟨0, 9, 12, 13⟩] := vx_table (x := yL_word) B (hts _ List.mem_cons_self)
  subst hsz
  have hD := hD0.self (sz := s.heap.size)
  generalize hAe : va_A [(g0, .inr (4, [.ref aM, .ref aP, .int st])), (aM, .inr (1, [.ref aW, .ref aT, .int cnt])), (aW, .inl (cW, 2048, .inl words)), (ho, .inl (cL, 1, .inr (.inl of)))] s.heap.size = A at hD hT ⊢
  have hA : ∀ q : Nat, s.heap.size ≤ q → A q := fun q h => by rw [← hAe]; exact Or.inr h
  have hS : va_S A s.heap s.heap [] := va_S.rf
  have hP : va_P (dC, dI) vwCl [(g0, .inr (4, [.ref aM, .ref aP, .int st])), (aM, .inr (1, [.ref aW, .ref aT, .int cnt])), (aW, .inl (cW, 2048, .inl words)), (ho, .inl (cL, 1, .inr (.inl of)))] s.heap := hP
  have hl := lv_entry ([.ref g0, .int pl, .ref ho]) (n := 4) (Nat.le_of_ble_eq_true rfl)
  rw [lg_entry_eq]
  generalize (lg_sl ([.ref g0, .int pl, .ref ho]) ++ List.replicate (4 - (lg_sl ([.ref g0, .int pl, .ref ho])).length) Slot.unset).toArray = ls at hl ⊢
  have hl : lv_has ls 4 [(0, .ref g0), (1, .int pl), (2, .ref ho)] := hl
  refine lv_aload_n hx hb dL_word_0 rfl (lv_at hl 2 rfl) ?_
  refine lv_iconst (v := 0) hx hb dL_word_1 (by decide) ?_
  refine lv_aload_n hx hb dL_word_2 rfl (lv_at hl 0 rfl) ?_
  refine lv_iload_n hx hb dL_word_3 rfl (lv_at hl 1 rfl) ?_
  have hPc := hP.sub (ws' := [(g0, .inr (4, [.ref aM, .ref aP, .int st])), (aM, .inr (1, [.ref aW, .ref aT, .int cnt])), (aW, .inl (cW, 2048, .inl words))]) [0, 1, 2] rfl
  have hDc := hD.sub (ws' := [(g0, .inr (4, [.ref aM, .ref aP, .int st])), (aM, .inr (1, [.ref aW, .ref aT, .int cnt])), (aW, .inl (cW, 2048, .inl words))]) [0, 1, 2] (by decide) rfl
  have hKc := hK.sub (tys' := [(cW, .int)]) [0] rfl
  have hFc := va_free (wc := [(g0, .inr (4, [.ref aM, .ref aP, .int st])), (aM, .inr (1, [.ref aW, .ref aT, .int cnt])), (aW, .inl (cW, 2048, .inl words))]) hD hS hA [0, 1, 2] rfl
  refine vx_calli (vx_runV (C := RX4) (b := g0) (As := [.int pl]) (rest := [.int 0, .ref ho]) ⟨hx, hb, hml, hown, hts⟩ (s_X4_word l hl0 dC dI s.heap.size g0 pl aM aP st aW aT cnt cW words) (cwV 1 hts gL_word_X4_word rfl rfl rfl (by decide +kernel) ⟨Nat.le_of_ble_eq_true rfl, Nat.le_of_ble_eq_true rfl⟩) ⟨q_blindx, va_recv hK hP (ci := 4) (q0 := 0) rfl rfl, fun U hU hW => ⟨rfl, q_payx hU hW hPc hKc hDc hN hT hS hFc⟩⟩ rfl rfl hl.1 rfl (lv_room (Nat.le_of_ble_eq_true rfl)) dL_word_4 ⟨show 0 + 1 ≤ 1 from by omega, show 0 + 6 ≤ 6 from by omega⟩) hS (fun q _ h => hFc q h) hFc (fun q h1 h2 => absurd h1 (Nat.not_lt.mpr h2)) (fun E9 ce9 q9 u9 t H9 locs ht hvm hw hB hz1 hk1 hS hq9 hv9 hc9 => ?_) (fun r_1 u9 t H locs ht hvm hw_2 hB hz1 hk1 hS => ?_)
  · obtain rfl := hB
    try dsimp only at hw
    have hP : va_P (dC, dI) vwCl [(g0, .inr (4, [.ref aM, .ref aP, .int st])), (aM, .inr (1, [.ref aW, .ref aT, .int cnt])), (aW, .inl (cW, 2048, .inl words)), (ho, .inl (cL, 1, .inr (.inl of)))] H9 := hP.kept (fun k9 x9 h9 => hk1 x9.1 (vx_lt hP h9) (Nat.not_le.mpr (vx_lt hP h9)))
    refine q_catch (x := ⟨0, 9, 12, 13⟩) (E := "java/lang/IndexOutOfBoundsException") hown htab (by decide) (by decide) (hts (.classLink RL 13 "java/lang/IndexOutOfBoundsException") (by decide +kernel)) (va_Nw.use rfl (hN _ (List.mem_of_getElem? (i := 17) rfl))) hq9 hv9 hc9 ?_
    refine W.widen (k := 1) (n := 6) (by omega) (by omega) ?_
    refine lv_astore_n (lv' := [(3, .ref q9), (0, .ref g0), (1, .int pl), (2, .ref ho)]) hx hb dL_word_12 rfl hl (by decide) rfl (fun ls hl => ?_)
    refine lv_iconst (v := 1) hx hb dL_word_13 (by decide) ?_
    have hP9 := hP.sub (ws' := [(g0, .inr (4, [.ref aM, .ref aP, .int st])), (aM, .inr (1, [.ref aW, .ref aT, .int cnt])), (aW, .inl (cW, 2048, .inl words)), (ho, .inl (cL, 1, .inr (.inl of)))]) [0, 1, 2, 3] rfl
    have hD9 := hD.sub (ws' := [(g0, .inr (4, [.ref aM, .ref aP, .int st])), (aM, .inr (1, [.ref aW, .ref aT, .int cnt])), (aW, .inl (cW, 2048, .inl words)), (ho, .inl (cL, 1, .inr (.inl of)))]) [0, 1, 2, 3] (by decide) rfl
    have hK9 := hK.sub (tys' := [(cW, .int), (cL, .long)]) [0, 1] rfl
    exact W.iret (v := 1) hx hb hr (fun t ht hW => ⟨⟨1, of, rfl, trivial, by rw [ht]; exact hP9, va_K.moved hW.alike hK9, hD9⟩, hS.F ht⟩) hS.2.2 dL_word_14
  obtain ⟨hP1, hK1, hD1⟩ := hB
  rw [ht] at hP1
  obtain ⟨hP, hD⟩ := va_join (wr := [(ho, .inl (cL, 1, .inr (.inl of)))]) (w1 := [(g0, .inr (4, [.ref aM, .ref aP, .int st])), (aM, .inr (1, [.ref aW, .ref aT, .int cnt])), (aW, .inl (cW, 2048, .inl words))]) hP hD [0, 1, 2] [3] rfl rfl (by decide) (by decide) hk1 hFc hP1 hD1
  have hP : va_P (dC, dI) vwCl [(ho, .inl (cL, 1, .inr (.inl of))), (g0, .inr (4, [.ref aM, .ref aP, .int st])), (aM, .inr (1, [.ref aW, .ref aT, .int cnt])), (aW, .inl (cW, 2048, .inl words))] H := hP
  have hD : va_D A [(ho, .inl (cL, 1, .inr (.inl of))), (g0, .inr (4, [.ref aM, .ref aP, .int st])), (aM, .inr (1, [.ref aW, .ref aT, .int cnt])), (aW, .inl (cW, 2048, .inl words))] := hD
  refine W.widen (k := 1) (n := 6) (by omega) (by omega) ?_
  try dsimp only at hw_2
  refine lv_i2l (v := Int32.toInt64 r_1) hx hb dL_word_7 rfl ?_
  refine va_last hx hb hK hP hD hS 0 1 rfl rfl (by unfold vp_in; decide) dL_word_8 (fun H locs hP hD hS => ?_)
  have hP : va_P (dC, dI) vwCl [(ho, .inl (cL, 1, .inr (.inl (vp_updL of (0 : Int32).toNatClampNeg (Int32.toInt64 r_1))))), (g0, .inr (4, [.ref aM, .ref aP, .int st])), (aM, .inr (1, [.ref aW, .ref aT, .int cnt])), (aW, .inl (cW, 2048, .inl words))] H := hP
  have hD : va_D A [(ho, .inl (cL, 1, .inr (.inl (vp_updL of (0 : Int32).toNatClampNeg (Int32.toInt64 r_1))))), (g0, .inr (4, [.ref aM, .ref aP, .int st])), (aM, .inr (1, [.ref aW, .ref aT, .int cnt])), (aW, .inl (cW, 2048, .inl words))] := hD
  generalize (vp_updL of (0 : Int32).toNatClampNeg (Int32.toInt64 r_1)) = g_3 at hP hD
  refine lv_goto (tgt := 15) hx hb dL_word_9 (by decide) ?_
  refine lv_iconst (v := 0) hx hb dL_word_15 (by decide) ?_
  have hP9 := hP.sub (ws' := [(g0, .inr (4, [.ref aM, .ref aP, .int st])), (aM, .inr (1, [.ref aW, .ref aT, .int cnt])), (aW, .inl (cW, 2048, .inl words)), (ho, .inl (cL, 1, .inr (.inl g_3)))]) [1, 2, 3, 0] rfl
  have hD9 := hD.sub (ws' := [(g0, .inr (4, [.ref aM, .ref aP, .int st])), (aM, .inr (1, [.ref aW, .ref aT, .int cnt])), (aW, .inl (cW, 2048, .inl words)), (ho, .inl (cL, 1, .inr (.inl g_3)))]) [1, 2, 3, 0] (by decide) rfl
  have hK9 := hK.sub (tys' := [(cW, .int), (cL, .long)]) [0, 1] rfl
  exact W.iret (v := 0) hx hb hr (fun t ht hW => ⟨⟨0, g_3, rfl, trivial, by rw [ht]; exact hP9, va_K.moved hW.alike hK9, hD9⟩, hS.F ht⟩) hS.2.2 dL_word_16
set_option maxHeartbeats 4000000 in
set_option maxRecDepth 100000 in
theorem s_L_poke (l : Launch) (hl0 : l.stackTraces = false) (dC : Nat → ClassId) (dI : Nat → Nat → Nat) (sz : Nat) (g0 : Nat) (pl : Int32) (v : Int32) (ho : Nat) (aM : Nat) (aP : Nat) (st : Int32) (aW : Nat) (aT : Nat) (cnt : Int32) (cW : ClassId) (words : Nat → Int32) (cL : ClassId) (of : Nat → Int64)  : Met l yL_poke wsL_poke ({ frames := 8, cells := 1, slots := 6, locals := 133 }) (va_Pc [.ref g0, .int pl, .int v, .ref ho] (q_prx dC dI sz [(g0, .inr (4, [.ref aM, .ref aP, .int st])), (aM, .inr (1, [.ref aW, .ref aT, .int cnt])), (aW, .inl (cW, 2048, .inl words)), (ho, .inl (cL, 1, .inr (.inl of)))] [(cW, .int), (cL, .long)])) (va_Qi (fun (r : Int32) (u9 : (Nat → Int32) × (Nat → Int64)) => True) (q_at dC dI (va_A [(g0, .inr (4, [.ref aM, .ref aP, .int st])), (aM, .inr (1, [.ref aW, .ref aT, .int cnt])), (aW, .inl (cW, 2048, .inl words)), (ho, .inl (cL, 1, .inr (.inl of)))] sz) (fun (u9 : (Nat → Int32) × (Nat → Int64)) => [(cW, .int), (cL, .long)]) (fun (u9 : (Nat → Int32) × (Nat → Int64)) => [(g0, .inr (4, [.ref aM, .ref aP, .int st])), (aM, .inr (1, [.ref aW, .ref aT, .int cnt])), (aW, .inl (cW, 2048, .inl u9.1)), (ho, .inl (cL, 1, .inr (.inl u9.2)))])) (va_A [(g0, .inr (4, [.ref aM, .ref aP, .int st])), (aM, .inr (1, [.ref aW, .ref aT, .int cnt])), (aW, .inl (cW, 2048, .inl words)), (ho, .inl (cL, 1, .inr (.inl of)))] sz)) 1 6 (va_A [(g0, .inr (4, [.ref aM, .ref aP, .int st])), (aM, .inr (1, [.ref aW, .ref aT, .int cnt])), (aW, .inl (cW, 2048, .inl words)), (ho, .inl (cL, 1, .inr (.inl of)))] sz) := by
  refine va_MetW (cc := cL_poke) (maxL := 5) (ret := (some .int)) (hh := [(0, 17, 20, 13)]) (by decide) rfl ?_
  intro p e s m args below meth c s₁ B hml hv
  obtain ⟨rfl, ⟨hsz, hP, hK, hD0, hN⟩, hT⟩ := hv
  have hx := B.exec
  have hb := B.bytes
  have hr := B.returns
  have hts := atoms_spec (ws := wsL_poke) B.pre
  have hown : s.vm.findClass RL = some m.cls := findClass_of_methodNamed B.named
  have hlocks := B.notSynchronized
  have htab : c.exceptionTable.toList = [⟨0, 17, 20, 13⟩] := vx_table (x := yL_poke) B (hts _ List.mem_cons_self)
  subst hsz
  have hD := hD0.self (sz := s.heap.size)
  generalize hAe : va_A [(g0, .inr (4, [.ref aM, .ref aP, .int st])), (aM, .inr (1, [.ref aW, .ref aT, .int cnt])), (aW, .inl (cW, 2048, .inl words)), (ho, .inl (cL, 1, .inr (.inl of)))] s.heap.size = A at hD hT ⊢
  have hA : ∀ q : Nat, s.heap.size ≤ q → A q := fun q h => by rw [← hAe]; exact Or.inr h
  have hS : va_S A s.heap s.heap [] := va_S.rf
  have hP : va_P (dC, dI) vwCl [(g0, .inr (4, [.ref aM, .ref aP, .int st])), (aM, .inr (1, [.ref aW, .ref aT, .int cnt])), (aW, .inl (cW, 2048, .inl words)), (ho, .inl (cL, 1, .inr (.inl of)))] s.heap := hP
  have hl := lv_entry ([.ref g0, .int pl, .int v, .ref ho]) (n := 5) (Nat.le_of_ble_eq_true rfl)
  rw [lg_entry_eq]
  generalize (lg_sl ([.ref g0, .int pl, .int v, .ref ho]) ++ List.replicate (5 - (lg_sl ([.ref g0, .int pl, .int v, .ref ho])).length) Slot.unset).toArray = ls at hl ⊢
  have hl : lv_has ls 5 [(0, .ref g0), (1, .int pl), (2, .int v), (3, .ref ho)] := hl
  refine lv_aload_n hx hb dL_poke_0 rfl (lv_at hl 3 rfl) ?_
  refine lv_iconst (v := 0) hx hb dL_poke_1 (by decide) ?_
  refine lv_aload_n hx hb dL_poke_2 rfl (lv_at hl 0 rfl) ?_
  refine lv_iload_n hx hb dL_poke_3 rfl (lv_at hl 1 rfl) ?_
  refine lv_iload_n hx hb dL_poke_4 rfl (lv_at hl 2 rfl) ?_
  have hPc := hP.sub (ws' := [(g0, .inr (4, [.ref aM, .ref aP, .int st])), (aM, .inr (1, [.ref aW, .ref aT, .int cnt])), (aW, .inl (cW, 2048, .inl words))]) [0, 1, 2] rfl
  have hDc := hD.sub (ws' := [(g0, .inr (4, [.ref aM, .ref aP, .int st])), (aM, .inr (1, [.ref aW, .ref aT, .int cnt])), (aW, .inl (cW, 2048, .inl words))]) [0, 1, 2] (by decide) rfl
  have hKc := hK.sub (tys' := [(cW, .int)]) [0] rfl
  have hFc := va_free (wc := [(g0, .inr (4, [.ref aM, .ref aP, .int st])), (aM, .inr (1, [.ref aW, .ref aT, .int cnt])), (aW, .inl (cW, 2048, .inl words))]) hD hS hA [0, 1, 2] rfl
  refine vx_calli (vx_runV (C := RX4) (b := g0) (As := [.int pl, .int v]) (rest := [.int 0, .ref ho]) ⟨hx, hb, hml, hown, hts⟩ (s_X4_poke l hl0 dC dI s.heap.size g0 pl v aM aP st aW aT cnt cW words) (cwV 2 hts gL_poke_X4_poke rfl rfl rfl (by decide +kernel) ⟨Nat.le_of_ble_eq_true rfl, Nat.le_of_ble_eq_true rfl⟩) ⟨q_blindx, va_recv hK hP (ci := 4) (q0 := 0) rfl rfl, fun U hU hW => ⟨rfl, q_payx hU hW hPc hKc hDc hN hT hS hFc⟩⟩ rfl rfl hl.1 rfl (lv_room (Nat.le_of_ble_eq_true rfl)) dL_poke_5 ⟨show 0 + 1 ≤ 1 from by omega, show 0 + 6 ≤ 6 from by omega⟩) hS (fun q _ h => hFc q h) hFc (fun q h1 h2 => absurd h1 (Nat.not_lt.mpr h2)) (fun E9 ce9 q9 u9 t H9 locs ht hvm hw hB hz1 hk1 hS hq9 hv9 hc9 => ?_) (fun r_1 u9 t H locs ht hvm hw_2 hB hz1 hk1 hS => ?_)
  · obtain rfl := hB
    try dsimp only at hw
    have hP : va_P (dC, dI) vwCl [(g0, .inr (4, [.ref aM, .ref aP, .int st])), (aM, .inr (1, [.ref aW, .ref aT, .int cnt])), (aW, .inl (cW, 2048, .inl words)), (ho, .inl (cL, 1, .inr (.inl of)))] H9 := hP.kept (fun k9 x9 h9 => hk1 x9.1 (vx_lt hP h9) (Nat.not_le.mpr (vx_lt hP h9)))
    refine q_catch (x := ⟨0, 17, 20, 13⟩) (E := "java/lang/IndexOutOfBoundsException") hown htab (by decide) (by decide) (hts (.classLink RL 13 "java/lang/IndexOutOfBoundsException") (by decide +kernel)) (va_Nw.use rfl (hN _ (List.mem_of_getElem? (i := 17) rfl))) hq9 hv9 hc9 ?_
    refine W.widen (k := 1) (n := 6) (by omega) (by omega) ?_
    refine lv_astore (lv' := [(4, .ref q9), (0, .ref g0), (1, .int pl), (2, .int v), (3, .ref ho)]) hx hb dL_poke_20 hl (by decide) rfl (fun ls hl => ?_)
    refine lv_iconst (v := 1) hx hb dL_poke_22 (by decide) ?_
    have hP9 := hP.sub (ws' := [(g0, .inr (4, [.ref aM, .ref aP, .int st])), (aM, .inr (1, [.ref aW, .ref aT, .int cnt])), (aW, .inl (cW, 2048, .inl words)), (ho, .inl (cL, 1, .inr (.inl of)))]) [0, 1, 2, 3] rfl
    have hD9 := hD.sub (ws' := [(g0, .inr (4, [.ref aM, .ref aP, .int st])), (aM, .inr (1, [.ref aW, .ref aT, .int cnt])), (aW, .inl (cW, 2048, .inl words)), (ho, .inl (cL, 1, .inr (.inl of)))]) [0, 1, 2, 3] (by decide) rfl
    have hK9 := hK.sub (tys' := [(cW, .int), (cL, .long)]) [0, 1] rfl
    exact W.iret (v := 1) hx hb hr (fun t ht hW => ⟨⟨1, (words, of), rfl, trivial, by rw [ht]; exact hP9, va_K.moved hW.alike hK9, hD9⟩, hS.F ht⟩) hS.2.2 dL_poke_23
  obtain ⟨words2_3, rfl⟩ : ∃ z, z = u9 := ⟨_, rfl⟩
  obtain ⟨hP1, hK1, hD1⟩ := hB
  rw [ht] at hP1
  obtain ⟨hP, hD⟩ := va_join (wr := [(ho, .inl (cL, 1, .inr (.inl of)))]) (w1 := [(g0, .inr (4, [.ref aM, .ref aP, .int st])), (aM, .inr (1, [.ref aW, .ref aT, .int cnt])), (aW, .inl (cW, 2048, .inl words2_3))]) hP hD [0, 1, 2] [3] rfl rfl (by decide) (by decide) hk1 hFc hP1 hD1
  have hP : va_P (dC, dI) vwCl [(ho, .inl (cL, 1, .inr (.inl of))), (g0, .inr (4, [.ref aM, .ref aP, .int st])), (aM, .inr (1, [.ref aW, .ref aT, .int cnt])), (aW, .inl (cW, 2048, .inl words2_3))] H := hP
  have hD : va_D A [(ho, .inl (cL, 1, .inr (.inl of))), (g0, .inr (4, [.ref aM, .ref aP, .int st])), (aM, .inr (1, [.ref aW, .ref aT, .int cnt])), (aW, .inl (cW, 2048, .inl words2_3))] := hD
  refine W.widen (k := 1) (n := 6) (by omega) (by omega) ?_
  try dsimp only at hw_2
  refine lv_if_eq (tgt := 15) hx hb dL_poke_8 (by decide) (fun c_4 => ?_) (fun c_4 => ?_)
  · refine lv_lconst (v := 0) hx hb dL_poke_15 (by decide) ?_
    refine va_last hx hb hK hP hD hS 0 1 rfl rfl (by unfold vp_in; decide) dL_poke_16 (fun H locs hP hD hS => ?_)
    have hP : va_P (dC, dI) vwCl [(ho, .inl (cL, 1, .inr (.inl (vp_updL of (0 : Int32).toNatClampNeg 0)))), (g0, .inr (4, [.ref aM, .ref aP, .int st])), (aM, .inr (1, [.ref aW, .ref aT, .int cnt])), (aW, .inl (cW, 2048, .inl words2_3))] H := hP
    have hD : va_D A [(ho, .inl (cL, 1, .inr (.inl (vp_updL of (0 : Int32).toNatClampNeg 0)))), (g0, .inr (4, [.ref aM, .ref aP, .int st])), (aM, .inr (1, [.ref aW, .ref aT, .int cnt])), (aW, .inl (cW, 2048, .inl words2_3))] := hD
    generalize (vp_updL of (0 : Int32).toNatClampNeg 0) = g_5 at hP hD
    refine lv_goto (tgt := 24) hx hb dL_poke_17 (by decide) ?_
    refine lv_iconst (v := 0) hx hb dL_poke_24 (by decide) ?_
    have hP9 := hP.sub (ws' := [(g0, .inr (4, [.ref aM, .ref aP, .int st])), (aM, .inr (1, [.ref aW, .ref aT, .int cnt])), (aW, .inl (cW, 2048, .inl words2_3)), (ho, .inl (cL, 1, .inr (.inl g_5)))]) [1, 2, 3, 0] rfl
    have hD9 := hD.sub (ws' := [(g0, .inr (4, [.ref aM, .ref aP, .int st])), (aM, .inr (1, [.ref aW, .ref aT, .int cnt])), (aW, .inl (cW, 2048, .inl words2_3)), (ho, .inl (cL, 1, .inr (.inl g_5)))]) [1, 2, 3, 0] (by decide) rfl
    have hK9 := hK.sub (tys' := [(cW, .int), (cL, .long)]) [0, 1] rfl
    exact W.iret (v := 0) hx hb hr (fun t ht hW => ⟨⟨0, (words2_3, g_5), rfl, trivial, by rw [ht]; exact hP9, va_K.moved hW.alike hK9, hD9⟩, hS.F ht⟩) hS.2.2 dL_poke_25
  · refine lv_lconst (v := 1) hx hb dL_poke_11 (by decide) ?_
    refine lv_goto (tgt := 16) hx hb dL_poke_12 (by decide) ?_
    refine va_last hx hb hK hP hD hS 0 1 rfl rfl (by unfold vp_in; decide) dL_poke_16 (fun H locs hP hD hS => ?_)
    have hP : va_P (dC, dI) vwCl [(ho, .inl (cL, 1, .inr (.inl (vp_updL of (0 : Int32).toNatClampNeg 1)))), (g0, .inr (4, [.ref aM, .ref aP, .int st])), (aM, .inr (1, [.ref aW, .ref aT, .int cnt])), (aW, .inl (cW, 2048, .inl words2_3))] H := hP
    have hD : va_D A [(ho, .inl (cL, 1, .inr (.inl (vp_updL of (0 : Int32).toNatClampNeg 1)))), (g0, .inr (4, [.ref aM, .ref aP, .int st])), (aM, .inr (1, [.ref aW, .ref aT, .int cnt])), (aW, .inl (cW, 2048, .inl words2_3))] := hD
    generalize (vp_updL of (0 : Int32).toNatClampNeg 1) = g_6 at hP hD
    refine lv_goto (tgt := 24) hx hb dL_poke_17 (by decide) ?_
    refine lv_iconst (v := 0) hx hb dL_poke_24 (by decide) ?_
    have hP9 := hP.sub (ws' := [(g0, .inr (4, [.ref aM, .ref aP, .int st])), (aM, .inr (1, [.ref aW, .ref aT, .int cnt])), (aW, .inl (cW, 2048, .inl words2_3)), (ho, .inl (cL, 1, .inr (.inl g_6)))]) [1, 2, 3, 0] rfl
    have hD9 := hD.sub (ws' := [(g0, .inr (4, [.ref aM, .ref aP, .int st])), (aM, .inr (1, [.ref aW, .ref aT, .int cnt])), (aW, .inl (cW, 2048, .inl words2_3)), (ho, .inl (cL, 1, .inr (.inl g_6)))]) [1, 2, 3, 0] (by decide) rfl
    have hK9 := hK.sub (tys' := [(cW, .int), (cL, .long)]) [0, 1] rfl
    exact W.iret (v := 0) hx hb hr (fun t ht hW => ⟨⟨0, (words2_3, g_6), rfl, trivial, by rw [ht]; exact hP9, va_K.moved hW.alike hK9, hD9⟩, hS.F ht⟩) hS.2.2 dL_poke_25
set_option maxHeartbeats 4000000 in
set_option maxRecDepth 100000 in
theorem s_L_register (l : Launch) (hl0 : l.stackTraces = false) (dC : Nat → ClassId) (dI : Nat → Nat → Nat) (sz : Nat) (g0 : Nat) (k : Int32) (ho : Nat) (aM : Nat) (aP : Nat) (st : Int32) (aR : Nat) (aF : Nat) (aN : Nat) (aA : Nat) (aB : Nat) (fault : Int32) (cA : ClassId) (regs : Nat → Int32) (cL : ClassId) (of : Nat → Int64)  : Met l yL_register wsL_register ({ frames := 8, cells := 1, slots := 6, locals := 131 }) (va_Pc [.ref g0, .int k, .ref ho] (q_prx dC dI sz [(g0, .inr (4, [.ref aM, .ref aP, .int st])), (aP, .inr (3, [.ref aR, .ref aF])), (aR, .inr (2, [.ref aN, .ref aA, .ref aB, .int fault])), (aA, .inl (cA, 8, .inl regs)), (ho, .inl (cL, 1, .inr (.inl of)))] [(cA, .int), (cL, .long)])) (va_Qi (fun (r : Int32) (u9 : (Nat → Int64)) => True) (q_at dC dI (va_A [(g0, .inr (4, [.ref aM, .ref aP, .int st])), (aP, .inr (3, [.ref aR, .ref aF])), (aR, .inr (2, [.ref aN, .ref aA, .ref aB, .int fault])), (aA, .inl (cA, 8, .inl regs)), (ho, .inl (cL, 1, .inr (.inl of)))] sz) (fun (u9 : (Nat → Int64)) => [(cA, .int), (cL, .long)]) (fun (u9 : (Nat → Int64)) => [(g0, .inr (4, [.ref aM, .ref aP, .int st])), (aP, .inr (3, [.ref aR, .ref aF])), (aR, .inr (2, [.ref aN, .ref aA, .ref aB, .int fault])), (aA, .inl (cA, 8, .inl regs)), (ho, .inl (cL, 1, .inr (.inl u9)))])) (va_A [(g0, .inr (4, [.ref aM, .ref aP, .int st])), (aP, .inr (3, [.ref aR, .ref aF])), (aR, .inr (2, [.ref aN, .ref aA, .ref aB, .int fault])), (aA, .inl (cA, 8, .inl regs)), (ho, .inl (cL, 1, .inr (.inl of)))] sz)) 1 6 (va_A [(g0, .inr (4, [.ref aM, .ref aP, .int st])), (aP, .inr (3, [.ref aR, .ref aF])), (aR, .inr (2, [.ref aN, .ref aA, .ref aB, .int fault])), (aA, .inl (cA, 8, .inl regs)), (ho, .inl (cL, 1, .inr (.inl of)))] sz) := by
  refine va_MetW (cc := cL_register) (maxL := 4) (ret := (some .int)) (hh := [(0, 9, 12, 13)]) (by decide) rfl ?_
  intro p e s m args below meth c s₁ B hml hv
  obtain ⟨rfl, ⟨hsz, hP, hK, hD0, hN⟩, hT⟩ := hv
  have hx := B.exec
  have hb := B.bytes
  have hr := B.returns
  have hts := atoms_spec (ws := wsL_register) B.pre
  have hown : s.vm.findClass RL = some m.cls := findClass_of_methodNamed B.named
  have hlocks := B.notSynchronized
  have htab : c.exceptionTable.toList = [⟨0, 9, 12, 13⟩] := vx_table (x := yL_register) B (hts _ List.mem_cons_self)
  subst hsz
  have hD := hD0.self (sz := s.heap.size)
  generalize hAe : va_A [(g0, .inr (4, [.ref aM, .ref aP, .int st])), (aP, .inr (3, [.ref aR, .ref aF])), (aR, .inr (2, [.ref aN, .ref aA, .ref aB, .int fault])), (aA, .inl (cA, 8, .inl regs)), (ho, .inl (cL, 1, .inr (.inl of)))] s.heap.size = A at hD hT ⊢
  have hA : ∀ q : Nat, s.heap.size ≤ q → A q := fun q h => by rw [← hAe]; exact Or.inr h
  have hS : va_S A s.heap s.heap [] := va_S.rf
  have hP : va_P (dC, dI) vwCl [(g0, .inr (4, [.ref aM, .ref aP, .int st])), (aP, .inr (3, [.ref aR, .ref aF])), (aR, .inr (2, [.ref aN, .ref aA, .ref aB, .int fault])), (aA, .inl (cA, 8, .inl regs)), (ho, .inl (cL, 1, .inr (.inl of)))] s.heap := hP
  have hl := lv_entry ([.ref g0, .int k, .ref ho]) (n := 4) (Nat.le_of_ble_eq_true rfl)
  rw [lg_entry_eq]
  generalize (lg_sl ([.ref g0, .int k, .ref ho]) ++ List.replicate (4 - (lg_sl ([.ref g0, .int k, .ref ho])).length) Slot.unset).toArray = ls at hl ⊢
  have hl : lv_has ls 4 [(0, .ref g0), (1, .int k), (2, .ref ho)] := hl
  refine lv_aload_n hx hb dL_register_0 rfl (lv_at hl 2 rfl) ?_
  refine lv_iconst (v := 0) hx hb dL_register_1 (by decide) ?_
  refine lv_aload_n hx hb dL_register_2 rfl (lv_at hl 0 rfl) ?_
  refine lv_iload_n hx hb dL_register_3 rfl (lv_at hl 1 rfl) ?_
  have hPc := hP.sub (ws' := [(g0, .inr (4, [.ref aM, .ref aP, .int st])), (aP, .inr (3, [.ref aR, .ref aF])), (aR, .inr (2, [.ref aN, .ref aA, .ref aB, .int fault])), (aA, .inl (cA, 8, .inl regs))]) [0, 1, 2, 3] rfl
  have hDc := hD.sub (ws' := [(g0, .inr (4, [.ref aM, .ref aP, .int st])), (aP, .inr (3, [.ref aR, .ref aF])), (aR, .inr (2, [.ref aN, .ref aA, .ref aB, .int fault])), (aA, .inl (cA, 8, .inl regs))]) [0, 1, 2, 3] (by decide) rfl
  have hKc := hK.sub (tys' := [(cA, .int)]) [0] rfl
  have hFc := va_free (wc := [(g0, .inr (4, [.ref aM, .ref aP, .int st])), (aP, .inr (3, [.ref aR, .ref aF])), (aR, .inr (2, [.ref aN, .ref aA, .ref aB, .int fault])), (aA, .inl (cA, 8, .inl regs))]) hD hS hA [0, 1, 2, 3] rfl
  refine vx_calli (vx_runV (C := RX4) (b := g0) (As := [.int k]) (rest := [.int 0, .ref ho]) ⟨hx, hb, hml, hown, hts⟩ (s_X4_register l hl0 dC dI s.heap.size g0 k aM aP st aR aF aN aA aB fault cA regs) (cwV 1 hts gL_register_X4_register rfl rfl rfl (by decide +kernel) ⟨Nat.le_of_ble_eq_true rfl, Nat.le_of_ble_eq_true rfl⟩) ⟨q_blindx, va_recv hK hP (ci := 4) (q0 := 0) rfl rfl, fun U hU hW => ⟨rfl, q_payx hU hW hPc hKc hDc hN hT hS hFc⟩⟩ rfl rfl hl.1 rfl (lv_room (Nat.le_of_ble_eq_true rfl)) dL_register_4 ⟨show 0 + 1 ≤ 1 from by omega, show 0 + 6 ≤ 6 from by omega⟩) hS (fun q _ h => hFc q h) hFc (fun q h1 h2 => absurd h1 (Nat.not_lt.mpr h2)) (fun E9 ce9 q9 u9 t H9 locs ht hvm hw hB hz1 hk1 hS hq9 hv9 hc9 => ?_) (fun r_1 u9 t H locs ht hvm hw_2 hB hz1 hk1 hS => ?_)
  · obtain rfl := hB
    try dsimp only at hw
    have hP : va_P (dC, dI) vwCl [(g0, .inr (4, [.ref aM, .ref aP, .int st])), (aP, .inr (3, [.ref aR, .ref aF])), (aR, .inr (2, [.ref aN, .ref aA, .ref aB, .int fault])), (aA, .inl (cA, 8, .inl regs)), (ho, .inl (cL, 1, .inr (.inl of)))] H9 := hP.kept (fun k9 x9 h9 => hk1 x9.1 (vx_lt hP h9) (Nat.not_le.mpr (vx_lt hP h9)))
    refine q_catch (x := ⟨0, 9, 12, 13⟩) (E := "java/lang/IndexOutOfBoundsException") hown htab (by decide) (by decide) (hts (.classLink RL 13 "java/lang/IndexOutOfBoundsException") (by decide +kernel)) (va_Nw.use rfl (hN _ (List.mem_of_getElem? (i := 17) rfl))) hq9 hv9 hc9 ?_
    refine W.widen (k := 1) (n := 6) (by omega) (by omega) ?_
    refine lv_astore_n (lv' := [(3, .ref q9), (0, .ref g0), (1, .int k), (2, .ref ho)]) hx hb dL_register_12 rfl hl (by decide) rfl (fun ls hl => ?_)
    refine lv_iconst (v := 1) hx hb dL_register_13 (by decide) ?_
    have hP9 := hP.sub (ws' := [(g0, .inr (4, [.ref aM, .ref aP, .int st])), (aP, .inr (3, [.ref aR, .ref aF])), (aR, .inr (2, [.ref aN, .ref aA, .ref aB, .int fault])), (aA, .inl (cA, 8, .inl regs)), (ho, .inl (cL, 1, .inr (.inl of)))]) [0, 1, 2, 3, 4] rfl
    have hD9 := hD.sub (ws' := [(g0, .inr (4, [.ref aM, .ref aP, .int st])), (aP, .inr (3, [.ref aR, .ref aF])), (aR, .inr (2, [.ref aN, .ref aA, .ref aB, .int fault])), (aA, .inl (cA, 8, .inl regs)), (ho, .inl (cL, 1, .inr (.inl of)))]) [0, 1, 2, 3, 4] (by decide) rfl
    have hK9 := hK.sub (tys' := [(cA, .int), (cL, .long)]) [0, 1] rfl
    exact W.iret (v := 1) hx hb hr (fun t ht hW => ⟨⟨1, of, rfl, trivial, by rw [ht]; exact hP9, va_K.moved hW.alike hK9, hD9⟩, hS.F ht⟩) hS.2.2 dL_register_14
  obtain ⟨hP1, hK1, hD1⟩ := hB
  rw [ht] at hP1
  obtain ⟨hP, hD⟩ := va_join (wr := [(ho, .inl (cL, 1, .inr (.inl of)))]) (w1 := [(g0, .inr (4, [.ref aM, .ref aP, .int st])), (aP, .inr (3, [.ref aR, .ref aF])), (aR, .inr (2, [.ref aN, .ref aA, .ref aB, .int fault])), (aA, .inl (cA, 8, .inl regs))]) hP hD [0, 1, 2, 3] [4] rfl rfl (by decide) (by decide) hk1 hFc hP1 hD1
  have hP : va_P (dC, dI) vwCl [(ho, .inl (cL, 1, .inr (.inl of))), (g0, .inr (4, [.ref aM, .ref aP, .int st])), (aP, .inr (3, [.ref aR, .ref aF])), (aR, .inr (2, [.ref aN, .ref aA, .ref aB, .int fault])), (aA, .inl (cA, 8, .inl regs))] H := hP
  have hD : va_D A [(ho, .inl (cL, 1, .inr (.inl of))), (g0, .inr (4, [.ref aM, .ref aP, .int st])), (aP, .inr (3, [.ref aR, .ref aF])), (aR, .inr (2, [.ref aN, .ref aA, .ref aB, .int fault])), (aA, .inl (cA, 8, .inl regs))] := hD
  refine W.widen (k := 1) (n := 6) (by omega) (by omega) ?_
  try dsimp only at hw_2
  refine lv_i2l (v := Int32.toInt64 r_1) hx hb dL_register_7 rfl ?_
  refine va_last hx hb hK hP hD hS 0 1 rfl rfl (by unfold vp_in; decide) dL_register_8 (fun H locs hP hD hS => ?_)
  have hP : va_P (dC, dI) vwCl [(ho, .inl (cL, 1, .inr (.inl (vp_updL of (0 : Int32).toNatClampNeg (Int32.toInt64 r_1))))), (g0, .inr (4, [.ref aM, .ref aP, .int st])), (aP, .inr (3, [.ref aR, .ref aF])), (aR, .inr (2, [.ref aN, .ref aA, .ref aB, .int fault])), (aA, .inl (cA, 8, .inl regs))] H := hP
  have hD : va_D A [(ho, .inl (cL, 1, .inr (.inl (vp_updL of (0 : Int32).toNatClampNeg (Int32.toInt64 r_1))))), (g0, .inr (4, [.ref aM, .ref aP, .int st])), (aP, .inr (3, [.ref aR, .ref aF])), (aR, .inr (2, [.ref aN, .ref aA, .ref aB, .int fault])), (aA, .inl (cA, 8, .inl regs))] := hD
  generalize (vp_updL of (0 : Int32).toNatClampNeg (Int32.toInt64 r_1)) = g_3 at hP hD
  refine lv_goto (tgt := 15) hx hb dL_register_9 (by decide) ?_
  refine lv_iconst (v := 0) hx hb dL_register_15 (by decide) ?_
  have hP9 := hP.sub (ws' := [(g0, .inr (4, [.ref aM, .ref aP, .int st])), (aP, .inr (3, [.ref aR, .ref aF])), (aR, .inr (2, [.ref aN, .ref aA, .ref aB, .int fault])), (aA, .inl (cA, 8, .inl regs)), (ho, .inl (cL, 1, .inr (.inl g_3)))]) [1, 2, 3, 4, 0] rfl
  have hD9 := hD.sub (ws' := [(g0, .inr (4, [.ref aM, .ref aP, .int st])), (aP, .inr (3, [.ref aR, .ref aF])), (aR, .inr (2, [.ref aN, .ref aA, .ref aB, .int fault])), (aA, .inl (cA, 8, .inl regs)), (ho, .inl (cL, 1, .inr (.inl g_3)))]) [1, 2, 3, 4, 0] (by decide) rfl
  have hK9 := hK.sub (tys' := [(cA, .int), (cL, .long)]) [0, 1] rfl
  exact W.iret (v := 0) hx hb hr (fun t ht hW => ⟨⟨0, g_3, rfl, trivial, by rw [ht]; exact hP9, va_K.moved hW.alike hK9, hD9⟩, hS.F ht⟩) hS.2.2 dL_register_16
set_option maxHeartbeats 4000000 in
set_option maxRecDepth 100000 in
theorem s_L_put (l : Launch) (hl0 : l.stackTraces = false) (dC : Nat → ClassId) (dI : Nat → Nat → Nat) (sz : Nat) (g0 : Nat) (k : Int32) (v : Int32) (aM : Nat) (aP : Nat) (st : Int32) (aR : Nat) (aF : Nat) (aN : Nat) (aA : Nat) (aB : Nat) (fault : Int32) (cA : ClassId) (regs : Nat → Int32)  : Met l yL_put wsL_put ({ frames := 8, cells := 1, slots := 6, locals := 132 }) (va_Pc [.ref g0, .int k, .int v] (q_prx dC dI sz [(g0, .inr (4, [.ref aM, .ref aP, .int st])), (aP, .inr (3, [.ref aR, .ref aF])), (aR, .inr (2, [.ref aN, .ref aA, .ref aB, .int fault])), (aA, .inl (cA, 8, .inl regs))] [(cA, .int)])) (va_Qi (fun (r : Int32) (u9 : (Nat → Int32)) => (r = 0 ∧ vp_in k 8) ∨ (r = 1 ∧ ¬ vp_in k 8)) (q_at dC dI (va_A [(g0, .inr (4, [.ref aM, .ref aP, .int st])), (aP, .inr (3, [.ref aR, .ref aF])), (aR, .inr (2, [.ref aN, .ref aA, .ref aB, .int fault])), (aA, .inl (cA, 8, .inl regs))] sz) (fun (u9 : (Nat → Int32)) => [(cA, .int)]) (fun (u9 : (Nat → Int32)) => [(g0, .inr (4, [.ref aM, .ref aP, .int st])), (aP, .inr (3, [.ref aR, .ref aF])), (aR, .inr (2, [.ref aN, .ref aA, .ref aB, .int fault])), (aA, .inl (cA, 8, .inl u9))])) (va_A [(g0, .inr (4, [.ref aM, .ref aP, .int st])), (aP, .inr (3, [.ref aR, .ref aF])), (aR, .inr (2, [.ref aN, .ref aA, .ref aB, .int fault])), (aA, .inl (cA, 8, .inl regs))] sz)) 1 6 (va_A [(g0, .inr (4, [.ref aM, .ref aP, .int st])), (aP, .inr (3, [.ref aR, .ref aF])), (aR, .inr (2, [.ref aN, .ref aA, .ref aB, .int fault])), (aA, .inl (cA, 8, .inl regs))] sz) := by
  refine va_MetW (cc := cL_put) (maxL := 4) (ret := (some .int)) (hh := [(0, 6, 9, 13)]) (by decide) rfl ?_
  intro p e s m args below meth c s₁ B hml hv
  obtain ⟨rfl, ⟨hsz, hP, hK, hD0, hN⟩, hT⟩ := hv
  have hx := B.exec
  have hb := B.bytes
  have hr := B.returns
  have hts := atoms_spec (ws := wsL_put) B.pre
  have hown : s.vm.findClass RL = some m.cls := findClass_of_methodNamed B.named
  have hlocks := B.notSynchronized
  have htab : c.exceptionTable.toList = [⟨0, 6, 9, 13⟩] := vx_table (x := yL_put) B (hts _ List.mem_cons_self)
  subst hsz
  have hD := hD0.self (sz := s.heap.size)
  generalize hAe : va_A [(g0, .inr (4, [.ref aM, .ref aP, .int st])), (aP, .inr (3, [.ref aR, .ref aF])), (aR, .inr (2, [.ref aN, .ref aA, .ref aB, .int fault])), (aA, .inl (cA, 8, .inl regs))] s.heap.size = A at hD hT ⊢
  have hA : ∀ q : Nat, s.heap.size ≤ q → A q := fun q h => by rw [← hAe]; exact Or.inr h
  have hS : va_S A s.heap s.heap [] := va_S.rf
  have hP : va_P (dC, dI) vwCl [(g0, .inr (4, [.ref aM, .ref aP, .int st])), (aP, .inr (3, [.ref aR, .ref aF])), (aR, .inr (2, [.ref aN, .ref aA, .ref aB, .int fault])), (aA, .inl (cA, 8, .inl regs))] s.heap := hP
  have hl := lv_entry ([.ref g0, .int k, .int v]) (n := 4) (Nat.le_of_ble_eq_true rfl)
  rw [lg_entry_eq]
  generalize (lg_sl ([.ref g0, .int k, .int v]) ++ List.replicate (4 - (lg_sl ([.ref g0, .int k, .int v])).length) Slot.unset).toArray = ls at hl ⊢
  have hl : lv_has ls 4 [(0, .ref g0), (1, .int k), (2, .int v)] := hl
  refine lv_aload_n hx hb dL_put_0 rfl (lv_at hl 0 rfl) ?_
  refine lv_iload_n hx hb dL_put_1 rfl (lv_at hl 1 rfl) ?_
  refine lv_iload_n hx hb dL_put_2 rfl (lv_at hl 2 rfl) ?_
  have hPc := hP.sub (ws' := [(g0, .inr (4, [.ref aM, .ref aP, .int st])), (aP, .inr (3, [.ref aR, .ref aF])), (aR, .inr (2, [.ref aN, .ref aA, .ref aB, .int fault])), (aA, .inl (cA, 8, .inl regs))]) [0, 1, 2, 3] rfl
  have hDc := hD.sub (ws' := [(g0, .inr (4, [.ref aM, .ref aP, .int st])), (aP, .inr (3, [.ref aR, .ref aF])), (aR, .inr (2, [.ref aN, .ref aA, .ref aB, .int fault])), (aA, .inl (cA, 8, .inl regs))]) [0, 1, 2, 3] (by decide) rfl
  have hKc := hK.sub (tys' := [(cA, .int)]) [0] rfl
  have hFc := va_free (wc := [(g0, .inr (4, [.ref aM, .ref aP, .int st])), (aP, .inr (3, [.ref aR, .ref aF])), (aR, .inr (2, [.ref aN, .ref aA, .ref aB, .int fault])), (aA, .inl (cA, 8, .inl regs))]) hD hS hA [0, 1, 2, 3] rfl
  refine vx_callv (vx_runV (C := RX4) (b := g0) (As := [.int k, .int v]) (rest := []) ⟨hx, hb, hml, hown, hts⟩ (s_X4_put l hl0 dC dI s.heap.size g0 k v aM aP st aR aF aN aA aB fault cA regs) (cwV 2 hts gL_put_X4_put rfl rfl rfl (by decide +kernel) ⟨Nat.le_of_ble_eq_true rfl, Nat.le_of_ble_eq_true rfl⟩) ⟨q_blindx, va_recv hK hP (ci := 4) (q0 := 0) rfl rfl, fun U hU hW => ⟨rfl, q_payx hU hW hPc hKc hDc hN hT hS hFc⟩⟩ rfl rfl hl.1 rfl (lv_room (Nat.le_of_ble_eq_true rfl)) dL_put_3 ⟨show 0 + 1 ≤ 1 from by omega, show 0 + 6 ≤ 6 from by omega⟩) hS (fun q _ h => hFc q h) hFc (fun q h1 h2 => absurd h1 (Nat.not_lt.mpr h2)) (fun E9 ce9 q9 u9 t H9 locs ht hvm hw hB hz1 hk1 hS hq9 hv9 hc9 => ?_) (fun u9 t H locs ht hvm hw_2 hB hz1 hk1 hS => ?_)
  · obtain rfl := hB
    try dsimp only at hw
    have hP : va_P (dC, dI) vwCl [(g0, .inr (4, [.ref aM, .ref aP, .int st])), (aP, .inr (3, [.ref aR, .ref aF])), (aR, .inr (2, [.ref aN, .ref aA, .ref aB, .int fault])), (aA, .inl (cA, 8, .inl regs))] H9 := hP.kept (fun k9 x9 h9 => hk1 x9.1 (vx_lt hP h9) (Nat.not_le.mpr (vx_lt hP h9)))
    refine q_catch (x := ⟨0, 6, 9, 13⟩) (E := "java/lang/IndexOutOfBoundsException") hown htab (by decide) (by decide) (hts (.classLink RL 13 "java/lang/IndexOutOfBoundsException") (by decide +kernel)) (va_Nw.use rfl (hN _ (List.mem_of_getElem? (i := 17) rfl))) hq9 hv9 hc9 ?_
    refine W.widen (k := 1) (n := 6) (by omega) (by omega) ?_
    refine lv_astore_n (lv' := [(3, .ref q9), (0, .ref g0), (1, .int k), (2, .int v)]) hx hb dL_put_9 rfl hl (by decide) rfl (fun ls hl => ?_)
    refine lv_iconst (v := 1) hx hb dL_put_10 (by decide) ?_
    have hP9 := hP.sub (ws' := [(g0, .inr (4, [.ref aM, .ref aP, .int st])), (aP, .inr (3, [.ref aR, .ref aF])), (aR, .inr (2, [.ref aN, .ref aA, .ref aB, .int fault])), (aA, .inl (cA, 8, .inl regs))]) [0, 1, 2, 3] rfl
    have hD9 := hD.sub (ws' := [(g0, .inr (4, [.ref aM, .ref aP, .int st])), (aP, .inr (3, [.ref aR, .ref aF])), (aR, .inr (2, [.ref aN, .ref aA, .ref aB, .int fault])), (aA, .inl (cA, 8, .inl regs))]) [0, 1, 2, 3] (by decide) rfl
    have hK9 := hK.sub (tys' := [(cA, .int)]) [0] rfl
    exact W.iret (v := 1) hx hb hr (fun t ht hW => ⟨⟨1, regs, rfl, Or.inr ⟨rfl, hw⟩, by rw [ht]; exact hP9, va_K.moved hW.alike hK9, hD9⟩, hS.F ht⟩) hS.2.2 dL_put_11
  obtain ⟨regs2_3, rfl⟩ : ∃ z, z = u9 := ⟨_, rfl⟩
  obtain ⟨hP1, hK1, hD1⟩ := hB
  rw [ht] at hP1
  obtain ⟨hP, hD⟩ := va_join (wr := []) (w1 := [(g0, .inr (4, [.ref aM, .ref aP, .int st])), (aP, .inr (3, [.ref aR, .ref aF])), (aR, .inr (2, [.ref aN, .ref aA, .ref aB, .int fault])), (aA, .inl (cA, 8, .inl regs2_3))]) hP hD [0, 1, 2, 3] [] rfl rfl (by decide) (by decide) hk1 hFc hP1 hD1
  have hP : va_P (dC, dI) vwCl [(g0, .inr (4, [.ref aM, .ref aP, .int st])), (aP, .inr (3, [.ref aR, .ref aF])), (aR, .inr (2, [.ref aN, .ref aA, .ref aB, .int fault])), (aA, .inl (cA, 8, .inl regs2_3))] H := hP
  have hD : va_D A [(g0, .inr (4, [.ref aM, .ref aP, .int st])), (aP, .inr (3, [.ref aR, .ref aF])), (aR, .inr (2, [.ref aN, .ref aA, .ref aB, .int fault])), (aA, .inl (cA, 8, .inl regs2_3))] := hD
  refine W.widen (k := 1) (n := 6) (by omega) (by omega) ?_
  try dsimp only at hw_2
  refine lv_goto (tgt := 12) hx hb dL_put_6 (by decide) ?_
  refine lv_iconst (v := 0) hx hb dL_put_12 (by decide) ?_
  have hP9 := hP.sub (ws' := [(g0, .inr (4, [.ref aM, .ref aP, .int st])), (aP, .inr (3, [.ref aR, .ref aF])), (aR, .inr (2, [.ref aN, .ref aA, .ref aB, .int fault])), (aA, .inl (cA, 8, .inl regs2_3))]) [0, 1, 2, 3] rfl
  have hD9 := hD.sub (ws' := [(g0, .inr (4, [.ref aM, .ref aP, .int st])), (aP, .inr (3, [.ref aR, .ref aF])), (aR, .inr (2, [.ref aN, .ref aA, .ref aB, .int fault])), (aA, .inl (cA, 8, .inl regs2_3))]) [0, 1, 2, 3] (by decide) rfl
  have hK9 := hK.sub (tys' := [(cA, .int)]) [0] rfl
  exact W.iret (v := 0) hx hb hr (fun t ht hW => ⟨⟨0, regs2_3, rfl, Or.inl ⟨rfl, hw_2⟩, by rw [ht]; exact hP9, va_K.moved hW.alike hK9, hD9⟩, hS.F ht⟩) hS.2.2 dL_put_13
set_option maxHeartbeats 4000000 in
set_option maxRecDepth 100000 in
theorem s_L_run (l : Launch) (hl0 : l.stackTraces = false) (dC : Nat → ClassId) (dI : Nat → Nat → Nat) (sz : Nat) (g0 : Nat) (n : Int32) (ho : Nat) (aM : Nat) (aP : Nat) (st : Int32) (aR : Nat) (aF : Nat) (aA : Nat) (aB : Nat) (fault : Int32) (cA : ClassId) (regs : Nat → Int32) (cB : ClassId) (regsB : Nat → Int32) (aW : Nat) (aT : Nat) (cnt : Int32) (cW : ClassId) (words : Nat → Int32) (cT : ClassId) (told : Nat → Int32) (fn : Int32) (fz : Int32) (fv : Int32) (fc : Int32) (cL : ClassId) (of : Nat → Int64) (h4 : ok4 cnt) : Met l yL_run wsL_run ({ frames := 7, cells := 1, slots := 6, locals := 266 }) (va_Pc [.ref g0, .int n, .ref ho] (q_prx dC dI sz [(g0, .inr (4, [.ref aM, .ref aP, .int st])), (aP, .inr (3, [.ref aR, .ref aF])), (aR, .inr (2, [.ref aM, .ref aA, .ref aB, .int fault])), (aA, .inl (cA, 8, .inl regs)), (aB, .inl (cB, 8, .inl regsB)), (aM, .inr (1, [.ref aW, .ref aT, .int cnt])), (aW, .inl (cW, 2048, .inl words)), (aT, .inl (cT, 400, .inl told)), (aF, .inr (0, [.int fn, .int fz, .int fv, .int fc])), (ho, .inl (cL, 1, .inr (.inl of)))] [(cA, .int), (cB, .int), (cW, .int), (cT, .int), (cL, .long)])) (va_Qi (fun (r : Int32) (u9 : Int32 × Int32 × (Nat → Int32) × (Nat → Int32) × Int32 × (Nat → Int32) × (Nat → Int32) × Int32 × Int32 × Int32 × Int32 × (Nat → Int64)) => ok4 u9.2.2.2.2.1) (q_at dC dI (va_A [(g0, .inr (4, [.ref aM, .ref aP, .int st])), (aP, .inr (3, [.ref aR, .ref aF])), (aR, .inr (2, [.ref aM, .ref aA, .ref aB, .int fault])), (aA, .inl (cA, 8, .inl regs)), (aB, .inl (cB, 8, .inl regsB)), (aM, .inr (1, [.ref aW, .ref aT, .int cnt])), (aW, .inl (cW, 2048, .inl words)), (aT, .inl (cT, 400, .inl told)), (aF, .inr (0, [.int fn, .int fz, .int fv, .int fc])), (ho, .inl (cL, 1, .inr (.inl of)))] sz) (fun (u9 : Int32 × Int32 × (Nat → Int32) × (Nat → Int32) × Int32 × (Nat → Int32) × (Nat → Int32) × Int32 × Int32 × Int32 × Int32 × (Nat → Int64)) => [(cA, .int), (cB, .int), (cW, .int), (cT, .int), (cL, .long)]) (fun (u9 : Int32 × Int32 × (Nat → Int32) × (Nat → Int32) × Int32 × (Nat → Int32) × (Nat → Int32) × Int32 × Int32 × Int32 × Int32 × (Nat → Int64)) => [(g0, .inr (4, [.ref aM, .ref aP, .int u9.1])), (aP, .inr (3, [.ref aR, .ref aF])), (aR, .inr (2, [.ref aM, .ref aA, .ref aB, .int u9.2.1])), (aA, .inl (cA, 8, .inl u9.2.2.1)), (aB, .inl (cB, 8, .inl u9.2.2.2.1)), (aM, .inr (1, [.ref aW, .ref aT, .int u9.2.2.2.2.1])), (aW, .inl (cW, 2048, .inl u9.2.2.2.2.2.1)), (aT, .inl (cT, 400, .inl u9.2.2.2.2.2.2.1)), (aF, .inr (0, [.int u9.2.2.2.2.2.2.2.1, .int u9.2.2.2.2.2.2.2.2.1, .int u9.2.2.2.2.2.2.2.2.2.1, .int u9.2.2.2.2.2.2.2.2.2.2.1])), (ho, .inl (cL, 1, .inr (.inl u9.2.2.2.2.2.2.2.2.2.2.2)))])) (va_A [(g0, .inr (4, [.ref aM, .ref aP, .int st])), (aP, .inr (3, [.ref aR, .ref aF])), (aR, .inr (2, [.ref aM, .ref aA, .ref aB, .int fault])), (aA, .inl (cA, 8, .inl regs)), (aB, .inl (cB, 8, .inl regsB)), (aM, .inr (1, [.ref aW, .ref aT, .int cnt])), (aW, .inl (cW, 2048, .inl words)), (aT, .inl (cT, 400, .inl told)), (aF, .inr (0, [.int fn, .int fz, .int fv, .int fc])), (ho, .inl (cL, 1, .inr (.inl of)))] sz)) 1 6 (va_A [(g0, .inr (4, [.ref aM, .ref aP, .int st])), (aP, .inr (3, [.ref aR, .ref aF])), (aR, .inr (2, [.ref aM, .ref aA, .ref aB, .int fault])), (aA, .inl (cA, 8, .inl regs)), (aB, .inl (cB, 8, .inl regsB)), (aM, .inr (1, [.ref aW, .ref aT, .int cnt])), (aW, .inl (cW, 2048, .inl words)), (aT, .inl (cT, 400, .inl told)), (aF, .inr (0, [.int fn, .int fz, .int fv, .int fc])), (ho, .inl (cL, 1, .inr (.inl of)))] sz) := by
  refine va_MetW (cc := cL_run) (maxL := 4) (ret := (some .int)) (hh := [(0, 9, 12, 33)]) (by decide) rfl ?_
  intro p e s m args below meth c s₁ B hml hv
  obtain ⟨rfl, ⟨hsz, hP, hK, hD0, hN⟩, hT⟩ := hv
  have hx := B.exec
  have hb := B.bytes
  have hr := B.returns
  have hts := atoms_spec (ws := wsL_run) B.pre
  have hown : s.vm.findClass RL = some m.cls := findClass_of_methodNamed B.named
  have hlocks := B.notSynchronized
  have htab : c.exceptionTable.toList = [⟨0, 9, 12, 33⟩] := vx_table (x := yL_run) B (hts _ List.mem_cons_self)
  subst hsz
  have hD := hD0.self (sz := s.heap.size)
  generalize hAe : va_A [(g0, .inr (4, [.ref aM, .ref aP, .int st])), (aP, .inr (3, [.ref aR, .ref aF])), (aR, .inr (2, [.ref aM, .ref aA, .ref aB, .int fault])), (aA, .inl (cA, 8, .inl regs)), (aB, .inl (cB, 8, .inl regsB)), (aM, .inr (1, [.ref aW, .ref aT, .int cnt])), (aW, .inl (cW, 2048, .inl words)), (aT, .inl (cT, 400, .inl told)), (aF, .inr (0, [.int fn, .int fz, .int fv, .int fc])), (ho, .inl (cL, 1, .inr (.inl of)))] s.heap.size = A at hD hT ⊢
  have hA : ∀ q : Nat, s.heap.size ≤ q → A q := fun q h => by rw [← hAe]; exact Or.inr h
  have hS : va_S A s.heap s.heap [] := va_S.rf
  have hP : va_P (dC, dI) vwCl [(g0, .inr (4, [.ref aM, .ref aP, .int st])), (aP, .inr (3, [.ref aR, .ref aF])), (aR, .inr (2, [.ref aM, .ref aA, .ref aB, .int fault])), (aA, .inl (cA, 8, .inl regs)), (aB, .inl (cB, 8, .inl regsB)), (aM, .inr (1, [.ref aW, .ref aT, .int cnt])), (aW, .inl (cW, 2048, .inl words)), (aT, .inl (cT, 400, .inl told)), (aF, .inr (0, [.int fn, .int fz, .int fv, .int fc])), (ho, .inl (cL, 1, .inr (.inl of)))] s.heap := hP
  have hl := lv_entry ([.ref g0, .int n, .ref ho]) (n := 4) (Nat.le_of_ble_eq_true rfl)
  rw [lg_entry_eq]
  generalize (lg_sl ([.ref g0, .int n, .ref ho]) ++ List.replicate (4 - (lg_sl ([.ref g0, .int n, .ref ho])).length) Slot.unset).toArray = ls at hl ⊢
  have hl : lv_has ls 4 [(0, .ref g0), (1, .int n), (2, .ref ho)] := hl
  refine lv_aload_n hx hb dL_run_0 rfl (lv_at hl 2 rfl) ?_
  refine lv_iconst (v := 0) hx hb dL_run_1 (by decide) ?_
  refine lv_aload_n hx hb dL_run_2 rfl (lv_at hl 0 rfl) ?_
  refine lv_iload_n hx hb dL_run_3 rfl (lv_at hl 1 rfl) ?_
  have hPc := hP.sub (ws' := [(g0, .inr (4, [.ref aM, .ref aP, .int st])), (aP, .inr (3, [.ref aR, .ref aF])), (aR, .inr (2, [.ref aM, .ref aA, .ref aB, .int fault])), (aA, .inl (cA, 8, .inl regs)), (aB, .inl (cB, 8, .inl regsB)), (aM, .inr (1, [.ref aW, .ref aT, .int cnt])), (aW, .inl (cW, 2048, .inl words)), (aT, .inl (cT, 400, .inl told)), (aF, .inr (0, [.int fn, .int fz, .int fv, .int fc]))]) [0, 1, 2, 3, 4, 5, 6, 7, 8] rfl
  have hDc := hD.sub (ws' := [(g0, .inr (4, [.ref aM, .ref aP, .int st])), (aP, .inr (3, [.ref aR, .ref aF])), (aR, .inr (2, [.ref aM, .ref aA, .ref aB, .int fault])), (aA, .inl (cA, 8, .inl regs)), (aB, .inl (cB, 8, .inl regsB)), (aM, .inr (1, [.ref aW, .ref aT, .int cnt])), (aW, .inl (cW, 2048, .inl words)), (aT, .inl (cT, 400, .inl told)), (aF, .inr (0, [.int fn, .int fz, .int fv, .int fc]))]) [0, 1, 2, 3, 4, 5, 6, 7, 8] (by decide) rfl
  have hKc := hK.sub (tys' := [(cA, .int), (cB, .int), (cW, .int), (cT, .int)]) [0, 1, 2, 3] rfl
  have hFc := va_free (wc := [(g0, .inr (4, [.ref aM, .ref aP, .int st])), (aP, .inr (3, [.ref aR, .ref aF])), (aR, .inr (2, [.ref aM, .ref aA, .ref aB, .int fault])), (aA, .inl (cA, 8, .inl regs)), (aB, .inl (cB, 8, .inl regsB)), (aM, .inr (1, [.ref aW, .ref aT, .int cnt])), (aW, .inl (cW, 2048, .inl words)), (aT, .inl (cT, 400, .inl told)), (aF, .inr (0, [.int fn, .int fz, .int fv, .int fc]))]) hD hS hA [0, 1, 2, 3, 4, 5, 6, 7, 8] rfl
  refine vx_calli (vx_runV (C := RX4) (b := g0) (As := [.int n]) (rest := [.int 0, .ref ho]) ⟨hx, hb, hml, hown, hts⟩ (s_X4_run l hl0 dC dI s.heap.size g0 n aM aP st aR aF aA aB fault cA regs cB regsB aW aT cnt cW words cT told fn fz fv fc h4) (cwV 1 hts gL_run_X4_run rfl rfl rfl (by decide +kernel) ⟨Nat.le_of_ble_eq_true rfl, Nat.le_of_ble_eq_true rfl⟩) ⟨q_blindx, va_recv hK hP (ci := 4) (q0 := 0) rfl rfl, fun U hU hW => ⟨rfl, q_payx hU hW hPc hKc hDc hN hT hS hFc⟩⟩ rfl rfl hl.1 rfl (lv_room (Nat.le_of_ble_eq_true rfl)) dL_run_4 ⟨show 0 + 1 ≤ 1 from by omega, show 0 + 6 ≤ 6 from by omega⟩) hS (fun q _ h => hFc q h) hFc (fun q h1 h2 => absurd h1 (Nat.not_lt.mpr h2)) (fun E9 ce9 q9 u9 t H9 locs ht hvm hw hB hz1 hk1 hS hq9 hv9 hc9 => ?_) (fun r_1 u9 t H locs ht hvm hw_2 hB hz1 hk1 hS => ?_)
  · obtain rfl := hB
    try dsimp only at hw
    have hP : va_P (dC, dI) vwCl [(g0, .inr (4, [.ref aM, .ref aP, .int st])), (aP, .inr (3, [.ref aR, .ref aF])), (aR, .inr (2, [.ref aM, .ref aA, .ref aB, .int fault])), (aA, .inl (cA, 8, .inl regs)), (aB, .inl (cB, 8, .inl regsB)), (aM, .inr (1, [.ref aW, .ref aT, .int cnt])), (aW, .inl (cW, 2048, .inl words)), (aT, .inl (cT, 400, .inl told)), (aF, .inr (0, [.int fn, .int fz, .int fv, .int fc])), (ho, .inl (cL, 1, .inr (.inl of)))] H9 := hP.kept (fun k9 x9 h9 => hk1 x9.1 (vx_lt hP h9) (Nat.not_le.mpr (vx_lt hP h9)))
    refine q_catch (x := ⟨0, 9, 12, 33⟩) (E := "java/lang/IllegalArgumentException") hown htab (by decide) (by decide) (hts (.classLink RL 33 "java/lang/IllegalArgumentException") (by decide +kernel)) (va_Nw.use rfl (hN _ (List.mem_of_getElem? (i := 18) rfl))) hq9 hv9 hc9 ?_
    refine W.widen (k := 1) (n := 6) (by omega) (by omega) ?_
    refine lv_astore_n (lv' := [(3, .ref q9), (0, .ref g0), (1, .int n), (2, .ref ho)]) hx hb dL_run_12 rfl hl (by decide) rfl (fun ls hl => ?_)
    refine lv_iconst (v := 1) hx hb dL_run_13 (by decide) ?_
    have hP9 := hP.sub (ws' := [(g0, .inr (4, [.ref aM, .ref aP, .int st])), (aP, .inr (3, [.ref aR, .ref aF])), (aR, .inr (2, [.ref aM, .ref aA, .ref aB, .int fault])), (aA, .inl (cA, 8, .inl regs)), (aB, .inl (cB, 8, .inl regsB)), (aM, .inr (1, [.ref aW, .ref aT, .int cnt])), (aW, .inl (cW, 2048, .inl words)), (aT, .inl (cT, 400, .inl told)), (aF, .inr (0, [.int fn, .int fz, .int fv, .int fc])), (ho, .inl (cL, 1, .inr (.inl of)))]) [0, 1, 2, 3, 4, 5, 6, 7, 8, 9] rfl
    have hD9 := hD.sub (ws' := [(g0, .inr (4, [.ref aM, .ref aP, .int st])), (aP, .inr (3, [.ref aR, .ref aF])), (aR, .inr (2, [.ref aM, .ref aA, .ref aB, .int fault])), (aA, .inl (cA, 8, .inl regs)), (aB, .inl (cB, 8, .inl regsB)), (aM, .inr (1, [.ref aW, .ref aT, .int cnt])), (aW, .inl (cW, 2048, .inl words)), (aT, .inl (cT, 400, .inl told)), (aF, .inr (0, [.int fn, .int fz, .int fv, .int fc])), (ho, .inl (cL, 1, .inr (.inl of)))]) [0, 1, 2, 3, 4, 5, 6, 7, 8, 9] (by decide) rfl
    have hK9 := hK.sub (tys' := [(cA, .int), (cB, .int), (cW, .int), (cT, .int), (cL, .long)]) [0, 1, 2, 3, 4] rfl
    exact W.iret (v := 1) hx hb hr (fun t ht hW => ⟨⟨1, (st, fault, regs, regsB, cnt, words, told, fn, fz, fv, fc, of), rfl, h4, by rw [ht]; exact hP9, va_K.moved hW.alike hK9, hD9⟩, hS.F ht⟩) hS.2.2 dL_run_14
  obtain ⟨st2_3, fault2_4, regs2_5, regsB2_6, cnt2_7, words2_8, told2_9, fn2_10, fz2_11, fv2_12, fc2_13⟩ := u9
  obtain ⟨hP1, hK1, hD1⟩ := hB
  rw [ht] at hP1
  obtain ⟨hP, hD⟩ := va_join (wr := [(ho, .inl (cL, 1, .inr (.inl of)))]) (w1 := [(g0, .inr (4, [.ref aM, .ref aP, .int st2_3])), (aP, .inr (3, [.ref aR, .ref aF])), (aR, .inr (2, [.ref aM, .ref aA, .ref aB, .int fault2_4])), (aA, .inl (cA, 8, .inl regs2_5)), (aB, .inl (cB, 8, .inl regsB2_6)), (aM, .inr (1, [.ref aW, .ref aT, .int cnt2_7])), (aW, .inl (cW, 2048, .inl words2_8)), (aT, .inl (cT, 400, .inl told2_9)), (aF, .inr (0, [.int fn2_10, .int fz2_11, .int fv2_12, .int fc2_13]))]) hP hD [0, 1, 2, 3, 4, 5, 6, 7, 8] [9] rfl rfl (by decide) (by decide) hk1 hFc hP1 hD1
  have hP : va_P (dC, dI) vwCl [(ho, .inl (cL, 1, .inr (.inl of))), (g0, .inr (4, [.ref aM, .ref aP, .int st2_3])), (aP, .inr (3, [.ref aR, .ref aF])), (aR, .inr (2, [.ref aM, .ref aA, .ref aB, .int fault2_4])), (aA, .inl (cA, 8, .inl regs2_5)), (aB, .inl (cB, 8, .inl regsB2_6)), (aM, .inr (1, [.ref aW, .ref aT, .int cnt2_7])), (aW, .inl (cW, 2048, .inl words2_8)), (aT, .inl (cT, 400, .inl told2_9)), (aF, .inr (0, [.int fn2_10, .int fz2_11, .int fv2_12, .int fc2_13]))] H := hP
  have hD : va_D A [(ho, .inl (cL, 1, .inr (.inl of))), (g0, .inr (4, [.ref aM, .ref aP, .int st2_3])), (aP, .inr (3, [.ref aR, .ref aF])), (aR, .inr (2, [.ref aM, .ref aA, .ref aB, .int fault2_4])), (aA, .inl (cA, 8, .inl regs2_5)), (aB, .inl (cB, 8, .inl regsB2_6)), (aM, .inr (1, [.ref aW, .ref aT, .int cnt2_7])), (aW, .inl (cW, 2048, .inl words2_8)), (aT, .inl (cT, 400, .inl told2_9)), (aF, .inr (0, [.int fn2_10, .int fz2_11, .int fv2_12, .int fc2_13]))] := hD
  refine W.widen (k := 1) (n := 6) (by omega) (by omega) ?_
  try dsimp only at hw_2
  refine lv_i2l (v := Int32.toInt64 r_1) hx hb dL_run_7 rfl ?_
  refine va_last hx hb hK hP hD hS 0 4 rfl rfl (by unfold vp_in; decide) dL_run_8 (fun H locs hP hD hS => ?_)
  have hP : va_P (dC, dI) vwCl [(ho, .inl (cL, 1, .inr (.inl (vp_updL of (0 : Int32).toNatClampNeg (Int32.toInt64 r_1))))), (g0, .inr (4, [.ref aM, .ref aP, .int st2_3])), (aP, .inr (3, [.ref aR, .ref aF])), (aR, .inr (2, [.ref aM, .ref aA, .ref aB, .int fault2_4])), (aA, .inl (cA, 8, .inl regs2_5)), (aB, .inl (cB, 8, .inl regsB2_6)), (aM, .inr (1, [.ref aW, .ref aT, .int cnt2_7])), (aW, .inl (cW, 2048, .inl words2_8)), (aT, .inl (cT, 400, .inl told2_9)), (aF, .inr (0, [.int fn2_10, .int fz2_11, .int fv2_12, .int fc2_13]))] H := hP
  have hD : va_D A [(ho, .inl (cL, 1, .inr (.inl (vp_updL of (0 : Int32).toNatClampNeg (Int32.toInt64 r_1))))), (g0, .inr (4, [.ref aM, .ref aP, .int st2_3])), (aP, .inr (3, [.ref aR, .ref aF])), (aR, .inr (2, [.ref aM, .ref aA, .ref aB, .int fault2_4])), (aA, .inl (cA, 8, .inl regs2_5)), (aB, .inl (cB, 8, .inl regsB2_6)), (aM, .inr (1, [.ref aW, .ref aT, .int cnt2_7])), (aW, .inl (cW, 2048, .inl words2_8)), (aT, .inl (cT, 400, .inl told2_9)), (aF, .inr (0, [.int fn2_10, .int fz2_11, .int fv2_12, .int fc2_13]))] := hD
  generalize (vp_updL of (0 : Int32).toNatClampNeg (Int32.toInt64 r_1)) = g_14 at hP hD
  refine lv_goto (tgt := 15) hx hb dL_run_9 (by decide) ?_
  refine lv_iconst (v := 0) hx hb dL_run_15 (by decide) ?_
  have hP9 := hP.sub (ws' := [(g0, .inr (4, [.ref aM, .ref aP, .int st2_3])), (aP, .inr (3, [.ref aR, .ref aF])), (aR, .inr (2, [.ref aM, .ref aA, .ref aB, .int fault2_4])), (aA, .inl (cA, 8, .inl regs2_5)), (aB, .inl (cB, 8, .inl regsB2_6)), (aM, .inr (1, [.ref aW, .ref aT, .int cnt2_7])), (aW, .inl (cW, 2048, .inl words2_8)), (aT, .inl (cT, 400, .inl told2_9)), (aF, .inr (0, [.int fn2_10, .int fz2_11, .int fv2_12, .int fc2_13])), (ho, .inl (cL, 1, .inr (.inl g_14)))]) [1, 2, 3, 4, 5, 6, 7, 8, 9, 0] rfl
  have hD9 := hD.sub (ws' := [(g0, .inr (4, [.ref aM, .ref aP, .int st2_3])), (aP, .inr (3, [.ref aR, .ref aF])), (aR, .inr (2, [.ref aM, .ref aA, .ref aB, .int fault2_4])), (aA, .inl (cA, 8, .inl regs2_5)), (aB, .inl (cB, 8, .inl regsB2_6)), (aM, .inr (1, [.ref aW, .ref aT, .int cnt2_7])), (aW, .inl (cW, 2048, .inl words2_8)), (aT, .inl (cT, 400, .inl told2_9)), (aF, .inr (0, [.int fn2_10, .int fz2_11, .int fv2_12, .int fc2_13])), (ho, .inl (cL, 1, .inr (.inl g_14)))]) [1, 2, 3, 4, 5, 6, 7, 8, 9, 0] (by decide) rfl
  have hK9 := hK.sub (tys' := [(cA, .int), (cB, .int), (cW, .int), (cT, .int), (cL, .long)]) [0, 1, 2, 3, 4] rfl
  exact W.iret (v := 0) hx hb hr (fun t ht hW => ⟨⟨0, (st2_3, fault2_4, regs2_5, regsB2_6, cnt2_7, words2_8, told2_9, fn2_10, fz2_11, fv2_12, fc2_13, g_14), rfl, hw_2, by rw [ht]; exact hP9, va_K.moved hW.alike hK9, hD9⟩, hS.F ht⟩) hS.2.2 dL_run_16
set_option maxHeartbeats 4000000 in
set_option maxRecDepth 100000 in
theorem s_L_output (l : Launch) (hl0 : l.stackTraces = false) (dC : Nat → ClassId) (dI : Nat → Nat → Nat) (sz : Nat) (g0 : Nat) (k : Int32) (ho : Nat) (aM : Nat) (aP : Nat) (st : Int32) (aW : Nat) (aT : Nat) (cnt : Int32) (cT : ClassId) (told : Nat → Int32) (cL : ClassId) (of : Nat → Int64) (h4 : ok4 cnt) : Met l yL_output wsL_output ({ frames := 7, cells := 1, slots := 6, locals := 110 }) (va_Pc [.ref g0, .int k, .ref ho] (q_prx dC dI sz [(g0, .inr (4, [.ref aM, .ref aP, .int st])), (aM, .inr (1, [.ref aW, .ref aT, .int cnt])), (aT, .inl (cT, 400, .inl told)), (ho, .inl (cL, 1, .inr (.inl of)))] [(cT, .int), (cL, .long)])) (va_Qi (fun (r : Int32) (u9 : (Nat → Int64)) => True) (q_at dC dI (va_A [(g0, .inr (4, [.ref aM, .ref aP, .int st])), (aM, .inr (1, [.ref aW, .ref aT, .int cnt])), (aT, .inl (cT, 400, .inl told)), (ho, .inl (cL, 1, .inr (.inl of)))] sz) (fun (u9 : (Nat → Int64)) => [(cT, .int), (cL, .long)]) (fun (u9 : (Nat → Int64)) => [(g0, .inr (4, [.ref aM, .ref aP, .int st])), (aM, .inr (1, [.ref aW, .ref aT, .int cnt])), (aT, .inl (cT, 400, .inl told)), (ho, .inl (cL, 1, .inr (.inl u9)))])) (va_A [(g0, .inr (4, [.ref aM, .ref aP, .int st])), (aM, .inr (1, [.ref aW, .ref aT, .int cnt])), (aT, .inl (cT, 400, .inl told)), (ho, .inl (cL, 1, .inr (.inl of)))] sz)) 1 6 (va_A [(g0, .inr (4, [.ref aM, .ref aP, .int st])), (aM, .inr (1, [.ref aW, .ref aT, .int cnt])), (aT, .inl (cT, 400, .inl told)), (ho, .inl (cL, 1, .inr (.inl of)))] sz) := by
  refine va_MetW (cc := cL_output) (maxL := 4) (ret := (some .int)) (hh := [(0, 9, 12, 13)]) (by decide) rfl ?_
  intro p e s m args below meth c s₁ B hml hv
  obtain ⟨rfl, ⟨hsz, hP, hK, hD0, hN⟩, hT⟩ := hv
  have hx := B.exec
  have hb := B.bytes
  have hr := B.returns
  have hts := atoms_spec (ws := wsL_output) B.pre
  have hown : s.vm.findClass RL = some m.cls := findClass_of_methodNamed B.named
  have hlocks := B.notSynchronized
  have htab : c.exceptionTable.toList = [⟨0, 9, 12, 13⟩] := vx_table (x := yL_output) B (hts _ List.mem_cons_self)
  subst hsz
  have hD := hD0.self (sz := s.heap.size)
  generalize hAe : va_A [(g0, .inr (4, [.ref aM, .ref aP, .int st])), (aM, .inr (1, [.ref aW, .ref aT, .int cnt])), (aT, .inl (cT, 400, .inl told)), (ho, .inl (cL, 1, .inr (.inl of)))] s.heap.size = A at hD hT ⊢
  have hA : ∀ q : Nat, s.heap.size ≤ q → A q := fun q h => by rw [← hAe]; exact Or.inr h
  have hS : va_S A s.heap s.heap [] := va_S.rf
  have hP : va_P (dC, dI) vwCl [(g0, .inr (4, [.ref aM, .ref aP, .int st])), (aM, .inr (1, [.ref aW, .ref aT, .int cnt])), (aT, .inl (cT, 400, .inl told)), (ho, .inl (cL, 1, .inr (.inl of)))] s.heap := hP
  have hl := lv_entry ([.ref g0, .int k, .ref ho]) (n := 4) (Nat.le_of_ble_eq_true rfl)
  rw [lg_entry_eq]
  generalize (lg_sl ([.ref g0, .int k, .ref ho]) ++ List.replicate (4 - (lg_sl ([.ref g0, .int k, .ref ho])).length) Slot.unset).toArray = ls at hl ⊢
  have hl : lv_has ls 4 [(0, .ref g0), (1, .int k), (2, .ref ho)] := hl
  refine lv_aload_n hx hb dL_output_0 rfl (lv_at hl 2 rfl) ?_
  refine lv_iconst (v := 0) hx hb dL_output_1 (by decide) ?_
  refine lv_aload_n hx hb dL_output_2 rfl (lv_at hl 0 rfl) ?_
  refine lv_iload_n hx hb dL_output_3 rfl (lv_at hl 1 rfl) ?_
  have hPc := hP.sub (ws' := [(g0, .inr (4, [.ref aM, .ref aP, .int st])), (aM, .inr (1, [.ref aW, .ref aT, .int cnt])), (aT, .inl (cT, 400, .inl told))]) [0, 1, 2] rfl
  have hDc := hD.sub (ws' := [(g0, .inr (4, [.ref aM, .ref aP, .int st])), (aM, .inr (1, [.ref aW, .ref aT, .int cnt])), (aT, .inl (cT, 400, .inl told))]) [0, 1, 2] (by decide) rfl
  have hKc := hK.sub (tys' := [(cT, .int)]) [0] rfl
  have hFc := va_free (wc := [(g0, .inr (4, [.ref aM, .ref aP, .int st])), (aM, .inr (1, [.ref aW, .ref aT, .int cnt])), (aT, .inl (cT, 400, .inl told))]) hD hS hA [0, 1, 2] rfl
  refine vx_calli (vx_runV (C := RX4) (b := g0) (As := [.int k]) (rest := [.int 0, .ref ho]) ⟨hx, hb, hml, hown, hts⟩ (s_X4_output l hl0 dC dI s.heap.size g0 k aM aP st aW aT cnt cT told h4) (cwV 1 hts gL_output_X4_output rfl rfl rfl (by decide +kernel) ⟨Nat.le_of_ble_eq_true rfl, Nat.le_of_ble_eq_true rfl⟩) ⟨q_blindx, va_recv hK hP (ci := 4) (q0 := 0) rfl rfl, fun U hU hW => ⟨rfl, q_payx hU hW hPc hKc hDc hN hT hS hFc⟩⟩ rfl rfl hl.1 rfl (lv_room (Nat.le_of_ble_eq_true rfl)) dL_output_4 ⟨show 0 + 1 ≤ 1 from by omega, show 0 + 6 ≤ 6 from by omega⟩) hS (fun q _ h => hFc q h) hFc (fun q h1 h2 => absurd h1 (Nat.not_lt.mpr h2)) (fun E9 ce9 q9 u9 t H9 locs ht hvm hw hB hz1 hk1 hS hq9 hv9 hc9 => ?_) (fun r_1 u9 t H locs ht hvm hw_2 hB hz1 hk1 hS => ?_)
  · obtain rfl := hB
    try dsimp only at hw
    have hP : va_P (dC, dI) vwCl [(g0, .inr (4, [.ref aM, .ref aP, .int st])), (aM, .inr (1, [.ref aW, .ref aT, .int cnt])), (aT, .inl (cT, 400, .inl told)), (ho, .inl (cL, 1, .inr (.inl of)))] H9 := hP.kept (fun k9 x9 h9 => hk1 x9.1 (vx_lt hP h9) (Nat.not_le.mpr (vx_lt hP h9)))
    refine q_catch (x := ⟨0, 9, 12, 13⟩) (E := "java/lang/IndexOutOfBoundsException") hown htab (by decide) (by decide) (hts (.classLink RL 13 "java/lang/IndexOutOfBoundsException") (by decide +kernel)) (va_Nw.use rfl (hN _ (List.mem_of_getElem? (i := 17) rfl))) hq9 hv9 hc9 ?_
    refine W.widen (k := 1) (n := 6) (by omega) (by omega) ?_
    refine lv_astore_n (lv' := [(3, .ref q9), (0, .ref g0), (1, .int k), (2, .ref ho)]) hx hb dL_output_12 rfl hl (by decide) rfl (fun ls hl => ?_)
    refine lv_iconst (v := 1) hx hb dL_output_13 (by decide) ?_
    have hP9 := hP.sub (ws' := [(g0, .inr (4, [.ref aM, .ref aP, .int st])), (aM, .inr (1, [.ref aW, .ref aT, .int cnt])), (aT, .inl (cT, 400, .inl told)), (ho, .inl (cL, 1, .inr (.inl of)))]) [0, 1, 2, 3] rfl
    have hD9 := hD.sub (ws' := [(g0, .inr (4, [.ref aM, .ref aP, .int st])), (aM, .inr (1, [.ref aW, .ref aT, .int cnt])), (aT, .inl (cT, 400, .inl told)), (ho, .inl (cL, 1, .inr (.inl of)))]) [0, 1, 2, 3] (by decide) rfl
    have hK9 := hK.sub (tys' := [(cT, .int), (cL, .long)]) [0, 1] rfl
    exact W.iret (v := 1) hx hb hr (fun t ht hW => ⟨⟨1, of, rfl, trivial, by rw [ht]; exact hP9, va_K.moved hW.alike hK9, hD9⟩, hS.F ht⟩) hS.2.2 dL_output_14
  obtain ⟨hP1, hK1, hD1⟩ := hB
  rw [ht] at hP1
  obtain ⟨hP, hD⟩ := va_join (wr := [(ho, .inl (cL, 1, .inr (.inl of)))]) (w1 := [(g0, .inr (4, [.ref aM, .ref aP, .int st])), (aM, .inr (1, [.ref aW, .ref aT, .int cnt])), (aT, .inl (cT, 400, .inl told))]) hP hD [0, 1, 2] [3] rfl rfl (by decide) (by decide) hk1 hFc hP1 hD1
  have hP : va_P (dC, dI) vwCl [(ho, .inl (cL, 1, .inr (.inl of))), (g0, .inr (4, [.ref aM, .ref aP, .int st])), (aM, .inr (1, [.ref aW, .ref aT, .int cnt])), (aT, .inl (cT, 400, .inl told))] H := hP
  have hD : va_D A [(ho, .inl (cL, 1, .inr (.inl of))), (g0, .inr (4, [.ref aM, .ref aP, .int st])), (aM, .inr (1, [.ref aW, .ref aT, .int cnt])), (aT, .inl (cT, 400, .inl told))] := hD
  refine W.widen (k := 1) (n := 6) (by omega) (by omega) ?_
  try dsimp only at hw_2
  refine lv_i2l (v := Int32.toInt64 r_1) hx hb dL_output_7 rfl ?_
  refine va_last hx hb hK hP hD hS 0 1 rfl rfl (by unfold vp_in; decide) dL_output_8 (fun H locs hP hD hS => ?_)
  have hP : va_P (dC, dI) vwCl [(ho, .inl (cL, 1, .inr (.inl (vp_updL of (0 : Int32).toNatClampNeg (Int32.toInt64 r_1))))), (g0, .inr (4, [.ref aM, .ref aP, .int st])), (aM, .inr (1, [.ref aW, .ref aT, .int cnt])), (aT, .inl (cT, 400, .inl told))] H := hP
  have hD : va_D A [(ho, .inl (cL, 1, .inr (.inl (vp_updL of (0 : Int32).toNatClampNeg (Int32.toInt64 r_1))))), (g0, .inr (4, [.ref aM, .ref aP, .int st])), (aM, .inr (1, [.ref aW, .ref aT, .int cnt])), (aT, .inl (cT, 400, .inl told))] := hD
  generalize (vp_updL of (0 : Int32).toNatClampNeg (Int32.toInt64 r_1)) = g_3 at hP hD
  refine lv_goto (tgt := 15) hx hb dL_output_9 (by decide) ?_
  refine lv_iconst (v := 0) hx hb dL_output_15 (by decide) ?_
  have hP9 := hP.sub (ws' := [(g0, .inr (4, [.ref aM, .ref aP, .int st])), (aM, .inr (1, [.ref aW, .ref aT, .int cnt])), (aT, .inl (cT, 400, .inl told)), (ho, .inl (cL, 1, .inr (.inl g_3)))]) [1, 2, 3, 0] rfl
  have hD9 := hD.sub (ws' := [(g0, .inr (4, [.ref aM, .ref aP, .int st])), (aM, .inr (1, [.ref aW, .ref aT, .int cnt])), (aT, .inl (cT, 400, .inl told)), (ho, .inl (cL, 1, .inr (.inl g_3)))]) [1, 2, 3, 0] (by decide) rfl
  have hK9 := hK.sub (tys' := [(cT, .int), (cL, .long)]) [0, 1] rfl
  exact W.iret (v := 0) hx hb hr (fun t ht hW => ⟨⟨0, g_3, rfl, trivial, by rw [ht]; exact hP9, va_K.moved hW.alike hK9, hD9⟩, hS.F ht⟩) hS.2.2 dL_output_16
set_option maxHeartbeats 4000000 in
set_option maxRecDepth 100000 in
theorem s_L_load (l : Launch) (hl0 : l.stackTraces = false) (dC : Nat → ClassId) (dI : Nat → Nat → Nat) (sz : Nat) (g0 : Nat) (pl : Int32) (a0 : Int32) (a1 : Int32) (a2 : Int32) (a3 : Int32) (a4 : Int32) (ho : Nat) (aM : Nat) (aP : Nat) (st : Int32) (aW : Nat) (aT : Nat) (cnt : Int32) (cW : ClassId) (words : Nat → Int32) (cL : ClassId) (of : Nat → Int64)  : Met l yL_load wsL_load ({ frames := 8, cells := 1, slots := 6, locals := 136 }) (va_Pc [.ref g0, .int pl, .int a0, .int a1, .int a2, .int a3, .int a4, .ref ho] (q_prx dC dI sz [(g0, .inr (4, [.ref aM, .ref aP, .int st])), (aM, .inr (1, [.ref aW, .ref aT, .int cnt])), (aW, .inl (cW, 2048, .inl words)), (ho, .inl (cL, 1, .inr (.inl of)))] [(cW, .int), (cL, .long)])) (va_Qi (fun (r : Int32) (u9 : (Nat → Int32) × (Nat → Int64)) => (r = 0 ∧ fa pl 65535 = 0 ∧ u9.2 0 = (ct pl + ct (pl + 2) + (ct (pl + 4) + ct (pl + 4 + 2)) + (ct (pl + 8) + ct (pl + 8 + 2)) + (ct (pl + 12) + ct (pl + 12 + 2)) + (ct (pl + 16) + ct (pl + 16 + 2))).toInt64) ∨ (r = 1 ∧ ¬ fa pl 65535 = 0)) (q_at dC dI (va_A [(g0, .inr (4, [.ref aM, .ref aP, .int st])), (aM, .inr (1, [.ref aW, .ref aT, .int cnt])), (aW, .inl (cW, 2048, .inl words)), (ho, .inl (cL, 1, .inr (.inl of)))] sz) (fun (u9 : (Nat → Int32) × (Nat → Int64)) => [(cW, .int), (cL, .long)]) (fun (u9 : (Nat → Int32) × (Nat → Int64)) => [(g0, .inr (4, [.ref aM, .ref aP, .int st])), (aM, .inr (1, [.ref aW, .ref aT, .int cnt])), (aW, .inl (cW, 2048, .inl u9.1)), (ho, .inl (cL, 1, .inr (.inl u9.2)))])) (va_A [(g0, .inr (4, [.ref aM, .ref aP, .int st])), (aM, .inr (1, [.ref aW, .ref aT, .int cnt])), (aW, .inl (cW, 2048, .inl words)), (ho, .inl (cL, 1, .inr (.inl of)))] sz)) 1 6 (va_A [(g0, .inr (4, [.ref aM, .ref aP, .int st])), (aM, .inr (1, [.ref aW, .ref aT, .int cnt])), (aW, .inl (cW, 2048, .inl words)), (ho, .inl (cL, 1, .inr (.inl of)))] sz) := by
  refine va_MetW (cc := cL_load) (maxL := 9) (ret := (some .int)) (hh := [(0, 18, 21, 13)]) (by decide) rfl ?_
  intro p e s m args below meth c s₁ B hml hv
  obtain ⟨rfl, ⟨hsz, hP, hK, hD0, hN⟩, hT⟩ := hv
  have hx := B.exec
  have hb := B.bytes
  have hr := B.returns
  have hts := atoms_spec (ws := wsL_load) B.pre
  have hown : s.vm.findClass RL = some m.cls := findClass_of_methodNamed B.named
  have hlocks := B.notSynchronized
  have htab : c.exceptionTable.toList = [⟨0, 18, 21, 13⟩] := vx_table (x := yL_load) B (hts _ List.mem_cons_self)
  subst hsz
  have hD := hD0.self (sz := s.heap.size)
  generalize hAe : va_A [(g0, .inr (4, [.ref aM, .ref aP, .int st])), (aM, .inr (1, [.ref aW, .ref aT, .int cnt])), (aW, .inl (cW, 2048, .inl words)), (ho, .inl (cL, 1, .inr (.inl of)))] s.heap.size = A at hD hT ⊢
  have hA : ∀ q : Nat, s.heap.size ≤ q → A q := fun q h => by rw [← hAe]; exact Or.inr h
  have hS : va_S A s.heap s.heap [] := va_S.rf
  have hP : va_P (dC, dI) vwCl [(g0, .inr (4, [.ref aM, .ref aP, .int st])), (aM, .inr (1, [.ref aW, .ref aT, .int cnt])), (aW, .inl (cW, 2048, .inl words)), (ho, .inl (cL, 1, .inr (.inl of)))] s.heap := hP
  have hl := lv_entry ([.ref g0, .int pl, .int a0, .int a1, .int a2, .int a3, .int a4, .ref ho]) (n := 9) (Nat.le_of_ble_eq_true rfl)
  rw [lg_entry_eq]
  generalize (lg_sl ([.ref g0, .int pl, .int a0, .int a1, .int a2, .int a3, .int a4, .ref ho]) ++ List.replicate (9 - (lg_sl ([.ref g0, .int pl, .int a0, .int a1, .int a2, .int a3, .int a4, .ref ho])).length) Slot.unset).toArray = ls at hl ⊢
  have hl : lv_has ls 9 [(0, .ref g0), (1, .int pl), (2, .int a0), (3, .int a1), (4, .int a2), (5, .int a3), (6, .int a4), (7, .ref ho)] := hl
  refine lv_aload hx hb dL_load_0 (lv_at hl 7 rfl) ?_
  refine lv_iconst (v := 0) hx hb dL_load_2 (by decide) ?_
  refine lv_aload_n hx hb dL_load_3 rfl (lv_at hl 0 rfl) ?_
  refine lv_iload_n hx hb dL_load_4 rfl (lv_at hl 1 rfl) ?_
  refine lv_iload_n hx hb dL_load_5 rfl (lv_at hl 2 rfl) ?_
  refine lv_iload_n hx hb dL_load_6 rfl (lv_at hl 3 rfl) ?_
  refine lv_iload hx hb dL_load_7 (lv_at hl 4 rfl) ?_
  refine lv_iload hx hb dL_load_9 (lv_at hl 5 rfl) ?_
  refine lv_iload hx hb dL_load_11 (lv_at hl 6 rfl) ?_
  have hPc := hP.sub (ws' := [(g0, .inr (4, [.ref aM, .ref aP, .int st])), (aM, .inr (1, [.ref aW, .ref aT, .int cnt])), (aW, .inl (cW, 2048, .inl words))]) [0, 1, 2] rfl
  have hDc := hD.sub (ws' := [(g0, .inr (4, [.ref aM, .ref aP, .int st])), (aM, .inr (1, [.ref aW, .ref aT, .int cnt])), (aW, .inl (cW, 2048, .inl words))]) [0, 1, 2] (by decide) rfl
  have hKc := hK.sub (tys' := [(cW, .int)]) [0] rfl
  have hFc := va_free (wc := [(g0, .inr (4, [.ref aM, .ref aP, .int st])), (aM, .inr (1, [.ref aW, .ref aT, .int cnt])), (aW, .inl (cW, 2048, .inl words))]) hD hS hA [0, 1, 2] rfl
  refine vx_calli (vx_runV (C := RX4) (b := g0) (As := [.int pl, .int a0, .int a1, .int a2, .int a3, .int a4]) (rest := [.int 0, .ref ho]) ⟨hx, hb, hml, hown, hts⟩ (s_X4_load l hl0 dC dI s.heap.size g0 pl a0 a1 a2 a3 a4 aM aP st aW aT cnt cW words) (cwV 6 hts gL_load_X4_load rfl rfl rfl (by decide +kernel) ⟨Nat.le_of_ble_eq_true rfl, Nat.le_of_ble_eq_true rfl⟩) ⟨q_blindx, va_recv hK hP (ci := 4) (q0 := 0) rfl rfl, fun U hU hW => ⟨rfl, q_payx hU hW hPc hKc hDc hN hT hS hFc⟩⟩ rfl rfl hl.1 rfl (lv_room (Nat.le_of_ble_eq_true rfl)) dL_load_13 ⟨show 0 + 1 ≤ 1 from by omega, show 0 + 6 ≤ 6 from by omega⟩) hS (fun q _ h => hFc q h) hFc (fun q h1 h2 => absurd h1 (Nat.not_lt.mpr h2)) (fun E9 ce9 q9 u9 t H9 locs ht hvm hw hB hz1 hk1 hS hq9 hv9 hc9 => ?_) (fun r_1 u9 t H locs ht hvm hw_2 hB hz1 hk1 hS => ?_)
  · obtain rfl := hB
    try dsimp only at hw
    have hP : va_P (dC, dI) vwCl [(g0, .inr (4, [.ref aM, .ref aP, .int st])), (aM, .inr (1, [.ref aW, .ref aT, .int cnt])), (aW, .inl (cW, 2048, .inl words)), (ho, .inl (cL, 1, .inr (.inl of)))] H9 := hP.kept (fun k9 x9 h9 => hk1 x9.1 (vx_lt hP h9) (Nat.not_le.mpr (vx_lt hP h9)))
    refine q_catch (x := ⟨0, 18, 21, 13⟩) (E := "java/lang/IndexOutOfBoundsException") hown htab (by decide) (by decide) (hts (.classLink RL 13 "java/lang/IndexOutOfBoundsException") (by decide +kernel)) (va_Nw.use rfl (hN _ (List.mem_of_getElem? (i := 17) rfl))) hq9 hv9 hc9 ?_
    refine W.widen (k := 1) (n := 6) (by omega) (by omega) ?_
    refine lv_astore (lv' := [(8, .ref q9), (0, .ref g0), (1, .int pl), (2, .int a0), (3, .int a1), (4, .int a2), (5, .int a3), (6, .int a4), (7, .ref ho)]) hx hb dL_load_21 hl (by decide) rfl (fun ls hl => ?_)
    refine lv_iconst (v := 1) hx hb dL_load_23 (by decide) ?_
    have hP9 := hP.sub (ws' := [(g0, .inr (4, [.ref aM, .ref aP, .int st])), (aM, .inr (1, [.ref aW, .ref aT, .int cnt])), (aW, .inl (cW, 2048, .inl words)), (ho, .inl (cL, 1, .inr (.inl of)))]) [0, 1, 2, 3] rfl
    have hD9 := hD.sub (ws' := [(g0, .inr (4, [.ref aM, .ref aP, .int st])), (aM, .inr (1, [.ref aW, .ref aT, .int cnt])), (aW, .inl (cW, 2048, .inl words)), (ho, .inl (cL, 1, .inr (.inl of)))]) [0, 1, 2, 3] (by decide) rfl
    have hK9 := hK.sub (tys' := [(cW, .int), (cL, .long)]) [0, 1] rfl
    exact W.iret (v := 1) hx hb hr (fun t ht hW => ⟨⟨1, (words, of), rfl, Or.inr ⟨rfl, hw⟩, by rw [ht]; exact hP9, va_K.moved hW.alike hK9, hD9⟩, hS.F ht⟩) hS.2.2 dL_load_24
  obtain ⟨words2_3, rfl⟩ : ∃ z, z = u9 := ⟨_, rfl⟩
  obtain ⟨hP1, hK1, hD1⟩ := hB
  rw [ht] at hP1
  obtain ⟨hP, hD⟩ := va_join (wr := [(ho, .inl (cL, 1, .inr (.inl of)))]) (w1 := [(g0, .inr (4, [.ref aM, .ref aP, .int st])), (aM, .inr (1, [.ref aW, .ref aT, .int cnt])), (aW, .inl (cW, 2048, .inl words2_3))]) hP hD [0, 1, 2] [3] rfl rfl (by decide) (by decide) hk1 hFc hP1 hD1
  have hP : va_P (dC, dI) vwCl [(ho, .inl (cL, 1, .inr (.inl of))), (g0, .inr (4, [.ref aM, .ref aP, .int st])), (aM, .inr (1, [.ref aW, .ref aT, .int cnt])), (aW, .inl (cW, 2048, .inl words2_3))] H := hP
  have hD : va_D A [(ho, .inl (cL, 1, .inr (.inl of))), (g0, .inr (4, [.ref aM, .ref aP, .int st])), (aM, .inr (1, [.ref aW, .ref aT, .int cnt])), (aW, .inl (cW, 2048, .inl words2_3))] := hD
  refine W.widen (k := 1) (n := 6) (by omega) (by omega) ?_
  try dsimp only at hw_2
  obtain ⟨rfl, hw_2⟩ := hw_2
  refine lv_i2l (v := Int32.toInt64 (ct pl + ct (pl + 2) + (ct (pl + 4) + ct (pl + 4 + 2)) + (ct (pl + 8) + ct (pl + 8 + 2)) + (ct (pl + 12) + ct (pl + 12 + 2)) + (ct (pl + 16) + ct (pl + 16 + 2)))) hx hb dL_load_16 rfl ?_
  refine va_last hx hb hK hP hD hS 0 1 rfl rfl (by unfold vp_in; decide) dL_load_17 (fun H locs hP hD hS => ?_)
  have hP : va_P (dC, dI) vwCl [(ho, .inl (cL, 1, .inr (.inl (vp_updL of (0 : Int32).toNatClampNeg (Int32.toInt64 (ct pl + ct (pl + 2) + (ct (pl + 4) + ct (pl + 4 + 2)) + (ct (pl + 8) + ct (pl + 8 + 2)) + (ct (pl + 12) + ct (pl + 12 + 2)) + (ct (pl + 16) + ct (pl + 16 + 2)))))))), (g0, .inr (4, [.ref aM, .ref aP, .int st])), (aM, .inr (1, [.ref aW, .ref aT, .int cnt])), (aW, .inl (cW, 2048, .inl words2_3))] H := hP
  have hD : va_D A [(ho, .inl (cL, 1, .inr (.inl (vp_updL of (0 : Int32).toNatClampNeg (Int32.toInt64 (ct pl + ct (pl + 2) + (ct (pl + 4) + ct (pl + 4 + 2)) + (ct (pl + 8) + ct (pl + 8 + 2)) + (ct (pl + 12) + ct (pl + 12 + 2)) + (ct (pl + 16) + ct (pl + 16 + 2)))))))), (g0, .inr (4, [.ref aM, .ref aP, .int st])), (aM, .inr (1, [.ref aW, .ref aT, .int cnt])), (aW, .inl (cW, 2048, .inl words2_3))] := hD
  refine lv_goto (tgt := 25) hx hb dL_load_18 (by decide) ?_
  refine lv_iconst (v := 0) hx hb dL_load_25 (by decide) ?_
  have hP9 := hP.sub (ws' := [(g0, .inr (4, [.ref aM, .ref aP, .int st])), (aM, .inr (1, [.ref aW, .ref aT, .int cnt])), (aW, .inl (cW, 2048, .inl words2_3)), (ho, .inl (cL, 1, .inr (.inl (vp_updL of (0 : Int32).toNatClampNeg (Int32.toInt64 (ct pl + ct (pl + 2) + (ct (pl + 4) + ct (pl + 4 + 2)) + (ct (pl + 8) + ct (pl + 8 + 2)) + (ct (pl + 12) + ct (pl + 12 + 2)) + (ct (pl + 16) + ct (pl + 16 + 2))))))))]) [1, 2, 3, 0] rfl
  have hD9 := hD.sub (ws' := [(g0, .inr (4, [.ref aM, .ref aP, .int st])), (aM, .inr (1, [.ref aW, .ref aT, .int cnt])), (aW, .inl (cW, 2048, .inl words2_3)), (ho, .inl (cL, 1, .inr (.inl (vp_updL of (0 : Int32).toNatClampNeg (Int32.toInt64 (ct pl + ct (pl + 2) + (ct (pl + 4) + ct (pl + 4 + 2)) + (ct (pl + 8) + ct (pl + 8 + 2)) + (ct (pl + 12) + ct (pl + 12 + 2)) + (ct (pl + 16) + ct (pl + 16 + 2))))))))]) [1, 2, 3, 0] (by decide) rfl
  have hK9 := hK.sub (tys' := [(cW, .int), (cL, .long)]) [0, 1] rfl
  exact W.iret (v := 0) hx hb hr (fun t ht hW => ⟨⟨0, (words2_3, (vp_updL of (0 : Int32).toNatClampNeg (Int32.toInt64 (ct pl + ct (pl + 2) + (ct (pl + 4) + ct (pl + 4 + 2)) + (ct (pl + 8) + ct (pl + 8 + 2)) + (ct (pl + 12) + ct (pl + 12 + 2)) + (ct (pl + 16) + ct (pl + 16 + 2)))))), rfl, Or.inl ⟨rfl, hw_2, rfl⟩, by rw [ht]; exact hP9, va_K.moved hW.alike hK9, hD9⟩, hS.F ht⟩) hS.2.2 dL_load_26
