set_option maxHeartbeats 4000000 in
set_option maxRecDepth 100000 in
theorem s_X2_store (l : Launch) (dC : Nat → ClassId) (dI : Nat → Nat → Nat) (sz : Nat) (aR : Nat) (pl : Int32) (k : Int32) (v : Int32) (aM : Nat) (aA : Nat) (aB : Nat) (fault : Int32) (cA : ClassId) (regs : Nat → Int32) (aW : Nat) (aT : Nat) (cnt : Int32) (cW : ClassId) (words : Nat → Int32) (cT : ClassId) (told : Nat → Int32) (h4 : ok4 cnt) : Met l yX2_store wsX2_store ({ frames := 1, cells := 0, slots := 0, locals := 25 }) (va_Pc [.ref aR, .int pl, .int k, .int v] (q_pre dC dI sz [(aR, .inr (2, [.ref aM, .ref aA, .ref aB, .int fault])), (aA, .inl (cA, 8, .inl regs)), (aM, .inr (1, [.ref aW, .ref aT, .int cnt])), (aW, .inl (cW, 2048, .inl words)), (aT, .inl (cT, 400, .inl told))] [(cA, .int), (cW, .int), (cT, .int)])) (va_Qv (fun (u9 : Int32 × (Nat → Int32) × Int32 × (Nat → Int32) × (Nat → Int32)) => ok4 u9.2.2.1) (q_at dC dI (va_A [(aR, .inr (2, [.ref aM, .ref aA, .ref aB, .int fault])), (aA, .inl (cA, 8, .inl regs)), (aM, .inr (1, [.ref aW, .ref aT, .int cnt])), (aW, .inl (cW, 2048, .inl words)), (aT, .inl (cT, 400, .inl told))] sz) (fun (u9 : Int32 × (Nat → Int32) × Int32 × (Nat → Int32) × (Nat → Int32)) => [(cA, .int), (cW, .int), (cT, .int)]) (fun (u9 : Int32 × (Nat → Int32) × Int32 × (Nat → Int32) × (Nat → Int32)) => [(aR, .inr (2, [.ref aM, .ref aA, .ref aB, .int u9.1])), (aA, .inl (cA, 8, .inl u9.2.1)), (aM, .inr (1, [.ref aW, .ref aT, .int u9.2.2.1])), (aW, .inl (cW, 2048, .inl u9.2.2.2.1)), (aT, .inl (cT, 400, .inl u9.2.2.2.2))])) (va_A [(aR, .inr (2, [.ref aM, .ref aA, .ref aB, .int fault])), (aA, .inl (cA, 8, .inl regs)), (aM, .inr (1, [.ref aW, .ref aT, .int cnt])), (aW, .inl (cW, 2048, .inl words)), (aT, .inl (cT, 400, .inl told))] sz)) 0 0 (va_A [(aR, .inr (2, [.ref aM, .ref aA, .ref aB, .int fault])), (aA, .inl (cA, 8, .inl regs)), (aM, .inr (1, [.ref aW, .ref aT, .int cnt])), (aW, .inl (cW, 2048, .inl words)), (aT, .inl (cT, 400, .inl told))] sz) := by
  refine Met.ofW (cc := cX2_store) (maxL := 5) (ret := none) (by decide) rfl ?_
  intro p e s m args below meth c s₁ B hml hv
  obtain ⟨rfl, hsz, hP, hK, hD0, hN⟩ := hv
  have hx := B.exec
  have hb := B.bytes
  have hr := B.returns
  have hts := atoms_spec (ws := wsX2_store) B.pre
  have hown : s.vm.findClass RX2 = some m.cls := findClass_of_methodNamed B.named
  have hlocks := B.notSynchronized
  subst hsz
  have hD := hD0.self (sz := s.heap.size)
  generalize hAe : va_A [(aR, .inr (2, [.ref aM, .ref aA, .ref aB, .int fault])), (aA, .inl (cA, 8, .inl regs)), (aM, .inr (1, [.ref aW, .ref aT, .int cnt])), (aW, .inl (cW, 2048, .inl words)), (aT, .inl (cT, 400, .inl told))] s.heap.size = A at hD ⊢
  have hA : ∀ q : Nat, s.heap.size ≤ q → A q := fun q h => by rw [← hAe]; exact Or.inr h
  have hS : va_S A s.heap s.heap [] := va_S.rf
  have hP : va_P (dC, dI) vwCl [(aR, .inr (2, [.ref aM, .ref aA, .ref aB, .int fault])), (aA, .inl (cA, 8, .inl regs)), (aM, .inr (1, [.ref aW, .ref aT, .int cnt])), (aW, .inl (cW, 2048, .inl words)), (aT, .inl (cT, 400, .inl told))] s.heap := hP
  have hl := lv_entry ([.ref aR, .int pl, .int k, .int v]) (n := 5) (Nat.le_of_ble_eq_true rfl)
  rw [lg_entry_eq]
  generalize (lg_sl ([.ref aR, .int pl, .int k, .int v]) ++ List.replicate (5 - (lg_sl ([.ref aR, .int pl, .int k, .int v])).length) Slot.unset).toArray = ls at hl ⊢
  have hl : lv_has ls 5 [(0, .ref aR), (1, .int pl), (2, .int k), (3, .int v)] := hl
  refine lv_iload_n hx hb dX2_store_0 rfl (lv_at hl 1 rfl) ?_
  refine lv_ldc (v := 65536) hx hb hown (hts (.constant RX2 38 (65536)) (by decide +kernel)) dX2_store_1 ?_
  refine lv_icmp_lt (tgt := 35) hx hb dX2_store_3 (by decide) (fun c_1 => ?_) (fun c_1 => ?_)
  · refine lv_aload_n hx hb dX2_store_35 rfl (lv_at hl 0 rfl) ?_
    refine va_get (D := (dC, dI)) (ci := 2) (v := .int fault) (C := RX2) (T := TX2) (N := 4) hx hb hts (by decide +kernel) hown hK hP 0 rfl rfl 3 (by decide) (hts (.fieldLink RX2 28 "WordGuest$Parts" "fault" "I") (by decide +kernel)) (fun _ h9 => h9) rfl dX2_store_36 ?_
    refine lv_if_ne (tgt := 55) hx hb dX2_store_39 (by decide) (fun c_2 => ?_) (fun c_2 => ?_)
    · refine lv_aload_n hx hb dX2_store_55 rfl (lv_at hl 0 rfl) ?_
      refine va_get (D := (dC, dI)) (ci := 2) (v := .int fault) (C := RX2) (T := TX2) (N := 4) hx hb hts (by decide +kernel) hown hK hP 0 rfl rfl 3 (by decide) (hts (.fieldLink RX2 28 "WordGuest$Parts" "fault" "I") (by decide +kernel)) (fun _ h9 => h9) rfl dX2_store_56 ?_
      refine lv_if_ne (tgt := 72) hx hb dX2_store_59 (by decide) (fun c_3 => ?_) (fun c_3 => ?_)
      · have hP9 := hP.sub (ws' := [(aR, .inr (2, [.ref aM, .ref aA, .ref aB, .int fault])), (aA, .inl (cA, 8, .inl regs)), (aM, .inr (1, [.ref aW, .ref aT, .int cnt])), (aW, .inl (cW, 2048, .inl words)), (aT, .inl (cT, 400, .inl told))]) [0, 1, 2, 3, 4] rfl
        have hD9 := hD.sub (ws' := [(aR, .inr (2, [.ref aM, .ref aA, .ref aB, .int fault])), (aA, .inl (cA, 8, .inl regs)), (aM, .inr (1, [.ref aW, .ref aT, .int cnt])), (aW, .inl (cW, 2048, .inl words)), (aT, .inl (cT, 400, .inl told))]) [0, 1, 2, 3, 4] (by decide) rfl
        have hK9 := hK.sub (tys' := [(cA, .int), (cW, .int), (cT, .int)]) [0, 1, 2] rfl
        exact W.vret hx hb hr (fun t ht hW => ⟨⟨(fault, regs, cnt, words, told), rfl, h4, by rw [ht]; exact hP9, va_K.moved hW.alike hK9, hD9⟩, hS.F ht⟩) hS.2.2 dX2_store_72
      · refine lv_aload_n hx hb dX2_store_62 rfl (lv_at hl 0 rfl) ?_
        refine va_get (D := (dC, dI)) (ci := 2) (v := .ref aM) (C := RX2) (T := TX2) (N := 4) hx hb hts (by decide +kernel) hown hK hP 0 rfl rfl 0 (by decide) (hts (.fieldLink RX2 18 "WordGuest$Parts" "memory" "LWordGuest$Memory;") (by decide +kernel)) (fun _ h9 => h9) rfl dX2_store_63 ?_
        refine lv_iload_n hx hb dX2_store_66 rfl (lv_at hl 1 rfl) ?_
        refine lv_iload_n hx hb dX2_store_67 rfl (lv_at hl 2 rfl) ?_
        refine lv_iload_n hx hb dX2_store_68 rfl (lv_at hl 3 rfl) ?_
        have hPc := hP.sub (ws' := [(aM, .inr (1, [.ref aW, .ref aT, .int cnt])), (aW, .inl (cW, 2048, .inl words)), (aT, .inl (cT, 400, .inl told))]) [2, 3, 4] rfl
        have hDc := hD.sub (ws' := [(aM, .inr (1, [.ref aW, .ref aT, .int cnt])), (aW, .inl (cW, 2048, .inl words)), (aT, .inl (cT, 400, .inl told))]) [2, 3, 4] (by decide) rfl
        have hKc := hK.sub (tys' := [(cW, .int), (cT, .int)]) [1, 2] rfl
        have hFc := va_free (wc := [(aM, .inr (1, [.ref aW, .ref aT, .int cnt])), (aW, .inl (cW, 2048, .inl words)), (aT, .inl (cT, 400, .inl told))]) hD hS hA [2, 3, 4] rfl
        refine va_callv (va_runV (C := RX1) (b := aM) (As := [.int pl, .int k, .int v]) (rest := []) ⟨hx, hb, hml, hown, hts⟩ (s_X1_write l dC dI s.heap.size aM pl k v aW aT cnt cW words cT told h4) (cwV 3 hts gX2_store_X1_write rfl rfl rfl (by decide +kernel) ⟨Nat.le_of_ble_eq_true rfl, Nat.le_of_ble_eq_true rfl⟩) ⟨q_blind, va_recv hK hP (ci := 1) (q0 := 2) rfl rfl, fun U hU hW => ⟨rfl, q_pay hU hW hPc hKc hDc hN⟩⟩ rfl rfl hl.1 rfl (lv_room (Nat.le_of_ble_eq_true rfl)) dX2_store_69 ⟨show 0 + 0 ≤ 0 from by omega, show 0 + 0 ≤ 0 from by omega⟩) hS (fun q _ h => hFc q h) hFc (fun u9 t H locs ht hvm hw_5 hB hz1 hk1 hS => ?_)
        obtain ⟨cnt2_6, words2_7, told2_8⟩ := u9
        obtain ⟨hP1, hK1, hD1⟩ := hB
        rw [ht] at hP1
        obtain ⟨hP, hD⟩ := va_join (wr := [(aR, .inr (2, [.ref aM, .ref aA, .ref aB, .int fault])), (aA, .inl (cA, 8, .inl regs))]) (w1 := [(aM, .inr (1, [.ref aW, .ref aT, .int cnt2_6])), (aW, .inl (cW, 2048, .inl words2_7)), (aT, .inl (cT, 400, .inl told2_8))]) hP hD [2, 3, 4] [0, 1] rfl rfl (by decide) (by decide) hk1 hFc hP1 hD1
        have hP : va_P (dC, dI) vwCl [(aR, .inr (2, [.ref aM, .ref aA, .ref aB, .int fault])), (aA, .inl (cA, 8, .inl regs)), (aM, .inr (1, [.ref aW, .ref aT, .int cnt2_6])), (aW, .inl (cW, 2048, .inl words2_7)), (aT, .inl (cT, 400, .inl told2_8))] H := hP
        have hD : va_D A [(aR, .inr (2, [.ref aM, .ref aA, .ref aB, .int fault])), (aA, .inl (cA, 8, .inl regs)), (aM, .inr (1, [.ref aW, .ref aT, .int cnt2_6])), (aW, .inl (cW, 2048, .inl words2_7)), (aT, .inl (cT, 400, .inl told2_8))] := hD
        refine W.widen (k := 0) (n := 0) (by omega) (by omega) ?_
        try dsimp only at hw_5
        have hP9 := hP.sub (ws' := [(aR, .inr (2, [.ref aM, .ref aA, .ref aB, .int fault])), (aA, .inl (cA, 8, .inl regs)), (aM, .inr (1, [.ref aW, .ref aT, .int cnt2_6])), (aW, .inl (cW, 2048, .inl words2_7)), (aT, .inl (cT, 400, .inl told2_8))]) [0, 1, 2, 3, 4] rfl
        have hD9 := hD.sub (ws' := [(aR, .inr (2, [.ref aM, .ref aA, .ref aB, .int fault])), (aA, .inl (cA, 8, .inl regs)), (aM, .inr (1, [.ref aW, .ref aT, .int cnt2_6])), (aW, .inl (cW, 2048, .inl words2_7)), (aT, .inl (cT, 400, .inl told2_8))]) [0, 1, 2, 3, 4] (by decide) rfl
        have hK9 := hK.sub (tys' := [(cA, .int), (cW, .int), (cT, .int)]) [0, 1, 2] rfl
        exact W.vret hx hb hr (fun t ht hW => ⟨⟨(fault, regs, cnt2_6, words2_7, told2_8), rfl, hw_5, by rw [ht]; exact hP9, va_K.moved hW.alike hK9, hD9⟩, hS.F ht⟩) hS.2.2 dX2_store_72
    · refine lv_aload_n hx hb dX2_store_42 rfl (lv_at hl 0 rfl) ?_
      refine lv_aload_n hx hb dX2_store_43 rfl (lv_at hl 0 rfl) ?_
      refine va_get (D := (dC, dI)) (ci := 2) (v := .ref aM) (C := RX2) (T := TX2) (N := 4) hx hb hts (by decide +kernel) hown hK hP 0 rfl rfl 0 (by decide) (hts (.fieldLink RX2 18 "WordGuest$Parts" "memory" "LWordGuest$Memory;") (by decide +kernel)) (fun _ h9 => h9) rfl dX2_store_44 ?_
      refine lv_iload_n hx hb dX2_store_47 rfl (lv_at hl 1 rfl) ?_
      refine lv_iload_n hx hb dX2_store_48 rfl (lv_at hl 2 rfl) ?_
      have hPc := hP.sub (ws' := []) [] rfl
      have hDc := hD.sub (ws' := []) [] (by decide) rfl
      have hKc := hK.sub (tys' := []) [] rfl
      have hFc := va_free (wc := []) hD hS hA [] rfl
      refine va_calli (va_runV (C := RX1) (b := aM) (As := [.int pl, .int k]) (rest := [.ref aR]) ⟨hx, hb, hml, hown, hts⟩ (c_X1_faultAt l dC dI s.heap.size aM pl k) (cwV 2 hts gX2_store_X1_faultAt rfl rfl rfl (by decide +kernel) ⟨Nat.le_of_ble_eq_true rfl, Nat.le_of_ble_eq_true rfl⟩) ⟨q_blind, va_recv hK hP (ci := 1) (q0 := 2) rfl rfl, fun U hU hW => ⟨rfl, q_pay hU hW hPc hKc hDc hN⟩⟩ rfl rfl hl.1 rfl (lv_room (Nat.le_of_ble_eq_true rfl)) dX2_store_49 ⟨show 0 + 0 ≤ 0 from by omega, show 0 + 0 ≤ 0 from by omega⟩) hS (fun q _ h => hFc q h) hFc (fun r_9 u9 t H locs ht hvm hw_10 hB hz1 hk1 hS => ?_)
      obtain ⟨hP1, hK1, hD1⟩ := hB
      rw [ht] at hP1
      obtain ⟨hP, hD⟩ := va_join (wr := [(aR, .inr (2, [.ref aM, .ref aA, .ref aB, .int fault])), (aA, .inl (cA, 8, .inl regs)), (aM, .inr (1, [.ref aW, .ref aT, .int cnt])), (aW, .inl (cW, 2048, .inl words)), (aT, .inl (cT, 400, .inl told))]) (w1 := []) hP hD [] [0, 1, 2, 3, 4] rfl rfl (by decide) (by decide) hk1 hFc hP1 hD1
      have hP : va_P (dC, dI) vwCl [(aR, .inr (2, [.ref aM, .ref aA, .ref aB, .int fault])), (aA, .inl (cA, 8, .inl regs)), (aM, .inr (1, [.ref aW, .ref aT, .int cnt])), (aW, .inl (cW, 2048, .inl words)), (aT, .inl (cT, 400, .inl told))] H := hP
      have hD : va_D A [(aR, .inr (2, [.ref aM, .ref aA, .ref aB, .int fault])), (aA, .inl (cA, 8, .inl regs)), (aM, .inr (1, [.ref aW, .ref aT, .int cnt])), (aW, .inl (cW, 2048, .inl words)), (aT, .inl (cT, 400, .inl told))] := hD
      refine W.widen (k := 0) (n := 0) (by omega) (by omega) ?_
      try dsimp only at hw_10
      obtain rfl := hw_10
      refine va_put (D := (dC, dI)) (ci := 2) (v := .int (fa pl k)) (ty := .int) (C := RX2) (T := TX2) (N := 4) hx hb hts (by decide +kernel) tyX2 tyX2_ok nmX2 hown hK hP hD hS 0 rfl rfl 3 (by decide) (hts (.fieldLink RX2 28 "WordGuest$Parts" "fault" "I") (by decide +kernel)) (fun _ h9 => h9) rfl (by decide +kernel) rfl rfl (Nat.le_of_ble_eq_true rfl) dX2_store_52 (fun H locs hP hD hS => ?_)
      have hP : va_P (dC, dI) vwCl [(aR, .inr (2, [.ref aM, .ref aA, .ref aB, .int (fa pl k)])), (aA, .inl (cA, 8, .inl regs)), (aM, .inr (1, [.ref aW, .ref aT, .int cnt])), (aW, .inl (cW, 2048, .inl words)), (aT, .inl (cT, 400, .inl told))] H := hP
      have hD : va_D A [(aR, .inr (2, [.ref aM, .ref aA, .ref aB, .int (fa pl k)])), (aA, .inl (cA, 8, .inl regs)), (aM, .inr (1, [.ref aW, .ref aT, .int cnt])), (aW, .inl (cW, 2048, .inl words)), (aT, .inl (cT, 400, .inl told))] := hD
      refine lv_aload_n hx hb dX2_store_55 rfl (lv_at hl 0 rfl) ?_
      refine va_get (D := (dC, dI)) (ci := 2) (v := .int (fa pl k)) (C := RX2) (T := TX2) (N := 4) hx hb hts (by decide +kernel) hown hK hP 0 rfl rfl 3 (by decide) (hts (.fieldLink RX2 28 "WordGuest$Parts" "fault" "I") (by decide +kernel)) (fun _ h9 => h9) rfl dX2_store_56 ?_
      refine lv_if_ne (tgt := 72) hx hb dX2_store_59 (by decide) (fun c_11 => ?_) (fun c_11 => ?_)
      · have hP9 := hP.sub (ws' := [(aR, .inr (2, [.ref aM, .ref aA, .ref aB, .int (fa pl k)])), (aA, .inl (cA, 8, .inl regs)), (aM, .inr (1, [.ref aW, .ref aT, .int cnt])), (aW, .inl (cW, 2048, .inl words)), (aT, .inl (cT, 400, .inl told))]) [0, 1, 2, 3, 4] rfl
        have hD9 := hD.sub (ws' := [(aR, .inr (2, [.ref aM, .ref aA, .ref aB, .int (fa pl k)])), (aA, .inl (cA, 8, .inl regs)), (aM, .inr (1, [.ref aW, .ref aT, .int cnt])), (aW, .inl (cW, 2048, .inl words)), (aT, .inl (cT, 400, .inl told))]) [0, 1, 2, 3, 4] (by decide) rfl
        have hK9 := hK.sub (tys' := [(cA, .int), (cW, .int), (cT, .int)]) [0, 1, 2] rfl
        exact W.vret hx hb hr (fun t ht hW => ⟨⟨(fa pl k, regs, cnt, words, told), rfl, h4, by rw [ht]; exact hP9, va_K.moved hW.alike hK9, hD9⟩, hS.F ht⟩) hS.2.2 dX2_store_72
      · refine lv_aload_n hx hb dX2_store_62 rfl (lv_at hl 0 rfl) ?_
        refine va_get (D := (dC, dI)) (ci := 2) (v := .ref aM) (C := RX2) (T := TX2) (N := 4) hx hb hts (by decide +kernel) hown hK hP 0 rfl rfl 0 (by decide) (hts (.fieldLink RX2 18 "WordGuest$Parts" "memory" "LWordGuest$Memory;") (by decide +kernel)) (fun _ h9 => h9) rfl dX2_store_63 ?_
        refine lv_iload_n hx hb dX2_store_66 rfl (lv_at hl 1 rfl) ?_
        refine lv_iload_n hx hb dX2_store_67 rfl (lv_at hl 2 rfl) ?_
        refine lv_iload_n hx hb dX2_store_68 rfl (lv_at hl 3 rfl) ?_
        have hPc := hP.sub (ws' := [(aM, .inr (1, [.ref aW, .ref aT, .int cnt])), (aW, .inl (cW, 2048, .inl words)), (aT, .inl (cT, 400, .inl told))]) [2, 3, 4] rfl
        have hDc := hD.sub (ws' := [(aM, .inr (1, [.ref aW, .ref aT, .int cnt])), (aW, .inl (cW, 2048, .inl words)), (aT, .inl (cT, 400, .inl told))]) [2, 3, 4] (by decide) rfl
        have hKc := hK.sub (tys' := [(cW, .int), (cT, .int)]) [1, 2] rfl
        have hFc := va_free (wc := [(aM, .inr (1, [.ref aW, .ref aT, .int cnt])), (aW, .inl (cW, 2048, .inl words)), (aT, .inl (cT, 400, .inl told))]) hD hS hA [2, 3, 4] rfl
        refine va_callv (va_runV (C := RX1) (b := aM) (As := [.int pl, .int k, .int v]) (rest := []) ⟨hx, hb, hml, hown, hts⟩ (s_X1_write l dC dI H.size aM pl k v aW aT cnt cW words cT told h4) (cwV 3 hts gX2_store_X1_write rfl rfl rfl (by decide +kernel) ⟨Nat.le_of_ble_eq_true rfl, Nat.le_of_ble_eq_true rfl⟩) ⟨q_blind, va_recv hK hP (ci := 1) (q0 := 2) rfl rfl, fun U hU hW => ⟨rfl, q_pay hU hW hPc hKc hDc hN⟩⟩ rfl rfl hl.1 rfl (lv_room (Nat.le_of_ble_eq_true rfl)) dX2_store_69 ⟨show 0 + 0 ≤ 0 from by omega, show 0 + 0 ≤ 0 from by omega⟩) hS (fun q _ h => hFc q h) hFc (fun u9 t H locs ht hvm hw_13 hB hz1 hk1 hS => ?_)
        obtain ⟨cnt2_14, words2_15, told2_16⟩ := u9
        obtain ⟨hP1, hK1, hD1⟩ := hB
        rw [ht] at hP1
        obtain ⟨hP, hD⟩ := va_join (wr := [(aR, .inr (2, [.ref aM, .ref aA, .ref aB, .int (fa pl k)])), (aA, .inl (cA, 8, .inl regs))]) (w1 := [(aM, .inr (1, [.ref aW, .ref aT, .int cnt2_14])), (aW, .inl (cW, 2048, .inl words2_15)), (aT, .inl (cT, 400, .inl told2_16))]) hP hD [2, 3, 4] [0, 1] rfl rfl (by decide) (by decide) hk1 hFc hP1 hD1
        have hP : va_P (dC, dI) vwCl [(aR, .inr (2, [.ref aM, .ref aA, .ref aB, .int (fa pl k)])), (aA, .inl (cA, 8, .inl regs)), (aM, .inr (1, [.ref aW, .ref aT, .int cnt2_14])), (aW, .inl (cW, 2048, .inl words2_15)), (aT, .inl (cT, 400, .inl told2_16))] H := hP
        have hD : va_D A [(aR, .inr (2, [.ref aM, .ref aA, .ref aB, .int (fa pl k)])), (aA, .inl (cA, 8, .inl regs)), (aM, .inr (1, [.ref aW, .ref aT, .int cnt2_14])), (aW, .inl (cW, 2048, .inl words2_15)), (aT, .inl (cT, 400, .inl told2_16))] := hD
        refine W.widen (k := 0) (n := 0) (by omega) (by omega) ?_
        try dsimp only at hw_13
        have hP9 := hP.sub (ws' := [(aR, .inr (2, [.ref aM, .ref aA, .ref aB, .int (fa pl k)])), (aA, .inl (cA, 8, .inl regs)), (aM, .inr (1, [.ref aW, .ref aT, .int cnt2_14])), (aW, .inl (cW, 2048, .inl words2_15)), (aT, .inl (cT, 400, .inl told2_16))]) [0, 1, 2, 3, 4] rfl
        have hD9 := hD.sub (ws' := [(aR, .inr (2, [.ref aM, .ref aA, .ref aB, .int (fa pl k)])), (aA, .inl (cA, 8, .inl regs)), (aM, .inr (1, [.ref aW, .ref aT, .int cnt2_14])), (aW, .inl (cW, 2048, .inl words2_15)), (aT, .inl (cT, 400, .inl told2_16))]) [0, 1, 2, 3, 4] (by decide) rfl
        have hK9 := hK.sub (tys' := [(cA, .int), (cW, .int), (cT, .int)]) [0, 1, 2] rfl
        exact W.vret hx hb hr (fun t ht hW => ⟨⟨(fa pl k, regs, cnt2_14, words2_15, told2_16), rfl, hw_13, by rw [ht]; exact hP9, va_K.moved hW.alike hK9, hD9⟩, hS.F ht⟩) hS.2.2 dX2_store_72
  · refine lv_iload_n hx hb dX2_store_6 rfl (lv_at hl 1 rfl) ?_
    refine lv_bipush (v := 7) hx hb dX2_store_7 (by decide) ?_
    refine lv_iand hx hb dX2_store_9 ?_
    refine lv_istore (lv' := [(4, .int (pl &&& 7)), (0, .ref aR), (1, .int pl), (2, .int k), (3, .int v)]) hx hb dX2_store_10 hl (by decide) rfl (fun ls hl => ?_)
    refine lv_aload_n hx hb dX2_store_12 rfl (lv_at hl 1 rfl) ?_
    refine va_get (D := (dC, dI)) (ci := 2) (v := .ref aA) (C := RX2) (T := TX2) (N := 4) hx hb hts (by decide +kernel) hown hK hP 0 rfl rfl 1 (by decide) (hts (.fieldLink RX2 9 "WordGuest$Parts" "registers" "[I") (by decide +kernel)) (fun _ h9 => h9) rfl dX2_store_13 ?_
    refine lv_iload hx hb dX2_store_16 (lv_at hl 0 rfl) ?_
    refine lv_aload_n hx hb dX2_store_18 rfl (lv_at hl 1 rfl) ?_
    refine va_get (D := (dC, dI)) (ci := 2) (v := .ref aA) (C := RX2) (T := TX2) (N := 4) hx hb hts (by decide +kernel) hown hK hP 0 rfl rfl 1 (by decide) (hts (.fieldLink RX2 9 "WordGuest$Parts" "registers" "[I") (by decide +kernel)) (fun _ h9 => h9) rfl dX2_store_19 ?_
    refine lv_iload hx hb dX2_store_22 (lv_at hl 0 rfl) ?_
    refine va_iald hx hb hK hP 1 0 rfl rfl (pk_andIn _ 3 (by decide) (by decide)) dX2_store_24 ?_
    refine lv_iload_n hx hb dX2_store_25 rfl (lv_at hl 3 rfl) ?_
    refine lv_iconst (v := (-1)) hx hb dX2_store_26 (by decide) ?_
    refine lv_ixor hx hb dX2_store_27 ?_
    refine lv_iand hx hb dX2_store_28 ?_
    refine lv_iload_n hx hb dX2_store_29 rfl (lv_at hl 4 rfl) ?_
    refine lv_iload_n hx hb dX2_store_30 rfl (lv_at hl 3 rfl) ?_
    refine lv_iand hx hb dX2_store_31 ?_
    refine lv_ior hx hb dX2_store_32 ?_
    refine va_iast hx hb hK hP hD hS 1 0 rfl rfl (pk_andIn _ 3 (by decide) (by decide)) dX2_store_33 (fun H locs hP hD hS => ?_)
    have hP : va_P (dC, dI) vwCl [(aR, .inr (2, [.ref aM, .ref aA, .ref aB, .int fault])), (aA, .inl (cA, 8, .inl (upd regs (pl &&& 7).toNatClampNeg (((regs (pl &&& 7).toNatClampNeg) &&& (k ^^^ (-1))) ||| (v &&& k))))), (aM, .inr (1, [.ref aW, .ref aT, .int cnt])), (aW, .inl (cW, 2048, .inl words)), (aT, .inl (cT, 400, .inl told))] H := hP
    have hD : va_D A [(aR, .inr (2, [.ref aM, .ref aA, .ref aB, .int fault])), (aA, .inl (cA, 8, .inl (upd regs (pl &&& 7).toNatClampNeg (((regs (pl &&& 7).toNatClampNeg) &&& (k ^^^ (-1))) ||| (v &&& k))))), (aM, .inr (1, [.ref aW, .ref aT, .int cnt])), (aW, .inl (cW, 2048, .inl words)), (aT, .inl (cT, 400, .inl told))] := hD
    generalize (upd regs (pl &&& 7).toNatClampNeg (((regs (pl &&& 7).toNatClampNeg) &&& (k ^^^ (-1))) ||| (v &&& k))) = g_17 at hP hD
    have hP9 := hP.sub (ws' := [(aR, .inr (2, [.ref aM, .ref aA, .ref aB, .int fault])), (aA, .inl (cA, 8, .inl g_17)), (aM, .inr (1, [.ref aW, .ref aT, .int cnt])), (aW, .inl (cW, 2048, .inl words)), (aT, .inl (cT, 400, .inl told))]) [0, 1, 2, 3, 4] rfl
    have hD9 := hD.sub (ws' := [(aR, .inr (2, [.ref aM, .ref aA, .ref aB, .int fault])), (aA, .inl (cA, 8, .inl g_17)), (aM, .inr (1, [.ref aW, .ref aT, .int cnt])), (aW, .inl (cW, 2048, .inl words)), (aT, .inl (cT, 400, .inl told))]) [0, 1, 2, 3, 4] (by decide) rfl
    have hK9 := hK.sub (tys' := [(cA, .int), (cW, .int), (cT, .int)]) [0, 1, 2] rfl
    exact W.vret hx hb hr (fun t ht hW => ⟨⟨(fault, g_17, cnt, words, told), rfl, h4, by rw [ht]; exact hP9, va_K.moved hW.alike hK9, hD9⟩, hS.F ht⟩) hS.2.2 dX2_store_34
set_option maxHeartbeats 4000000 in
set_option maxRecDepth 100000 in
theorem s_X2_storeMoved (l : Launch) (dC : Nat → ClassId) (dI : Nat → Nat → Nat) (sz : Nat) (aR : Nat) (pl : Int32) (k : Int32) (v : Int32) (aM : Nat) (aA : Nat) (aB : Nat) (fault : Int32) (cA : ClassId) (regs : Nat → Int32) (aW : Nat) (aT : Nat) (cnt : Int32) (cW : ClassId) (words : Nat → Int32) (cT : ClassId) (told : Nat → Int32) (h4 : ok4 cnt) : Met l yX2_storeMoved wsX2_storeMoved ({ frames := 2, cells := 0, slots := 0, locals := 49 }) (va_Pc [.ref aR, .int pl, .int k, .int v] (q_pre dC dI sz [(aR, .inr (2, [.ref aM, .ref aA, .ref aB, .int fault])), (aA, .inl (cA, 8, .inl regs)), (aM, .inr (1, [.ref aW, .ref aT, .int cnt])), (aW, .inl (cW, 2048, .inl words)), (aT, .inl (cT, 400, .inl told))] [(cA, .int), (cW, .int), (cT, .int)])) (va_Qv (fun (u9 : Int32 × (Nat → Int32) × Int32 × (Nat → Int32) × (Nat → Int32)) => ok4 u9.2.2.1) (q_at dC dI (va_A [(aR, .inr (2, [.ref aM, .ref aA, .ref aB, .int fault])), (aA, .inl (cA, 8, .inl regs)), (aM, .inr (1, [.ref aW, .ref aT, .int cnt])), (aW, .inl (cW, 2048, .inl words)), (aT, .inl (cT, 400, .inl told))] sz) (fun (u9 : Int32 × (Nat → Int32) × Int32 × (Nat → Int32) × (Nat → Int32)) => [(cA, .int), (cW, .int), (cT, .int)]) (fun (u9 : Int32 × (Nat → Int32) × Int32 × (Nat → Int32) × (Nat → Int32)) => [(aR, .inr (2, [.ref aM, .ref aA, .ref aB, .int u9.1])), (aA, .inl (cA, 8, .inl u9.2.1)), (aM, .inr (1, [.ref aW, .ref aT, .int u9.2.2.1])), (aW, .inl (cW, 2048, .inl u9.2.2.2.1)), (aT, .inl (cT, 400, .inl u9.2.2.2.2))])) (va_A [(aR, .inr (2, [.ref aM, .ref aA, .ref aB, .int fault])), (aA, .inl (cA, 8, .inl regs)), (aM, .inr (1, [.ref aW, .ref aT, .int cnt])), (aW, .inl (cW, 2048, .inl words)), (aT, .inl (cT, 400, .inl told))] sz)) 0 0 (va_A [(aR, .inr (2, [.ref aM, .ref aA, .ref aB, .int fault])), (aA, .inl (cA, 8, .inl regs)), (aM, .inr (1, [.ref aW, .ref aT, .int cnt])), (aW, .inl (cW, 2048, .inl words)), (aT, .inl (cT, 400, .inl told))] sz) := by
  refine Met.ofW (cc := cX2_storeMoved) (maxL := 4) (ret := none) (by decide) rfl ?_
  intro p e s m args below meth c s₁ B hml hv
  obtain ⟨rfl, hsz, hP, hK, hD0, hN⟩ := hv
  have hx := B.exec
  have hb := B.bytes
  have hr := B.returns
  have hts := atoms_spec (ws := wsX2_storeMoved) B.pre
  have hown : s.vm.findClass RX2 = some m.cls := findClass_of_methodNamed B.named
  have hlocks := B.notSynchronized
  subst hsz
  have hD := hD0.self (sz := s.heap.size)
  generalize hAe : va_A [(aR, .inr (2, [.ref aM, .ref aA, .ref aB, .int fault])), (aA, .inl (cA, 8, .inl regs)), (aM, .inr (1, [.ref aW, .ref aT, .int cnt])), (aW, .inl (cW, 2048, .inl words)), (aT, .inl (cT, 400, .inl told))] s.heap.size = A at hD ⊢
  have hA : ∀ q : Nat, s.heap.size ≤ q → A q := fun q h => by rw [← hAe]; exact Or.inr h
  have hS : va_S A s.heap s.heap [] := va_S.rf
  have hP : va_P (dC, dI) vwCl [(aR, .inr (2, [.ref aM, .ref aA, .ref aB, .int fault])), (aA, .inl (cA, 8, .inl regs)), (aM, .inr (1, [.ref aW, .ref aT, .int cnt])), (aW, .inl (cW, 2048, .inl words)), (aT, .inl (cT, 400, .inl told))] s.heap := hP
  have hl := lv_entry ([.ref aR, .int pl, .int k, .int v]) (n := 4) (Nat.le_of_ble_eq_true rfl)
  rw [lg_entry_eq]
  generalize (lg_sl ([.ref aR, .int pl, .int k, .int v]) ++ List.replicate (4 - (lg_sl ([.ref aR, .int pl, .int k, .int v])).length) Slot.unset).toArray = ls at hl ⊢
  have hl : lv_has ls 4 [(0, .ref aR), (1, .int pl), (2, .int k), (3, .int v)] := hl
  refine lv_iload_n hx hb dX2_storeMoved_0 rfl (lv_at hl 1 rfl) ?_
  refine lv_ldc (v := 65536) hx hb hown (hts (.constant RX2 38 (65536)) (by decide +kernel)) dX2_storeMoved_1 ?_
  refine lv_icmp_lt (tgt := 35) hx hb dX2_storeMoved_3 (by decide) (fun c_1 => ?_) (fun c_1 => ?_)
  · refine lv_aload_n hx hb dX2_storeMoved_35 rfl (lv_at hl 0 rfl) ?_
    refine lv_iload_n hx hb dX2_storeMoved_36 rfl (lv_at hl 1 rfl) ?_
    refine lv_iload_n hx hb dX2_storeMoved_37 rfl (lv_at hl 2 rfl) ?_
    refine lv_iload_n hx hb dX2_storeMoved_38 rfl (lv_at hl 3 rfl) ?_
    have hPc := hP.sub (ws' := [(aR, .inr (2, [.ref aM, .ref aA, .ref aB, .int fault])), (aA, .inl (cA, 8, .inl regs)), (aM, .inr (1, [.ref aW, .ref aT, .int cnt])), (aW, .inl (cW, 2048, .inl words)), (aT, .inl (cT, 400, .inl told))]) [0, 1, 2, 3, 4] rfl
    have hDc := hD.sub (ws' := [(aR, .inr (2, [.ref aM, .ref aA, .ref aB, .int fault])), (aA, .inl (cA, 8, .inl regs)), (aM, .inr (1, [.ref aW, .ref aT, .int cnt])), (aW, .inl (cW, 2048, .inl words)), (aT, .inl (cT, 400, .inl told))]) [0, 1, 2, 3, 4] (by decide) rfl
    have hKc := hK.sub (tys' := [(cA, .int), (cW, .int), (cT, .int)]) [0, 1, 2] rfl
    have hFc := va_free (wc := [(aR, .inr (2, [.ref aM, .ref aA, .ref aB, .int fault])), (aA, .inl (cA, 8, .inl regs)), (aM, .inr (1, [.ref aW, .ref aT, .int cnt])), (aW, .inl (cW, 2048, .inl words)), (aT, .inl (cT, 400, .inl told))]) hD hS hA [0, 1, 2, 3, 4] rfl
    refine va_callv (va_runV (C := RX2) (b := aR) (As := [.int pl, .int k, .int v]) (rest := []) ⟨hx, hb, hml, hown, hts⟩ (s_X2_store l dC dI s.heap.size aR pl k v aM aA aB fault cA regs aW aT cnt cW words cT told h4) (cwV 3 hts gX2_storeMoved_X2_store rfl rfl rfl (by decide +kernel) ⟨Nat.le_of_ble_eq_true rfl, Nat.le_of_ble_eq_true rfl⟩) ⟨q_blind, va_recv hK hP (ci := 2) (q0 := 0) rfl rfl, fun U hU hW => ⟨rfl, q_pay hU hW hPc hKc hDc hN⟩⟩ rfl rfl hl.1 rfl (lv_room (Nat.le_of_ble_eq_true rfl)) dX2_storeMoved_39 ⟨show 0 + 0 ≤ 0 from by omega, show 0 + 0 ≤ 0 from by omega⟩) hS (fun q _ h => hFc q h) hFc (fun u9 t H locs ht hvm hw_3 hB hz1 hk1 hS => ?_)
    obtain ⟨fault2_4, regs2_5, cnt2_6, words2_7, told2_8⟩ := u9
    obtain ⟨hP1, hK1, hD1⟩ := hB
    rw [ht] at hP1
    obtain ⟨hP, hD⟩ := va_join (wr := []) (w1 := [(aR, .inr (2, [.ref aM, .ref aA, .ref aB, .int fault2_4])), (aA, .inl (cA, 8, .inl regs2_5)), (aM, .inr (1, [.ref aW, .ref aT, .int cnt2_6])), (aW, .inl (cW, 2048, .inl words2_7)), (aT, .inl (cT, 400, .inl told2_8))]) hP hD [0, 1, 2, 3, 4] [] rfl rfl (by decide) (by decide) hk1 hFc hP1 hD1
    have hP : va_P (dC, dI) vwCl [(aR, .inr (2, [.ref aM, .ref aA, .ref aB, .int fault2_4])), (aA, .inl (cA, 8, .inl regs2_5)), (aM, .inr (1, [.ref aW, .ref aT, .int cnt2_6])), (aW, .inl (cW, 2048, .inl words2_7)), (aT, .inl (cT, 400, .inl told2_8))] H := hP
    have hD : va_D A [(aR, .inr (2, [.ref aM, .ref aA, .ref aB, .int fault2_4])), (aA, .inl (cA, 8, .inl regs2_5)), (aM, .inr (1, [.ref aW, .ref aT, .int cnt2_6])), (aW, .inl (cW, 2048, .inl words2_7)), (aT, .inl (cT, 400, .inl told2_8))] := hD
    refine W.widen (k := 0) (n := 0) (by omega) (by omega) ?_
    try dsimp only at hw_3
    have hP9 := hP.sub (ws' := [(aR, .inr (2, [.ref aM, .ref aA, .ref aB, .int fault2_4])), (aA, .inl (cA, 8, .inl regs2_5)), (aM, .inr (1, [.ref aW, .ref aT, .int cnt2_6])), (aW, .inl (cW, 2048, .inl words2_7)), (aT, .inl (cT, 400, .inl told2_8))]) [0, 1, 2, 3, 4] rfl
    have hD9 := hD.sub (ws' := [(aR, .inr (2, [.ref aM, .ref aA, .ref aB, .int fault2_4])), (aA, .inl (cA, 8, .inl regs2_5)), (aM, .inr (1, [.ref aW, .ref aT, .int cnt2_6])), (aW, .inl (cW, 2048, .inl words2_7)), (aT, .inl (cT, 400, .inl told2_8))]) [0, 1, 2, 3, 4] (by decide) rfl
    have hK9 := hK.sub (tys' := [(cA, .int), (cW, .int), (cT, .int)]) [0, 1, 2] rfl
    exact W.vret hx hb hr (fun t ht hW => ⟨⟨(fault2_4, regs2_5, cnt2_6, words2_7, told2_8), rfl, hw_3, by rw [ht]; exact hP9, va_K.moved hW.alike hK9, hD9⟩, hS.F ht⟩) hS.2.2 dX2_storeMoved_42
  · refine lv_iload_n hx hb dX2_storeMoved_6 rfl (lv_at hl 2 rfl) ?_
    refine lv_sipush (v := 255) hx hb dX2_storeMoved_7 (by decide) ?_
    refine lv_icmp_ne (tgt := 35) hx hb dX2_storeMoved_10 (by decide) (fun c_9 => ?_) (fun c_9 => ?_)
    · refine lv_aload_n hx hb dX2_storeMoved_35 rfl (lv_at hl 0 rfl) ?_
      refine lv_iload_n hx hb dX2_storeMoved_36 rfl (lv_at hl 1 rfl) ?_
      refine lv_iload_n hx hb dX2_storeMoved_37 rfl (lv_at hl 2 rfl) ?_
      refine lv_iload_n hx hb dX2_storeMoved_38 rfl (lv_at hl 3 rfl) ?_
      have hPc := hP.sub (ws' := [(aR, .inr (2, [.ref aM, .ref aA, .ref aB, .int fault])), (aA, .inl (cA, 8, .inl regs)), (aM, .inr (1, [.ref aW, .ref aT, .int cnt])), (aW, .inl (cW, 2048, .inl words)), (aT, .inl (cT, 400, .inl told))]) [0, 1, 2, 3, 4] rfl
      have hDc := hD.sub (ws' := [(aR, .inr (2, [.ref aM, .ref aA, .ref aB, .int fault])), (aA, .inl (cA, 8, .inl regs)), (aM, .inr (1, [.ref aW, .ref aT, .int cnt])), (aW, .inl (cW, 2048, .inl words)), (aT, .inl (cT, 400, .inl told))]) [0, 1, 2, 3, 4] (by decide) rfl
      have hKc := hK.sub (tys' := [(cA, .int), (cW, .int), (cT, .int)]) [0, 1, 2] rfl
      have hFc := va_free (wc := [(aR, .inr (2, [.ref aM, .ref aA, .ref aB, .int fault])), (aA, .inl (cA, 8, .inl regs)), (aM, .inr (1, [.ref aW, .ref aT, .int cnt])), (aW, .inl (cW, 2048, .inl words)), (aT, .inl (cT, 400, .inl told))]) hD hS hA [0, 1, 2, 3, 4] rfl
      refine va_callv (va_runV (C := RX2) (b := aR) (As := [.int pl, .int k, .int v]) (rest := []) ⟨hx, hb, hml, hown, hts⟩ (s_X2_store l dC dI s.heap.size aR pl k v aM aA aB fault cA regs aW aT cnt cW words cT told h4) (cwV 3 hts gX2_storeMoved_X2_store rfl rfl rfl (by decide +kernel) ⟨Nat.le_of_ble_eq_true rfl, Nat.le_of_ble_eq_true rfl⟩) ⟨q_blind, va_recv hK hP (ci := 2) (q0 := 0) rfl rfl, fun U hU hW => ⟨rfl, q_pay hU hW hPc hKc hDc hN⟩⟩ rfl rfl hl.1 rfl (lv_room (Nat.le_of_ble_eq_true rfl)) dX2_storeMoved_39 ⟨show 0 + 0 ≤ 0 from by omega, show 0 + 0 ≤ 0 from by omega⟩) hS (fun q _ h => hFc q h) hFc (fun u9 t H locs ht hvm hw_11 hB hz1 hk1 hS => ?_)
      obtain ⟨fault2_12, regs2_13, cnt2_14, words2_15, told2_16⟩ := u9
      obtain ⟨hP1, hK1, hD1⟩ := hB
      rw [ht] at hP1
      obtain ⟨hP, hD⟩ := va_join (wr := []) (w1 := [(aR, .inr (2, [.ref aM, .ref aA, .ref aB, .int fault2_12])), (aA, .inl (cA, 8, .inl regs2_13)), (aM, .inr (1, [.ref aW, .ref aT, .int cnt2_14])), (aW, .inl (cW, 2048, .inl words2_15)), (aT, .inl (cT, 400, .inl told2_16))]) hP hD [0, 1, 2, 3, 4] [] rfl rfl (by decide) (by decide) hk1 hFc hP1 hD1
      have hP : va_P (dC, dI) vwCl [(aR, .inr (2, [.ref aM, .ref aA, .ref aB, .int fault2_12])), (aA, .inl (cA, 8, .inl regs2_13)), (aM, .inr (1, [.ref aW, .ref aT, .int cnt2_14])), (aW, .inl (cW, 2048, .inl words2_15)), (aT, .inl (cT, 400, .inl told2_16))] H := hP
      have hD : va_D A [(aR, .inr (2, [.ref aM, .ref aA, .ref aB, .int fault2_12])), (aA, .inl (cA, 8, .inl regs2_13)), (aM, .inr (1, [.ref aW, .ref aT, .int cnt2_14])), (aW, .inl (cW, 2048, .inl words2_15)), (aT, .inl (cT, 400, .inl told2_16))] := hD
      refine W.widen (k := 0) (n := 0) (by omega) (by omega) ?_
      try dsimp only at hw_11
      have hP9 := hP.sub (ws' := [(aR, .inr (2, [.ref aM, .ref aA, .ref aB, .int fault2_12])), (aA, .inl (cA, 8, .inl regs2_13)), (aM, .inr (1, [.ref aW, .ref aT, .int cnt2_14])), (aW, .inl (cW, 2048, .inl words2_15)), (aT, .inl (cT, 400, .inl told2_16))]) [0, 1, 2, 3, 4] rfl
      have hD9 := hD.sub (ws' := [(aR, .inr (2, [.ref aM, .ref aA, .ref aB, .int fault2_12])), (aA, .inl (cA, 8, .inl regs2_13)), (aM, .inr (1, [.ref aW, .ref aT, .int cnt2_14])), (aW, .inl (cW, 2048, .inl words2_15)), (aT, .inl (cT, 400, .inl told2_16))]) [0, 1, 2, 3, 4] (by decide) rfl
      have hK9 := hK.sub (tys' := [(cA, .int), (cW, .int), (cT, .int)]) [0, 1, 2] rfl
      exact W.vret hx hb hr (fun t ht hW => ⟨⟨(fault2_12, regs2_13, cnt2_14, words2_15, told2_16), rfl, hw_11, by rw [ht]; exact hP9, va_K.moved hW.alike hK9, hD9⟩, hS.F ht⟩) hS.2.2 dX2_storeMoved_42
    · refine lv_aload_n hx hb dX2_storeMoved_13 rfl (lv_at hl 0 rfl) ?_
      refine va_get (D := (dC, dI)) (ci := 2) (v := .ref aA) (C := RX2) (T := TX2) (N := 4) hx hb hts (by decide +kernel) hown hK hP 0 rfl rfl 1 (by decide) (hts (.fieldLink RX2 9 "WordGuest$Parts" "registers" "[I") (by decide +kernel)) (fun _ h9 => h9) rfl dX2_storeMoved_14 ?_
      refine lv_iload_n hx hb dX2_storeMoved_17 rfl (lv_at hl 1 rfl) ?_
      refine lv_bipush (v := 7) hx hb dX2_storeMoved_18 (by decide) ?_
      refine lv_iand hx hb dX2_storeMoved_20 ?_
      refine lv_iload_n hx hb dX2_storeMoved_21 rfl (lv_at hl 3 rfl) ?_
      refine lv_sipush (v := 255) hx hb dX2_storeMoved_22 (by decide) ?_
      have hPc := hP.sub (ws' := []) [] rfl
      have hDc := hD.sub (ws' := []) [] (by decide) rfl
      have hKc := hK.sub (tys' := []) [] rfl
      have hFc := va_free (wc := []) hD hS hA [] rfl
      refine va_calli (va_runSN (As := [.int v, .int 255]) (rest := [.int (pl &&& 7), .ref aA]) ⟨hx, hb, hml, hown, hts⟩ (s_X4_signed l dC dI s.heap.size v (255 : Int32)) ⟨va_cnB 2 hts gX2_storeMoved_X4_signed_n68 rfl rfl rfl (hN _ (List.mem_of_getElem? (i := 16) rfl)) (hts (.initialized RX4) (by decide +kernel)) (by decide +kernel) ⟨Nat.le_of_ble_eq_true rfl, Nat.le_of_ble_eq_true rfl⟩, hts (.static yX4_signed) (by decide +kernel), trivial⟩ ⟨q_blind, fun U hU hW => ⟨rfl, q_pay hU hW hPc hKc hDc hN⟩⟩ rfl rfl hl.1 rfl (lv_room (Nat.le_of_ble_eq_true rfl)) dX2_storeMoved_25 ⟨show 0 + 0 ≤ 0 from by omega, show 0 + 0 ≤ 0 from by omega⟩) hS (fun q _ h => hFc q h) hFc (fun r_17 u9 t H locs ht hvm hw_18 hB hz1 hk1 hS => ?_)
      obtain ⟨hP1, hK1, hD1⟩ := hB
      rw [ht] at hP1
      obtain ⟨hP, hD⟩ := va_join (wr := [(aR, .inr (2, [.ref aM, .ref aA, .ref aB, .int fault])), (aA, .inl (cA, 8, .inl regs)), (aM, .inr (1, [.ref aW, .ref aT, .int cnt])), (aW, .inl (cW, 2048, .inl words)), (aT, .inl (cT, 400, .inl told))]) (w1 := []) hP hD [] [0, 1, 2, 3, 4] rfl rfl (by decide) (by decide) hk1 hFc hP1 hD1
      have hP : va_P (dC, dI) vwCl [(aR, .inr (2, [.ref aM, .ref aA, .ref aB, .int fault])), (aA, .inl (cA, 8, .inl regs)), (aM, .inr (1, [.ref aW, .ref aT, .int cnt])), (aW, .inl (cW, 2048, .inl words)), (aT, .inl (cT, 400, .inl told))] H := hP
      have hD : va_D A [(aR, .inr (2, [.ref aM, .ref aA, .ref aB, .int fault])), (aA, .inl (cA, 8, .inl regs)), (aM, .inr (1, [.ref aW, .ref aT, .int cnt])), (aW, .inl (cW, 2048, .inl words)), (aT, .inl (cT, 400, .inl told))] := hD
      refine W.widen (k := 0) (n := 0) (by omega) (by omega) ?_
      try dsimp only at hw_18
      refine lv_ldc (v := 65535) hx hb hown (hts (.constant RX2 46 (65535)) (by decide +kernel)) dX2_storeMoved_28 ?_
      refine lv_iand hx hb dX2_storeMoved_30 ?_
      refine va_iast hx hb hK hP hD hS 1 0 rfl rfl (pk_andIn _ 3 (by decide) (by decide)) dX2_storeMoved_31 (fun H locs hP hD hS => ?_)
      have hP : va_P (dC, dI) vwCl [(aR, .inr (2, [.ref aM, .ref aA, .ref aB, .int fault])), (aA, .inl (cA, 8, .inl (upd regs (pl &&& 7).toNatClampNeg (r_17 &&& 65535)))), (aM, .inr (1, [.ref aW, .ref aT, .int cnt])), (aW, .inl (cW, 2048, .inl words)), (aT, .inl (cT, 400, .inl told))] H := hP
      have hD : va_D A [(aR, .inr (2, [.ref aM, .ref aA, .ref aB, .int fault])), (aA, .inl (cA, 8, .inl (upd regs (pl &&& 7).toNatClampNeg (r_17 &&& 65535)))), (aM, .inr (1, [.ref aW, .ref aT, .int cnt])), (aW, .inl (cW, 2048, .inl words)), (aT, .inl (cT, 400, .inl told))] := hD
      generalize (upd regs (pl &&& 7).toNatClampNeg (r_17 &&& 65535)) = g_19 at hP hD
      refine lv_goto (tgt := 42) hx hb dX2_storeMoved_32 (by decide) ?_
      have hP9 := hP.sub (ws' := [(aR, .inr (2, [.ref aM, .ref aA, .ref aB, .int fault])), (aA, .inl (cA, 8, .inl g_19)), (aM, .inr (1, [.ref aW, .ref aT, .int cnt])), (aW, .inl (cW, 2048, .inl words)), (aT, .inl (cT, 400, .inl told))]) [0, 1, 2, 3, 4] rfl
      have hD9 := hD.sub (ws' := [(aR, .inr (2, [.ref aM, .ref aA, .ref aB, .int fault])), (aA, .inl (cA, 8, .inl g_19)), (aM, .inr (1, [.ref aW, .ref aT, .int cnt])), (aW, .inl (cW, 2048, .inl words)), (aT, .inl (cT, 400, .inl told))]) [0, 1, 2, 3, 4] (by decide) rfl
      have hK9 := hK.sub (tys' := [(cA, .int), (cW, .int), (cT, .int)]) [0, 1, 2] rfl
      exact W.vret hx hb hr (fun t ht hW => ⟨⟨(fault, g_19, cnt, words, told), rfl, h4, by rw [ht]; exact hP9, va_K.moved hW.alike hK9, hD9⟩, hS.F ht⟩) hS.2.2 dX2_storeMoved_42
set_option maxHeartbeats 4000000 in
set_option maxRecDepth 100000 in
theorem s_X2_push (l : Launch) (dC : Nat → ClassId) (dI : Nat → Nat → Nat) (sz : Nat) (aR : Nat) (v : Int32) (aM : Nat) (aA : Nat) (aB : Nat) (fault : Int32) (cA : ClassId) (regs : Nat → Int32) (aW : Nat) (aT : Nat) (cnt : Int32) (cW : ClassId) (words : Nat → Int32) (cT : ClassId) (told : Nat → Int32) (h4 : ok4 cnt) : Met l yX2_push wsX2_push ({ frames := 2, cells := 0, slots := 0, locals := 49 }) (va_Pc [.ref aR, .int v] (q_pre dC dI sz [(aR, .inr (2, [.ref aM, .ref aA, .ref aB, .int fault])), (aA, .inl (cA, 8, .inl regs)), (aM, .inr (1, [.ref aW, .ref aT, .int cnt])), (aW, .inl (cW, 2048, .inl words)), (aT, .inl (cT, 400, .inl told))] [(cA, .int), (cW, .int), (cT, .int)])) (va_Qv (fun (u9 : Int32 × (Nat → Int32) × Int32 × (Nat → Int32) × (Nat → Int32)) => ok4 u9.2.2.1) (q_at dC dI (va_A [(aR, .inr (2, [.ref aM, .ref aA, .ref aB, .int fault])), (aA, .inl (cA, 8, .inl regs)), (aM, .inr (1, [.ref aW, .ref aT, .int cnt])), (aW, .inl (cW, 2048, .inl words)), (aT, .inl (cT, 400, .inl told))] sz) (fun (u9 : Int32 × (Nat → Int32) × Int32 × (Nat → Int32) × (Nat → Int32)) => [(cA, .int), (cW, .int), (cT, .int)]) (fun (u9 : Int32 × (Nat → Int32) × Int32 × (Nat → Int32) × (Nat → Int32)) => [(aR, .inr (2, [.ref aM, .ref aA, .ref aB, .int u9.1])), (aA, .inl (cA, 8, .inl u9.2.1)), (aM, .inr (1, [.ref aW, .ref aT, .int u9.2.2.1])), (aW, .inl (cW, 2048, .inl u9.2.2.2.1)), (aT, .inl (cT, 400, .inl u9.2.2.2.2))])) (va_A [(aR, .inr (2, [.ref aM, .ref aA, .ref aB, .int fault])), (aA, .inl (cA, 8, .inl regs)), (aM, .inr (1, [.ref aW, .ref aT, .int cnt])), (aW, .inl (cW, 2048, .inl words)), (aT, .inl (cT, 400, .inl told))] sz)) 0 0 (va_A [(aR, .inr (2, [.ref aM, .ref aA, .ref aB, .int fault])), (aA, .inl (cA, 8, .inl regs)), (aM, .inr (1, [.ref aW, .ref aT, .int cnt])), (aW, .inl (cW, 2048, .inl words)), (aT, .inl (cT, 400, .inl told))] sz) := by
  refine Met.ofW (cc := cX2_push) (maxL := 2) (ret := none) (by decide) rfl ?_
  intro p e s m args below meth c s₁ B hml hv
  obtain ⟨rfl, hsz, hP, hK, hD0, hN⟩ := hv
  have hx := B.exec
  have hb := B.bytes
  have hr := B.returns
  have hts := atoms_spec (ws := wsX2_push) B.pre
  have hown : s.vm.findClass RX2 = some m.cls := findClass_of_methodNamed B.named
  have hlocks := B.notSynchronized
  subst hsz
  have hD := hD0.self (sz := s.heap.size)
  generalize hAe : va_A [(aR, .inr (2, [.ref aM, .ref aA, .ref aB, .int fault])), (aA, .inl (cA, 8, .inl regs)), (aM, .inr (1, [.ref aW, .ref aT, .int cnt])), (aW, .inl (cW, 2048, .inl words)), (aT, .inl (cT, 400, .inl told))] s.heap.size = A at hD ⊢
  have hA : ∀ q : Nat, s.heap.size ≤ q → A q := fun q h => by rw [← hAe]; exact Or.inr h
  have hS : va_S A s.heap s.heap [] := va_S.rf
  have hP : va_P (dC, dI) vwCl [(aR, .inr (2, [.ref aM, .ref aA, .ref aB, .int fault])), (aA, .inl (cA, 8, .inl regs)), (aM, .inr (1, [.ref aW, .ref aT, .int cnt])), (aW, .inl (cW, 2048, .inl words)), (aT, .inl (cT, 400, .inl told))] s.heap := hP
  have hl := lv_entry ([.ref aR, .int v]) (n := 2) (Nat.le_of_ble_eq_true rfl)
  rw [lg_entry_eq]
  generalize (lg_sl ([.ref aR, .int v]) ++ List.replicate (2 - (lg_sl ([.ref aR, .int v])).length) Slot.unset).toArray = ls at hl ⊢
  have hl : lv_has ls 2 [(0, .ref aR), (1, .int v)] := hl
  refine lv_aload_n hx hb dX2_push_0 rfl (lv_at hl 0 rfl) ?_
  refine lv_aload_n hx hb dX2_push_1 rfl (lv_at hl 0 rfl) ?_
  refine lv_bipush (v := 6) hx hb dX2_push_2 (by decide) ?_
  refine lv_iconst (v := 2) hx hb dX2_push_4 (by decide) ?_
  have hPc := hP.sub (ws' := [(aR, .inr (2, [.ref aM, .ref aA, .ref aB, .int fault])), (aA, .inl (cA, 8, .inl regs))]) [0, 1] rfl
  have hDc := hD.sub (ws' := [(aR, .inr (2, [.ref aM, .ref aA, .ref aB, .int fault])), (aA, .inl (cA, 8, .inl regs))]) [0, 1] (by decide) rfl
  have hKc := hK.sub (tys' := [(cA, .int)]) [0] rfl
  have hFc := va_free (wc := [(aR, .inr (2, [.ref aM, .ref aA, .ref aB, .int fault])), (aA, .inl (cA, 8, .inl regs))]) hD hS hA [0, 1] rfl
  refine va_calli (va_runV (C := RX2) (b := aR) (As := [.int 6, .int 2]) (rest := [.ref aR]) ⟨hx, hb, hml, hown, hts⟩ (s_X2_shrink l dC dI s.heap.size aR (6 : Int32) (2 : Int32) aM aA aB fault cA regs (by unfold vp_in; decide)) (cwV 2 hts gX2_push_X2_shrink rfl rfl rfl (by decide +kernel) ⟨Nat.le_of_ble_eq_true rfl, Nat.le_of_ble_eq_true rfl⟩) ⟨q_blind, va_recv hK hP (ci := 2) (q0 := 0) rfl rfl, fun U hU hW => ⟨rfl, q_pay hU hW hPc hKc hDc hN⟩⟩ rfl rfl hl.1 rfl (lv_room (Nat.le_of_ble_eq_true rfl)) dX2_push_5 ⟨show 0 + 0 ≤ 0 from by omega, show 0 + 0 ≤ 0 from by omega⟩) hS (fun q _ h => hFc q h) hFc (fun r_1 u9 t H locs ht hvm hw_2 hB hz1 hk1 hS => ?_)
  obtain ⟨regs2_3, rfl⟩ : ∃ z, z = u9 := ⟨_, rfl⟩
  obtain ⟨hP1, hK1, hD1⟩ := hB
  rw [ht] at hP1
  obtain ⟨hP, hD⟩ := va_join (wr := [(aM, .inr (1, [.ref aW, .ref aT, .int cnt])), (aW, .inl (cW, 2048, .inl words)), (aT, .inl (cT, 400, .inl told))]) (w1 := [(aR, .inr (2, [.ref aM, .ref aA, .ref aB, .int fault])), (aA, .inl (cA, 8, .inl regs2_3))]) hP hD [0, 1] [2, 3, 4] rfl rfl (by decide) (by decide) hk1 hFc hP1 hD1
  have hP : va_P (dC, dI) vwCl [(aM, .inr (1, [.ref aW, .ref aT, .int cnt])), (aW, .inl (cW, 2048, .inl words)), (aT, .inl (cT, 400, .inl told)), (aR, .inr (2, [.ref aM, .ref aA, .ref aB, .int fault])), (aA, .inl (cA, 8, .inl regs2_3))] H := hP
  have hD : va_D A [(aM, .inr (1, [.ref aW, .ref aT, .int cnt])), (aW, .inl (cW, 2048, .inl words)), (aT, .inl (cT, 400, .inl told)), (aR, .inr (2, [.ref aM, .ref aA, .ref aB, .int fault])), (aA, .inl (cA, 8, .inl regs2_3))] := hD
  refine W.widen (k := 0) (n := 0) (by omega) (by omega) ?_
  try dsimp only at hw_2
  refine lv_ldc (v := 65535) hx hb hown (hts (.constant RX2 46 (65535)) (by decide +kernel)) dX2_push_8 ?_
  refine lv_iload_n hx hb dX2_push_10 rfl (lv_at hl 1 rfl) ?_
  have hPc := hP.sub (ws' := [(aR, .inr (2, [.ref aM, .ref aA, .ref aB, .int fault])), (aA, .inl (cA, 8, .inl regs2_3)), (aM, .inr (1, [.ref aW, .ref aT, .int cnt])), (aW, .inl (cW, 2048, .inl words)), (aT, .inl (cT, 400, .inl told))]) [3, 4, 0, 1, 2] rfl
  have hDc := hD.sub (ws' := [(aR, .inr (2, [.ref aM, .ref aA, .ref aB, .int fault])), (aA, .inl (cA, 8, .inl regs2_3)), (aM, .inr (1, [.ref aW, .ref aT, .int cnt])), (aW, .inl (cW, 2048, .inl words)), (aT, .inl (cT, 400, .inl told))]) [3, 4, 0, 1, 2] (by decide) rfl
  have hKc := hK.sub (tys' := [(cA, .int), (cW, .int), (cT, .int)]) [0, 1, 2] rfl
  have hFc := va_free (wc := [(aR, .inr (2, [.ref aM, .ref aA, .ref aB, .int fault])), (aA, .inl (cA, 8, .inl regs2_3)), (aM, .inr (1, [.ref aW, .ref aT, .int cnt])), (aW, .inl (cW, 2048, .inl words)), (aT, .inl (cT, 400, .inl told))]) hD hS hA [3, 4, 0, 1, 2] rfl
  refine va_callv (va_runV (C := RX2) (b := aR) (As := [.int r_1, .int 65535, .int v]) (rest := []) ⟨hx, hb, hml, hown, hts⟩ (s_X2_store l dC dI H.size aR r_1 (65535 : Int32) v aM aA aB fault cA regs2_3 aW aT cnt cW words cT told h4) (cwV 3 hts gX2_push_X2_store rfl rfl rfl (by decide +kernel) ⟨Nat.le_of_ble_eq_true rfl, Nat.le_of_ble_eq_true rfl⟩) ⟨q_blind, va_recv hK hP (ci := 2) (q0 := 3) rfl rfl, fun U hU hW => ⟨rfl, q_pay hU hW hPc hKc hDc hN⟩⟩ rfl rfl hl.1 rfl (lv_room (Nat.le_of_ble_eq_true rfl)) dX2_push_11 ⟨show 0 + 0 ≤ 0 from by omega, show 0 + 0 ≤ 0 from by omega⟩) hS (fun q _ h => hFc q h) hFc (fun u9 t H locs ht hvm hw_5 hB hz1 hk1 hS => ?_)
  obtain ⟨fault2_6, regs2_7, cnt2_8, words2_9, told2_10⟩ := u9
  obtain ⟨hP1, hK1, hD1⟩ := hB
  rw [ht] at hP1
  obtain ⟨hP, hD⟩ := va_join (wr := []) (w1 := [(aR, .inr (2, [.ref aM, .ref aA, .ref aB, .int fault2_6])), (aA, .inl (cA, 8, .inl regs2_7)), (aM, .inr (1, [.ref aW, .ref aT, .int cnt2_8])), (aW, .inl (cW, 2048, .inl words2_9)), (aT, .inl (cT, 400, .inl told2_10))]) hP hD [3, 4, 0, 1, 2] [] rfl rfl (by decide) (by decide) hk1 hFc hP1 hD1
  have hP : va_P (dC, dI) vwCl [(aR, .inr (2, [.ref aM, .ref aA, .ref aB, .int fault2_6])), (aA, .inl (cA, 8, .inl regs2_7)), (aM, .inr (1, [.ref aW, .ref aT, .int cnt2_8])), (aW, .inl (cW, 2048, .inl words2_9)), (aT, .inl (cT, 400, .inl told2_10))] H := hP
  have hD : va_D A [(aR, .inr (2, [.ref aM, .ref aA, .ref aB, .int fault2_6])), (aA, .inl (cA, 8, .inl regs2_7)), (aM, .inr (1, [.ref aW, .ref aT, .int cnt2_8])), (aW, .inl (cW, 2048, .inl words2_9)), (aT, .inl (cT, 400, .inl told2_10))] := hD
  refine W.widen (k := 0) (n := 0) (by omega) (by omega) ?_
  try dsimp only at hw_5
  have hP9 := hP.sub (ws' := [(aR, .inr (2, [.ref aM, .ref aA, .ref aB, .int fault2_6])), (aA, .inl (cA, 8, .inl regs2_7)), (aM, .inr (1, [.ref aW, .ref aT, .int cnt2_8])), (aW, .inl (cW, 2048, .inl words2_9)), (aT, .inl (cT, 400, .inl told2_10))]) [0, 1, 2, 3, 4] rfl
  have hD9 := hD.sub (ws' := [(aR, .inr (2, [.ref aM, .ref aA, .ref aB, .int fault2_6])), (aA, .inl (cA, 8, .inl regs2_7)), (aM, .inr (1, [.ref aW, .ref aT, .int cnt2_8])), (aW, .inl (cW, 2048, .inl words2_9)), (aT, .inl (cT, 400, .inl told2_10))]) [0, 1, 2, 3, 4] (by decide) rfl
  have hK9 := hK.sub (tys' := [(cA, .int), (cW, .int), (cT, .int)]) [0, 1, 2] rfl
  exact W.vret hx hb hr (fun t ht hW => ⟨⟨(fault2_6, regs2_7, cnt2_8, words2_9, told2_10), rfl, hw_5, by rw [ht]; exact hP9, va_K.moved hW.alike hK9, hD9⟩, hS.F ht⟩) hS.2.2 dX2_push_14
