/-- how many were told -/
def ok4 (x : Int32) : Prop := ∃ j : Nat, j ≤ 400 ∧ x = nI j
def b01 (x : Int32) : Prop := x = 0 ∨ x = 1
theorem ok4_0 : ok4 0 := ⟨0, by decide, rfl⟩
theorem ok4_in {x : Int32} (h : ok4 x) (hn : ¬ 400 ≤ x) : vp_in x 400 := by
  obtain ⟨j, hj, rfl⟩ := h
  have : j < 400 := by
    rcases Nat.lt_or_ge j 400 with q | q
    · exact q
    · exact absurd (show nI 400 ≤ nI j from nI_le q (by omega)) hn
  exact vp_in_nI this (by decide)
theorem ok4_s {x : Int32} (h : ok4 x) (hn : ¬ 400 ≤ x) : ok4 (x + 1) := by
  obtain ⟨j, hj, rfl⟩ := h
  have : j < 400 := by
    rcases Nat.lt_or_ge j 400 with q | q
    · exact q
    · exact absurd (show nI 400 ≤ nI j from nI_le q (by omega)) hn
  exact ⟨j + 1, by omega, nI_1 j⟩
set_option maxHeartbeats 4000000 in
set_option maxRecDepth 100000 in
theorem s_X4_signOf (l : Launch) (dC : Nat → ClassId) (dI : Nat → Nat → Nat) (sz : Nat) (k : Int32)  : Met l yX4_signOf wsX4_signOf ({ frames := 0, cells := 0, slots := 0, locals := 0 }) (va_Pc [.int k] (q_pre dC dI sz [] [])) (va_Qi (fun (r : Int32) (u9 : Unit) => True) (q_at dC dI (va_A [] sz) (fun (u9 : Unit) => []) (fun (u9 : Unit) => [])) (va_A [] sz)) 0 0 (va_A [] sz) := by
  refine Met.ofW (cc := cX4_signOf) (maxL := 1) (ret := (some .int)) (by decide) rfl ?_
  intro p e s m args below meth c s₁ B hml hv
  obtain ⟨rfl, hsz, hP, hK, hD0, hN⟩ := hv
  have hx := B.exec
  have hb := B.bytes
  have hr := B.returns
  have hts := atoms_spec (ws := wsX4_signOf) B.pre
  have hown : s.vm.findClass RX4 = some m.cls := findClass_of_methodNamed B.named
  have hlocks := B.notSynchronized
  subst hsz
  have hD := hD0.self (sz := s.heap.size)
  generalize hAe : va_A [] s.heap.size = A at hD ⊢
  have hA : ∀ q : Nat, s.heap.size ≤ q → A q := fun q h => by rw [← hAe]; exact Or.inr h
  have hS : va_S A s.heap s.heap [] := va_S.rf
  have hP : va_P (dC, dI) vwCl [] s.heap := hP
  have hl := lv_entry ([.int k]) (n := 1) (Nat.le_of_ble_eq_true rfl)
  rw [lg_entry_eq]
  generalize (lg_sl ([.int k]) ++ List.replicate (1 - (lg_sl ([.int k])).length) Slot.unset).toArray = ls at hl ⊢
  have hl : lv_has ls 1 [(0, .int k)] := hl
  refine lv_iload_n hx hb dX4_signOf_0 rfl (lv_at hl 0 rfl) ?_
  refine lv_sipush (v := 255) hx hb dX4_signOf_1 (by decide) ?_
  refine q_any (ls := ls) 15 [] (fun b_2 => ?_) (fun jn => ?_)
  · have hP9 := hP.sub (ws' := []) [] rfl
    have hD9 := hD.sub (ws' := []) [] (by decide) rfl
    have hK9 := hK.sub (tys' := []) [] rfl
    exact W.iret (v := b_2) hx hb hr (fun t ht hW => ⟨⟨b_2, (), rfl, trivial, by rw [ht]; exact hP9, va_K.moved hW.alike hK9, hD9⟩, hS.F ht⟩) hS.2.2 dX4_signOf_15
  refine lv_icmp_ne (tgt := 13) hx hb dX4_signOf_4 (by decide) (fun c_1 => ?_) (fun c_1 => ?_)
  · refine lv_ldc (v := 32768) hx hb hown (hts (.constant RX4 93 (32768)) (by decide +kernel)) dX4_signOf_13 ?_
    exact jn _
  · refine lv_sipush (v := 128) hx hb dX4_signOf_7 (by decide) ?_
    refine lv_goto (tgt := 15) hx hb dX4_signOf_10 (by decide) ?_
    exact jn _
set_option maxHeartbeats 4000000 in
set_option maxRecDepth 100000 in
theorem s_X4_signed (l : Launch) (dC : Nat → ClassId) (dI : Nat → Nat → Nat) (sz : Nat) (v : Int32) (k : Int32)  : Met l yX4_signed wsX4_signed ({ frames := 1, cells := 0, slots := 0, locals := 20 }) (va_Pc [.int v, .int k] (q_pre dC dI sz [] [])) (va_Qi (fun (r : Int32) (u9 : Unit) => True) (q_at dC dI (va_A [] sz) (fun (u9 : Unit) => []) (fun (u9 : Unit) => [])) (va_A [] sz)) 0 0 (va_A [] sz) := by
  refine Met.ofW (cc := cX4_signed) (maxL := 3) (ret := (some .int)) (by decide) rfl ?_
  intro p e s m args below meth c s₁ B hml hv
  obtain ⟨rfl, hsz, hP, hK, hD0, hN⟩ := hv
  have hx := B.exec
  have hb := B.bytes
  have hr := B.returns
  have hts := atoms_spec (ws := wsX4_signed) B.pre
  have hown : s.vm.findClass RX4 = some m.cls := findClass_of_methodNamed B.named
  have hlocks := B.notSynchronized
  subst hsz
  have hD := hD0.self (sz := s.heap.size)
  generalize hAe : va_A [] s.heap.size = A at hD ⊢
  have hA : ∀ q : Nat, s.heap.size ≤ q → A q := fun q h => by rw [← hAe]; exact Or.inr h
  have hS : va_S A s.heap s.heap [] := va_S.rf
  have hP : va_P (dC, dI) vwCl [] s.heap := hP
  have hl := lv_entry ([.int v, .int k]) (n := 3) (Nat.le_of_ble_eq_true rfl)
  rw [lg_entry_eq]
  generalize (lg_sl ([.int v, .int k]) ++ List.replicate (3 - (lg_sl ([.int v, .int k])).length) Slot.unset).toArray = ls at hl ⊢
  have hl : lv_has ls 3 [(0, .int v), (1, .int k)] := hl
  refine lv_iload_n hx hb dX4_signed_0 rfl (lv_at hl 1 rfl) ?_
  have hPc := hP.sub (ws' := []) [] rfl
  have hDc := hD.sub (ws' := []) [] (by decide) rfl
  have hKc := hK.sub (tys' := []) [] rfl
  have hFc := va_free (wc := []) hD hS hA [] rfl
  refine va_calli (va_runS (As := [.int k]) (rest := []) ⟨hx, hb, hml, hown, hts⟩ (s_X4_signOf l dC dI s.heap.size k) (va_cwS 1 hts gX4_signed_X4_signOf rfl rfl rfl (by decide +kernel) ⟨Nat.le_of_ble_eq_true rfl, Nat.le_of_ble_eq_true rfl⟩) ⟨q_blind, fun U hU hW => ⟨rfl, q_pay hU hW hPc hKc hDc hN⟩⟩ rfl rfl hl.1 rfl (lv_room (Nat.le_of_ble_eq_true rfl)) dX4_signed_1 ⟨show 0 + 0 ≤ 0 from by omega, show 0 + 0 ≤ 0 from by omega⟩) hS (fun q _ h => hFc q h) hFc (fun r_1 u9 t H locs ht hvm hw_2 hB hz1 hk1 hS => ?_)
  obtain ⟨hP1, hK1, hD1⟩ := hB
  rw [ht] at hP1
  obtain ⟨hP, hD⟩ := va_join (wr := []) (w1 := []) hP hD [] [] rfl rfl (by decide) (by decide) hk1 hFc hP1 hD1
  have hP : va_P (dC, dI) vwCl [] H := hP
  have hD : va_D A [] := hD
  refine W.widen (k := 0) (n := 0) (by omega) (by omega) ?_
  try dsimp only at hw_2
  refine lv_istore_n (lv' := [(2, .int r_1), (0, .int v), (1, .int k)]) hx hb dX4_signed_4 rfl hl (by decide) rfl (fun ls hl => ?_)
  refine lv_iload_n hx hb dX4_signed_5 rfl (lv_at hl 1 rfl) ?_
  refine lv_iload_n hx hb dX4_signed_6 rfl (lv_at hl 2 rfl) ?_
  refine lv_iand hx hb dX4_signed_7 ?_
  refine lv_iload_n hx hb dX4_signed_8 rfl (lv_at hl 0 rfl) ?_
  refine lv_ixor hx hb dX4_signed_9 ?_
  refine lv_iload_n hx hb dX4_signed_10 rfl (lv_at hl 0 rfl) ?_
  refine lv_isub hx hb dX4_signed_11 ?_
  have hP9 := hP.sub (ws' := []) [] rfl
  have hD9 := hD.sub (ws' := []) [] (by decide) rfl
  have hK9 := hK.sub (tys' := []) [] rfl
  exact W.iret (v := ((v &&& k) ^^^ r_1) - r_1) hx hb hr (fun t ht hW => ⟨⟨((v &&& k) ^^^ r_1) - r_1, (), rfl, trivial, by rw [ht]; exact hP9, va_K.moved hW.alike hK9, hD9⟩, hS.F ht⟩) hS.2.2 dX4_signed_12
set_option maxHeartbeats 4000000 in
set_option maxRecDepth 100000 in
theorem s_X2_strideOf (l : Launch) (dC : Nat → ClassId) (dI : Nat → Nat → Nat) (sz : Nat) (rr : Int32) (k : Int32)  : Met l yX2_strideOf wsX2_strideOf ({ frames := 0, cells := 0, slots := 0, locals := 0 }) (va_Pc [.int rr, .int k] (q_pre dC dI sz [] [])) (va_Qi (fun (r : Int32) (u9 : Unit) => True) (q_at dC dI (va_A [] sz) (fun (u9 : Unit) => []) (fun (u9 : Unit) => [])) (va_A [] sz)) 0 0 (va_A [] sz) := by
  refine Met.ofW (cc := cX2_strideOf) (maxL := 2) (ret := (some .int)) (by decide) rfl ?_
  intro p e s m args below meth c s₁ B hml hv
  obtain ⟨rfl, hsz, hP, hK, hD0, hN⟩ := hv
  have hx := B.exec
  have hb := B.bytes
  have hr := B.returns
  have hts := atoms_spec (ws := wsX2_strideOf) B.pre
  have hown : s.vm.findClass RX2 = some m.cls := findClass_of_methodNamed B.named
  have hlocks := B.notSynchronized
  subst hsz
  have hD := hD0.self (sz := s.heap.size)
  generalize hAe : va_A [] s.heap.size = A at hD ⊢
  have hA : ∀ q : Nat, s.heap.size ≤ q → A q := fun q h => by rw [← hAe]; exact Or.inr h
  have hS : va_S A s.heap s.heap [] := va_S.rf
  have hP : va_P (dC, dI) vwCl [] s.heap := hP
  have hl := lv_entry ([.int rr, .int k]) (n := 2) (Nat.le_of_ble_eq_true rfl)
  rw [lg_entry_eq]
  generalize (lg_sl ([.int rr, .int k]) ++ List.replicate (2 - (lg_sl ([.int rr, .int k])).length) Slot.unset).toArray = ls at hl ⊢
  have hl : lv_has ls 2 [(0, .int rr), (1, .int k)] := hl
  refine lv_iload_n hx hb dX2_strideOf_0 rfl (lv_at hl 1 rfl) ?_
  refine lv_ldc (v := 65535) hx hb hown (hts (.constant RX2 46 (65535)) (by decide +kernel)) dX2_strideOf_1 ?_
  refine lv_icmp_eq (tgt := 18) hx hb dX2_strideOf_3 (by decide) (fun c_1 => ?_) (fun c_1 => ?_)
  · refine lv_iconst (v := 2) hx hb dX2_strideOf_18 (by decide) ?_
    refine lv_goto (tgt := 23) hx hb dX2_strideOf_19 (by decide) ?_
    have hP9 := hP.sub (ws' := []) [] rfl
    have hD9 := hD.sub (ws' := []) [] (by decide) rfl
    have hK9 := hK.sub (tys' := []) [] rfl
    exact W.iret (v := 2) hx hb hr (fun t ht hW => ⟨⟨2, (), rfl, trivial, by rw [ht]; exact hP9, va_K.moved hW.alike hK9, hD9⟩, hS.F ht⟩) hS.2.2 dX2_strideOf_23
  · refine lv_iload_n hx hb dX2_strideOf_6 rfl (lv_at hl 0 rfl) ?_
    refine lv_bipush (v := 6) hx hb dX2_strideOf_7 (by decide) ?_
    refine lv_icmp_eq (tgt := 18) hx hb dX2_strideOf_9 (by decide) (fun c_2 => ?_) (fun c_2 => ?_)
    · refine lv_iconst (v := 2) hx hb dX2_strideOf_18 (by decide) ?_
      refine lv_goto (tgt := 23) hx hb dX2_strideOf_19 (by decide) ?_
      have hP9 := hP.sub (ws' := []) [] rfl
      have hD9 := hD.sub (ws' := []) [] (by decide) rfl
      have hK9 := hK.sub (tys' := []) [] rfl
      exact W.iret (v := 2) hx hb hr (fun t ht hW => ⟨⟨2, (), rfl, trivial, by rw [ht]; exact hP9, va_K.moved hW.alike hK9, hD9⟩, hS.F ht⟩) hS.2.2 dX2_strideOf_23
    · refine lv_iload_n hx hb dX2_strideOf_12 rfl (lv_at hl 0 rfl) ?_
      refine lv_bipush (v := 7) hx hb dX2_strideOf_13 (by decide) ?_
      refine q_any (ls := ls) 23 [] (fun b_4 => ?_) (fun jn => ?_)
      · have hP9 := hP.sub (ws' := []) [] rfl
        have hD9 := hD.sub (ws' := []) [] (by decide) rfl
        have hK9 := hK.sub (tys' := []) [] rfl
        exact W.iret (v := b_4) hx hb hr (fun t ht hW => ⟨⟨b_4, (), rfl, trivial, by rw [ht]; exact hP9, va_K.moved hW.alike hK9, hD9⟩, hS.F ht⟩) hS.2.2 dX2_strideOf_23
      refine lv_icmp_ne (tgt := 22) hx hb dX2_strideOf_15 (by decide) (fun c_3 => ?_) (fun c_3 => ?_)
      · refine lv_iconst (v := 1) hx hb dX2_strideOf_22 (by decide) ?_
        exact jn _
      · refine lv_iconst (v := 2) hx hb dX2_strideOf_18 (by decide) ?_
        refine lv_goto (tgt := 23) hx hb dX2_strideOf_19 (by decide) ?_
        exact jn _
set_option maxHeartbeats 4000000 in
set_option maxRecDepth 100000 in
theorem s_X3_hasHighestBit (l : Launch) (dC : Nat → ClassId) (dI : Nat → Nat → Nat) (sz : Nat) (k : Int32)  : Met l yX3_hasHighestBit wsX3_hasHighestBit ({ frames := 0, cells := 0, slots := 0, locals := 0 }) (va_Pc [.int k] (q_pre dC dI sz [] [])) (va_Qi (fun (r : Int32) (u9 : Unit) => r = 0 ∨ r = 1) (q_at dC dI (va_A [] sz) (fun (u9 : Unit) => []) (fun (u9 : Unit) => [])) (va_A [] sz)) 0 0 (va_A [] sz) := by
  refine Met.ofW (cc := cX3_hasHighestBit) (maxL := 1) (ret := (some .boolean)) (by decide) rfl ?_
  intro p e s m args below meth c s₁ B hml hv
  obtain ⟨rfl, hsz, hP, hK, hD0, hN⟩ := hv
  have hx := B.exec
  have hb := B.bytes
  have hr := B.returns
  have hts := atoms_spec (ws := wsX3_hasHighestBit) B.pre
  have hown : s.vm.findClass RX3 = some m.cls := findClass_of_methodNamed B.named
  have hlocks := B.notSynchronized
  subst hsz
  have hD := hD0.self (sz := s.heap.size)
  generalize hAe : va_A [] s.heap.size = A at hD ⊢
  have hA : ∀ q : Nat, s.heap.size ≤ q → A q := fun q h => by rw [← hAe]; exact Or.inr h
  have hS : va_S A s.heap s.heap [] := va_S.rf
  have hP : va_P (dC, dI) vwCl [] s.heap := hP
  have hl := lv_entry ([.int k]) (n := 1) (Nat.le_of_ble_eq_true rfl)
  rw [lg_entry_eq]
  generalize (lg_sl ([.int k]) ++ List.replicate (1 - (lg_sl ([.int k])).length) Slot.unset).toArray = ls at hl ⊢
  have hl : lv_has ls 1 [(0, .int k)] := hl
  refine lv_iload_n hx hb dX3_hasHighestBit_0 rfl (lv_at hl 0 rfl) ?_
  refine lv_ldc (v := 32768) hx hb hown (hts (.constant RX3 64 (32768)) (by decide +kernel)) dX3_hasHighestBit_1 ?_
  refine lv_iand hx hb dX3_hasHighestBit_3 ?_
  refine q_bool (ls := ls) 12 [] (fun b_2 hb_3 => ?_) (fun jn => ?_)
  · have hP9 := hP.sub (ws' := []) [] rfl
    have hD9 := hD.sub (ws' := []) [] (by decide) rfl
    have hK9 := hK.sub (tys' := []) [] rfl
    exact W.zret (v := b_2) (ty := .boolean) hx hb hr (q_nz hb_3) (fun t ht hW => ⟨⟨b_2, (), rfl, hb_3, by rw [ht]; exact hP9, va_K.moved hW.alike hK9, hD9⟩, hS.F ht⟩) hS.2.2 dX3_hasHighestBit_12
  refine lv_if_eq (tgt := 11) hx hb dX3_hasHighestBit_4 (by decide) (fun c_1 => ?_) (fun c_1 => ?_)
  · refine lv_iconst (v := 0) hx hb dX3_hasHighestBit_11 (by decide) ?_
    exact jn _ (Or.inl rfl)
  · refine lv_iconst (v := 1) hx hb dX3_hasHighestBit_7 (by decide) ?_
    refine lv_goto (tgt := 12) hx hb dX3_hasHighestBit_8 (by decide) ?_
    exact jn _ (Or.inr rfl)
set_option maxHeartbeats 4000000 in
set_option maxRecDepth 100000 in
theorem s_X3_sizeIn (l : Launch) (dC : Nat → ClassId) (dI : Nat → Nat → Nat) (sz : Nat) (k : Int32)  : Met l yX3_sizeIn wsX3_sizeIn ({ frames := 1, cells := 0, slots := 0, locals := 20 }) (va_Pc [.int k] (q_pre dC dI sz [] [])) (va_Qi (fun (r : Int32) (u9 : Unit) => True) (q_at dC dI (va_A [] sz) (fun (u9 : Unit) => []) (fun (u9 : Unit) => [])) (va_A [] sz)) 0 0 (va_A [] sz) := by
  refine Met.ofW (cc := cX3_sizeIn) (maxL := 1) (ret := (some .int)) (by decide) rfl ?_
  intro p e s m args below meth c s₁ B hml hv
  obtain ⟨rfl, hsz, hP, hK, hD0, hN⟩ := hv
  have hx := B.exec
  have hb := B.bytes
  have hr := B.returns
  have hts := atoms_spec (ws := wsX3_sizeIn) B.pre
  have hown : s.vm.findClass RX3 = some m.cls := findClass_of_methodNamed B.named
  have hlocks := B.notSynchronized
  subst hsz
  have hD := hD0.self (sz := s.heap.size)
  generalize hAe : va_A [] s.heap.size = A at hD ⊢
  have hA : ∀ q : Nat, s.heap.size ≤ q → A q := fun q h => by rw [← hAe]; exact Or.inr h
  have hS : va_S A s.heap s.heap [] := va_S.rf
  have hP : va_P (dC, dI) vwCl [] s.heap := hP
  have hl := lv_entry ([.int k]) (n := 1) (Nat.le_of_ble_eq_true rfl)
  rw [lg_entry_eq]
  generalize (lg_sl ([.int k]) ++ List.replicate (1 - (lg_sl ([.int k])).length) Slot.unset).toArray = ls at hl ⊢
  have hl : lv_has ls 1 [(0, .int k)] := hl
  refine lv_iload_n hx hb dX3_sizeIn_0 rfl (lv_at hl 0 rfl) ?_
  have hPc := hP.sub (ws' := []) [] rfl
  have hDc := hD.sub (ws' := []) [] (by decide) rfl
  have hKc := hK.sub (tys' := []) [] rfl
  have hFc := va_free (wc := []) hD hS hA [] rfl
  refine va_calli (va_runS (As := [.int k]) (rest := []) ⟨hx, hb, hml, hown, hts⟩ (s_X3_hasHighestBit l dC dI s.heap.size k) (va_cwS 1 hts gX3_sizeIn_X3_hasHighestBit rfl rfl rfl (by decide +kernel) ⟨Nat.le_of_ble_eq_true rfl, Nat.le_of_ble_eq_true rfl⟩) ⟨q_blind, fun U hU hW => ⟨rfl, q_pay hU hW hPc hKc hDc hN⟩⟩ rfl rfl hl.1 rfl (lv_room (Nat.le_of_ble_eq_true rfl)) dX3_sizeIn_1 ⟨show 0 + 0 ≤ 0 from by omega, show 0 + 0 ≤ 0 from by omega⟩) hS (fun q _ h => hFc q h) hFc (fun r_1 u9 t H locs ht hvm hw_2 hB hz1 hk1 hS => ?_)
  obtain ⟨hP1, hK1, hD1⟩ := hB
  rw [ht] at hP1
  obtain ⟨hP, hD⟩ := va_join (wr := []) (w1 := []) hP hD [] [] rfl rfl (by decide) (by decide) hk1 hFc hP1 hD1
  have hP : va_P (dC, dI) vwCl [] H := hP
  have hD : va_D A [] := hD
  refine W.widen (k := 0) (n := 0) (by omega) (by omega) ?_
  try dsimp only at hw_2
  refine q_any (ls := ls) 15 [] (fun b_4 => ?_) (fun jn => ?_)
  · have hP9 := hP.sub (ws' := []) [] rfl
    have hD9 := hD.sub (ws' := []) [] (by decide) rfl
    have hK9 := hK.sub (tys' := []) [] rfl
    exact W.iret (v := b_4) hx hb hr (fun t ht hW => ⟨⟨b_4, (), rfl, trivial, by rw [ht]; exact hP9, va_K.moved hW.alike hK9, hD9⟩, hS.F ht⟩) hS.2.2 dX3_sizeIn_15
  refine lv_if_eq (tgt := 13) hx hb dX3_sizeIn_4 (by decide) (fun c_3 => ?_) (fun c_3 => ?_)
  · refine lv_ldc (v := 65535) hx hb hown (hts (.constant RX3 69 (65535)) (by decide +kernel)) dX3_sizeIn_13 ?_
    exact jn _
  · refine lv_sipush (v := 255) hx hb dX3_sizeIn_7 (by decide) ?_
    refine lv_goto (tgt := 15) hx hb dX3_sizeIn_10 (by decide) ?_
    exact jn _
set_option maxHeartbeats 4000000 in
set_option maxRecDepth 100000 in
theorem s_X3_combine (l : Launch) (dC : Nat → ClassId) (dI : Nat → Nat → Nat) (sz : Nat) (k : Int32) (v : Int32) (x : Int32)  : Met l yX3_combine wsX3_combine ({ frames := 0, cells := 0, slots := 0, locals := 0 }) (va_Pc [.int k, .int v, .int x] (q_pre dC dI sz [] [])) (va_Qi (fun (r : Int32) (u9 : Unit) => True) (q_at dC dI (va_A [] sz) (fun (u9 : Unit) => []) (fun (u9 : Unit) => [])) (va_A [] sz)) 0 0 (va_A [] sz) := by
  refine Met.ofW (cc := cX3_combine) (maxL := 3) (ret := (some .int)) (by decide) rfl ?_
  intro p e s m args below meth c s₁ B hml hv
  obtain ⟨rfl, hsz, hP, hK, hD0, hN⟩ := hv
  have hx := B.exec
  have hb := B.bytes
  have hr := B.returns
  have hts := atoms_spec (ws := wsX3_combine) B.pre
  have hown : s.vm.findClass RX3 = some m.cls := findClass_of_methodNamed B.named
  have hlocks := B.notSynchronized
  subst hsz
  have hD := hD0.self (sz := s.heap.size)
  generalize hAe : va_A [] s.heap.size = A at hD ⊢
  have hA : ∀ q : Nat, s.heap.size ≤ q → A q := fun q h => by rw [← hAe]; exact Or.inr h
  have hS : va_S A s.heap s.heap [] := va_S.rf
  have hP : va_P (dC, dI) vwCl [] s.heap := hP
  have hl := lv_entry ([.int k, .int v, .int x]) (n := 3) (Nat.le_of_ble_eq_true rfl)
  rw [lg_entry_eq]
  generalize (lg_sl ([.int k, .int v, .int x]) ++ List.replicate (3 - (lg_sl ([.int k, .int v, .int x])).length) Slot.unset).toArray = ls at hl ⊢
  have hl : lv_has ls 3 [(0, .int k), (1, .int v), (2, .int x)] := hl
  refine lv_iload_n hx hb dX3_combine_0 rfl (lv_at hl 0 rfl) ?_
  by_cases hs_1 : k = 1
  · refine q_toc (y := 1) hs_1 ?_
    refine lv_tableIn (off := 31) (tgt := 32) hx hb dX3_combine_1 (by decide) (by decide) (by decide) (by decide) ?_
    refine lv_iload_n hx hb dX3_combine_32 rfl (lv_at hl 1 rfl) ?_
    have hP9 := hP.sub (ws' := []) [] rfl
    have hD9 := hD.sub (ws' := []) [] (by decide) rfl
    have hK9 := hK.sub (tys' := []) [] rfl
    exact W.iret (v := v) hx hb hr (fun t ht hW => ⟨⟨v, (), rfl, trivial, by rw [ht]; exact hP9, va_K.moved hW.alike hK9, hD9⟩, hS.F ht⟩) hS.2.2 dX3_combine_33
  by_cases hs_2 : k = 2
  · refine q_toc (y := 2) hs_2 ?_
    refine lv_tableIn (off := 43) (tgt := 44) hx hb dX3_combine_1 (by decide) (by decide) (by decide) (by decide) ?_
    refine lv_iload_n hx hb dX3_combine_44 rfl (lv_at hl 1 rfl) ?_
    refine lv_iload_n hx hb dX3_combine_45 rfl (lv_at hl 2 rfl) ?_
    refine lv_ior hx hb dX3_combine_46 ?_
    have hP9 := hP.sub (ws' := []) [] rfl
    have hD9 := hD.sub (ws' := []) [] (by decide) rfl
    have hK9 := hK.sub (tys' := []) [] rfl
    exact W.iret (v := v ||| x) hx hb hr (fun t ht hW => ⟨⟨v ||| x, (), rfl, trivial, by rw [ht]; exact hP9, va_K.moved hW.alike hK9, hD9⟩, hS.F ht⟩) hS.2.2 dX3_combine_47
  by_cases hs_3 : k = 3
  · refine q_toc (y := 3) hs_3 ?_
    refine lv_tableIn (off := 33) (tgt := 34) hx hb dX3_combine_1 (by decide) (by decide) (by decide) (by decide) ?_
    refine lv_iload_n hx hb dX3_combine_34 rfl (lv_at hl 1 rfl) ?_
    refine lv_iload_n hx hb dX3_combine_35 rfl (lv_at hl 2 rfl) ?_
    refine lv_iand hx hb dX3_combine_36 ?_
    have hP9 := hP.sub (ws' := []) [] rfl
    have hD9 := hD.sub (ws' := []) [] (by decide) rfl
    have hK9 := hK.sub (tys' := []) [] rfl
    exact W.iret (v := v &&& x) hx hb hr (fun t ht hW => ⟨⟨v &&& x, (), rfl, trivial, by rw [ht]; exact hP9, va_K.moved hW.alike hK9, hD9⟩, hS.F ht⟩) hS.2.2 dX3_combine_37
  by_cases hs_4 : k = 4
  · refine q_toc (y := 4) hs_4 ?_
    refine lv_tableIn (off := 37) (tgt := 38) hx hb dX3_combine_1 (by decide) (by decide) (by decide) (by decide) ?_
    refine lv_iload_n hx hb dX3_combine_38 rfl (lv_at hl 2 rfl) ?_
    refine lv_iload_n hx hb dX3_combine_39 rfl (lv_at hl 1 rfl) ?_
    refine lv_iconst (v := (-1)) hx hb dX3_combine_40 (by decide) ?_
    refine lv_ixor hx hb dX3_combine_41 ?_
    refine lv_iand hx hb dX3_combine_42 ?_
    have hP9 := hP.sub (ws' := []) [] rfl
    have hD9 := hD.sub (ws' := []) [] (by decide) rfl
    have hK9 := hK.sub (tys' := []) [] rfl
    exact W.iret (v := x &&& (v ^^^ (-1))) hx hb hr (fun t ht hW => ⟨⟨x &&& (v ^^^ (-1)), (), rfl, trivial, by rw [ht]; exact hP9, va_K.moved hW.alike hK9, hD9⟩, hS.F ht⟩) hS.2.2 dX3_combine_43
  refine lv_tableOut (tgt := 44) hx hb dX3_combine_1 (by have n1 := lv_neT hs_1 (show (1 : Int32).toInt = 1 from rfl); have n2 := lv_neT hs_2 (show (2 : Int32).toInt = 2 from rfl); have n3 := lv_neT hs_3 (show (3 : Int32).toInt = 3 from rfl); have n4 := lv_neT hs_4 (show (4 : Int32).toInt = 4 from rfl); omega) (by decide) ?_
  refine lv_iload_n hx hb dX3_combine_44 rfl (lv_at hl 1 rfl) ?_
  refine lv_iload_n hx hb dX3_combine_45 rfl (lv_at hl 2 rfl) ?_
  refine lv_ior hx hb dX3_combine_46 ?_
  have hP9 := hP.sub (ws' := []) [] rfl
  have hD9 := hD.sub (ws' := []) [] (by decide) rfl
  have hK9 := hK.sub (tys' := []) [] rfl
  exact W.iret (v := v ||| x) hx hb hr (fun t ht hW => ⟨⟨v ||| x, (), rfl, trivial, by rw [ht]; exact hP9, va_K.moved hW.alike hK9, hD9⟩, hS.F ht⟩) hS.2.2 dX3_combine_47
set_option maxHeartbeats 4000000 in
set_option maxRecDepth 100000 in
theorem s_X3_isRegisterWay (l : Launch) (dC : Nat → ClassId) (dI : Nat → Nat → Nat) (sz : Nat) (k : Int32)  : Met l yX3_isRegisterWay wsX3_isRegisterWay ({ frames := 0, cells := 0, slots := 0, locals := 0 }) (va_Pc [.int k] (q_pre dC dI sz [] [])) (va_Qi (fun (r : Int32) (u9 : Unit) => r = 0 ∨ r = 1) (q_at dC dI (va_A [] sz) (fun (u9 : Unit) => []) (fun (u9 : Unit) => [])) (va_A [] sz)) 0 0 (va_A [] sz) := by
  refine Met.ofW (cc := cX3_isRegisterWay) (maxL := 1) (ret := (some .boolean)) (by decide) rfl ?_
  intro p e s m args below meth c s₁ B hml hv
  obtain ⟨rfl, hsz, hP, hK, hD0, hN⟩ := hv
  have hx := B.exec
  have hb := B.bytes
  have hr := B.returns
  have hts := atoms_spec (ws := wsX3_isRegisterWay) B.pre
  have hown : s.vm.findClass RX3 = some m.cls := findClass_of_methodNamed B.named
  have hlocks := B.notSynchronized
  subst hsz
  have hD := hD0.self (sz := s.heap.size)
  generalize hAe : va_A [] s.heap.size = A at hD ⊢
  have hA : ∀ q : Nat, s.heap.size ≤ q → A q := fun q h => by rw [← hAe]; exact Or.inr h
  have hS : va_S A s.heap s.heap [] := va_S.rf
  have hP : va_P (dC, dI) vwCl [] s.heap := hP
  have hl := lv_entry ([.int k]) (n := 1) (Nat.le_of_ble_eq_true rfl)
  rw [lg_entry_eq]
  generalize (lg_sl ([.int k]) ++ List.replicate (1 - (lg_sl ([.int k])).length) Slot.unset).toArray = ls at hl ⊢
  have hl : lv_has ls 1 [(0, .int k)] := hl
  refine lv_iload_n hx hb dX3_isRegisterWay_0 rfl (lv_at hl 0 rfl) ?_
  refine lv_bipush (v := 56) hx hb dX3_isRegisterWay_1 (by decide) ?_
  refine lv_iand hx hb dX3_isRegisterWay_3 ?_
  refine q_bool (ls := ls) 12 [] (fun b_2 hb_3 => ?_) (fun jn => ?_)
  · have hP9 := hP.sub (ws' := []) [] rfl
    have hD9 := hD.sub (ws' := []) [] (by decide) rfl
    have hK9 := hK.sub (tys' := []) [] rfl
    exact W.zret (v := b_2) (ty := .boolean) hx hb hr (q_nz hb_3) (fun t ht hW => ⟨⟨b_2, (), rfl, hb_3, by rw [ht]; exact hP9, va_K.moved hW.alike hK9, hD9⟩, hS.F ht⟩) hS.2.2 dX3_isRegisterWay_12
  refine lv_if_ne (tgt := 11) hx hb dX3_isRegisterWay_4 (by decide) (fun c_1 => ?_) (fun c_1 => ?_)
  · refine lv_iconst (v := 0) hx hb dX3_isRegisterWay_11 (by decide) ?_
    exact jn _ (Or.inl rfl)
  · refine lv_iconst (v := 1) hx hb dX3_isRegisterWay_7 (by decide) ?_
    refine lv_goto (tgt := 12) hx hb dX3_isRegisterWay_8 (by decide) ?_
    exact jn _ (Or.inr rfl)
set_option maxHeartbeats 4000000 in
set_option maxRecDepth 100000 in
theorem s_X3_fitsWord (l : Launch) (dC : Nat → ClassId) (dI : Nat → Nat → Nat) (sz : Nat) (lv : Int64)  : Met l yX3_fitsWord wsX3_fitsWord ({ frames := 0, cells := 0, slots := 0, locals := 0 }) (va_Pc [.long lv] (q_pre dC dI sz [] [])) (va_Qi (fun (r : Int32) (u9 : Unit) => r = 0 ∨ r = 1) (q_at dC dI (va_A [] sz) (fun (u9 : Unit) => []) (fun (u9 : Unit) => [])) (va_A [] sz)) 0 0 (va_A [] sz) := by
  refine Met.ofW (cc := cX3_fitsWord) (maxL := 2) (ret := (some .boolean)) (by decide) rfl ?_
  intro p e s m args below meth c s₁ B hml hv
  obtain ⟨rfl, hsz, hP, hK, hD0, hN⟩ := hv
  have hx := B.exec
  have hb := B.bytes
  have hr := B.returns
  have hts := atoms_spec (ws := wsX3_fitsWord) B.pre
  have hown : s.vm.findClass RX3 = some m.cls := findClass_of_methodNamed B.named
  have hlocks := B.notSynchronized
  subst hsz
  have hD := hD0.self (sz := s.heap.size)
  generalize hAe : va_A [] s.heap.size = A at hD ⊢
  have hA : ∀ q : Nat, s.heap.size ≤ q → A q := fun q h => by rw [← hAe]; exact Or.inr h
  have hS : va_S A s.heap s.heap [] := va_S.rf
  have hP : va_P (dC, dI) vwCl [] s.heap := hP
  have hl := lv_entry ([.long lv]) (n := 2) (Nat.le_of_ble_eq_true rfl)
  rw [lg_entry_eq]
  generalize (lg_sl ([.long lv]) ++ List.replicate (2 - (lg_sl ([.long lv])).length) Slot.unset).toArray = ls at hl ⊢
  have hl : lv_has ls 2 [(0, .long lv)] := hl
  refine lv_lload_n hx hb dX3_fitsWord_0 rfl (lv_at hl 0 rfl) ?_
  refine lv_ldc2 (v := (-32768)) hx hb hown (hts (.constantLong RX3 191 (-32768)) (by decide +kernel)) dX3_fitsWord_1 ?_
  refine W.lcmp hx hb dX3_fitsWord_4 ?_
  refine lv_if_lt (tgt := 20) hx hb dX3_fitsWord_5 (by decide) (fun c_1 => ?_) (fun c_1 => ?_)
  · refine lv_iconst (v := 0) hx hb dX3_fitsWord_20 (by decide) ?_
    have hP9 := hP.sub (ws' := []) [] rfl
    have hD9 := hD.sub (ws' := []) [] (by decide) rfl
    have hK9 := hK.sub (tys' := []) [] rfl
    exact W.zret (v := 0) (ty := .boolean) hx hb hr (by decide) (fun t ht hW => ⟨⟨0, (), rfl, (Or.inl rfl), by rw [ht]; exact hP9, va_K.moved hW.alike hK9, hD9⟩, hS.F ht⟩) hS.2.2 dX3_fitsWord_21
  · refine lv_lload_n hx hb dX3_fitsWord_8 rfl (lv_at hl 0 rfl) ?_
    refine lv_ldc2 (v := 32768) hx hb hown (hts (.constantLong RX3 193 (32768)) (by decide +kernel)) dX3_fitsWord_9 ?_
    refine W.lcmp hx hb dX3_fitsWord_12 ?_
    refine q_bool (ls := ls) 21 [] (fun b_3 hb_4 => ?_) (fun jn => ?_)
    · have hP9 := hP.sub (ws' := []) [] rfl
      have hD9 := hD.sub (ws' := []) [] (by decide) rfl
      have hK9 := hK.sub (tys' := []) [] rfl
      exact W.zret (v := b_3) (ty := .boolean) hx hb hr (q_nz hb_4) (fun t ht hW => ⟨⟨b_3, (), rfl, hb_4, by rw [ht]; exact hP9, va_K.moved hW.alike hK9, hD9⟩, hS.F ht⟩) hS.2.2 dX3_fitsWord_21
    refine lv_if_ge (tgt := 20) hx hb dX3_fitsWord_13 (by decide) (fun c_2 => ?_) (fun c_2 => ?_)
    · refine lv_iconst (v := 0) hx hb dX3_fitsWord_20 (by decide) ?_
      exact jn _ (Or.inl rfl)
    · refine lv_iconst (v := 1) hx hb dX3_fitsWord_16 (by decide) ?_
      refine lv_goto (tgt := 21) hx hb dX3_fitsWord_17 (by decide) ?_
      exact jn _ (Or.inr rfl)
