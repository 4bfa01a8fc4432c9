set_option maxHeartbeats 4000000 in
set_option maxRecDepth 100000 in
theorem s_X3_withoutOverflow (l : Launch) (dC : Nat → ClassId) (dI : Nat → Nat → Nat) (sz : Nat) (aP : Nat) (v : Int32) (bc : Int32) (aR : Nat) (aF : Nat) (fn : Int32) (fz : Int32) (fv : Int32) (fc : Int32) (hb9 : b01 bc) : Met l yX3_withoutOverflow wsX3_withoutOverflow ({ frames := 0, cells := 0, slots := 0, locals := 0 }) (va_Pc [.ref aP, .int v, .int bc] (q_pre dC dI sz [(aP, .inr (3, [.ref aR, .ref aF])), (aF, .inr (0, [.int fn, .int fz, .int fv, .int fc]))] [])) (va_Qi (fun (r : Int32) (u9 : Int32 × Int32 × Int32 × Int32) => True) (q_at dC dI (va_A [(aP, .inr (3, [.ref aR, .ref aF])), (aF, .inr (0, [.int fn, .int fz, .int fv, .int fc]))] sz) (fun (u9 : Int32 × Int32 × Int32 × Int32) => []) (fun (u9 : Int32 × Int32 × Int32 × Int32) => [(aP, .inr (3, [.ref aR, .ref aF])), (aF, .inr (0, [.int u9.1, .int u9.2.1, .int u9.2.2.1, .int u9.2.2.2]))])) (va_A [(aP, .inr (3, [.ref aR, .ref aF])), (aF, .inr (0, [.int fn, .int fz, .int fv, .int fc]))] sz)) 0 0 (va_A [(aP, .inr (3, [.ref aR, .ref aF])), (aF, .inr (0, [.int fn, .int fz, .int fv, .int fc]))] sz) := by
  refine Met.ofW (cc := cX3_withoutOverflow) (maxL := 3) (ret := (some .int)) (by decide) rfl ?_
  intro p e s m args below meth c s₁ B hml hv
  obtain ⟨rfl, hsz, hP, hK, hD0, hN⟩ := hv
  have hx := B.exec
  have hb := B.bytes
  have hr := B.returns
  have hts := atoms_spec (ws := wsX3_withoutOverflow) B.pre
  have hown : s.vm.findClass RX3 = some m.cls := findClass_of_methodNamed B.named
  have hlocks := B.notSynchronized
  subst hsz
  have hD := hD0.self (sz := s.heap.size)
  generalize hAe : va_A [(aP, .inr (3, [.ref aR, .ref aF])), (aF, .inr (0, [.int fn, .int fz, .int fv, .int fc]))] s.heap.size = A at hD ⊢
  have hA : ∀ q : Nat, s.heap.size ≤ q → A q := fun q h => by rw [← hAe]; exact Or.inr h
  have hS : va_S A s.heap s.heap [] := va_S.rf
  have hP : va_P (dC, dI) vwCl [(aP, .inr (3, [.ref aR, .ref aF])), (aF, .inr (0, [.int fn, .int fz, .int fv, .int fc]))] s.heap := hP
  have hl := lv_entry ([.ref aP, .int v, .int bc]) (n := 3) (Nat.le_of_ble_eq_true rfl)
  rw [lg_entry_eq]
  generalize (lg_sl ([.ref aP, .int v, .int bc]) ++ List.replicate (3 - (lg_sl ([.ref aP, .int v, .int bc])).length) Slot.unset).toArray = ls at hl ⊢
  have hl : lv_has ls 3 [(0, .ref aP), (1, .int v), (2, .int bc)] := hl
  refine lv_aload_n hx hb dX3_withoutOverflow_0 rfl (lv_at hl 0 rfl) ?_
  refine va_get (D := (dC, dI)) (ci := 3) (v := .ref aF) (C := RX3) (T := TX3) (N := 2) hx hb hts (by decide +kernel) hown hK hP 0 rfl rfl 1 (by decide) (hts (.fieldLink RX3 12 "WordGuest$Processor" "conditions" "LWordGuest$Flags;") (by decide +kernel)) (fun _ h9 => h9) rfl dX3_withoutOverflow_1 ?_
  refine lv_iconst (v := 0) hx hb dX3_withoutOverflow_4 (by decide) ?_
  refine va_putN (D := (dC, dI)) (ci := 0) (v := .int 0) (ty := .boolean) (C := RX0) (T := TX0) (N := 4) hx hb hts (by decide +kernel) tyX0 tyX0_ok nmX0 hown hK hP hD hS 1 rfl rfl 2 (by decide) ((va_Nw.use rfl (hN _ (List.mem_of_getElem? (i := 6) rfl)))) (fun _ h9 => h9) rfl (by decide +kernel) (by decide) (by decide) (Nat.le_of_ble_eq_true rfl) dX3_withoutOverflow_5 (fun H locs hP hD hS => ?_)
  have hP : va_P (dC, dI) vwCl [(aP, .inr (3, [.ref aR, .ref aF])), (aF, .inr (0, [.int fn, .int fz, .int 0, .int fc]))] H := hP
  have hD : va_D A [(aP, .inr (3, [.ref aR, .ref aF])), (aF, .inr (0, [.int fn, .int fz, .int 0, .int fc]))] := hD
  refine lv_aload_n hx hb dX3_withoutOverflow_8 rfl (lv_at hl 0 rfl) ?_
  refine va_get (D := (dC, dI)) (ci := 3) (v := .ref aF) (C := RX3) (T := TX3) (N := 2) hx hb hts (by decide +kernel) hown hK hP 0 rfl rfl 1 (by decide) (hts (.fieldLink RX3 12 "WordGuest$Processor" "conditions" "LWordGuest$Flags;") (by decide +kernel)) (fun _ h9 => h9) rfl dX3_withoutOverflow_9 ?_
  refine lv_iload_n hx hb dX3_withoutOverflow_12 rfl (lv_at hl 2 rfl) ?_
  refine va_putN (D := (dC, dI)) (ci := 0) (v := .int bc) (ty := .boolean) (C := RX0) (T := TX0) (N := 4) hx hb hts (by decide +kernel) tyX0 tyX0_ok nmX0 hown hK hP hD hS 1 rfl rfl 3 (by decide) ((va_Nw.use rfl (hN _ (List.mem_of_getElem? (i := 7) rfl)))) (fun _ h9 => h9) rfl (by decide +kernel) (q_nz hb9) (q_fz hb9) (Nat.le_of_ble_eq_true rfl) dX3_withoutOverflow_13 (fun H locs hP hD hS => ?_)
  have hP : va_P (dC, dI) vwCl [(aP, .inr (3, [.ref aR, .ref aF])), (aF, .inr (0, [.int fn, .int fz, .int 0, .int bc]))] H := hP
  have hD : va_D A [(aP, .inr (3, [.ref aR, .ref aF])), (aF, .inr (0, [.int fn, .int fz, .int 0, .int bc]))] := hD
  refine lv_iload_n hx hb dX3_withoutOverflow_16 rfl (lv_at hl 1 rfl) ?_
  have hP9 := hP.sub (ws' := [(aP, .inr (3, [.ref aR, .ref aF])), (aF, .inr (0, [.int fn, .int fz, .int 0, .int bc]))]) [0, 1] rfl
  have hD9 := hD.sub (ws' := [(aP, .inr (3, [.ref aR, .ref aF])), (aF, .inr (0, [.int fn, .int fz, .int 0, .int bc]))]) [0, 1] (by decide) rfl
  have hK9 := hK.sub (tys' := []) [] rfl
  exact W.iret (v := v) hx hb hr (fun t ht hW => ⟨⟨v, (fn, fz, 0, bc), rfl, trivial, by rw [ht]; exact hP9, va_K.moved hW.alike hK9, hD9⟩, hS.F ht⟩) hS.2.2 dX3_withoutOverflow_17
set_option maxHeartbeats 4000000 in
set_option maxRecDepth 100000 in
theorem s_X3_oneMore (l : Launch) (dC : Nat → ClassId) (dI : Nat → Nat → Nat) (sz : Nat) (aP : Nat) (v : Int32) (k : Int32) (aR : Nat) (aF : Nat) (fn : Int32) (fz : Int32) (fv : Int32) (fc : Int32)  : Met l yX3_oneMore wsX3_oneMore ({ frames := 1, cells := 0, slots := 0, locals := 20 }) (va_Pc [.ref aP, .int v, .int k] (q_pre dC dI sz [(aP, .inr (3, [.ref aR, .ref aF])), (aF, .inr (0, [.int fn, .int fz, .int fv, .int fc]))] [])) (va_Qi (fun (r : Int32) (u9 : Int32 × Int32 × Int32 × Int32) => True) (q_at dC dI (va_A [(aP, .inr (3, [.ref aR, .ref aF])), (aF, .inr (0, [.int fn, .int fz, .int fv, .int fc]))] sz) (fun (u9 : Int32 × Int32 × Int32 × Int32) => []) (fun (u9 : Int32 × Int32 × Int32 × Int32) => [(aP, .inr (3, [.ref aR, .ref aF])), (aF, .inr (0, [.int u9.1, .int u9.2.1, .int u9.2.2.1, .int u9.2.2.2]))])) (va_A [(aP, .inr (3, [.ref aR, .ref aF])), (aF, .inr (0, [.int fn, .int fz, .int fv, .int fc]))] sz)) 0 0 (va_A [(aP, .inr (3, [.ref aR, .ref aF])), (aF, .inr (0, [.int fn, .int fz, .int fv, .int fc]))] sz) := by
  refine Met.ofW (cc := cX3_oneMore) (maxL := 4) (ret := (some .int)) (by decide) rfl ?_
  intro p e s m args below meth c s₁ B hml hv
  obtain ⟨rfl, hsz, hP, hK, hD0, hN⟩ := hv
  have hx := B.exec
  have hb := B.bytes
  have hr := B.returns
  have hts := atoms_spec (ws := wsX3_oneMore) B.pre
  have hown : s.vm.findClass RX3 = some m.cls := findClass_of_methodNamed B.named
  have hlocks := B.notSynchronized
  subst hsz
  have hD := hD0.self (sz := s.heap.size)
  generalize hAe : va_A [(aP, .inr (3, [.ref aR, .ref aF])), (aF, .inr (0, [.int fn, .int fz, .int fv, .int fc]))] s.heap.size = A at hD ⊢
  have hA : ∀ q : Nat, s.heap.size ≤ q → A q := fun q h => by rw [← hAe]; exact Or.inr h
  have hS : va_S A s.heap s.heap [] := va_S.rf
  have hP : va_P (dC, dI) vwCl [(aP, .inr (3, [.ref aR, .ref aF])), (aF, .inr (0, [.int fn, .int fz, .int fv, .int fc]))] s.heap := hP
  have hl := lv_entry ([.ref aP, .int v, .int k]) (n := 4) (Nat.le_of_ble_eq_true rfl)
  rw [lg_entry_eq]
  generalize (lg_sl ([.ref aP, .int v, .int k]) ++ List.replicate (4 - (lg_sl ([.ref aP, .int v, .int k])).length) Slot.unset).toArray = ls at hl ⊢
  have hl : lv_has ls 4 [(0, .ref aP), (1, .int v), (2, .int k)] := hl
  refine lv_iload_n hx hb dX3_oneMore_0 rfl (lv_at hl 1 rfl) ?_
  refine lv_iconst (v := 1) hx hb dX3_oneMore_1 (by decide) ?_
  refine lv_iadd hx hb dX3_oneMore_2 ?_
  refine lv_iload_n hx hb dX3_oneMore_3 rfl (lv_at hl 2 rfl) ?_
  refine lv_iand hx hb dX3_oneMore_4 ?_
  refine lv_istore_n (lv' := [(3, .int ((v + 1) &&& k)), (0, .ref aP), (1, .int v), (2, .int k)]) hx hb dX3_oneMore_5 rfl hl (by decide) rfl (fun ls hl => ?_)
  refine lv_aload_n hx hb dX3_oneMore_6 rfl (lv_at hl 1 rfl) ?_
  refine va_get (D := (dC, dI)) (ci := 3) (v := .ref aF) (C := RX3) (T := TX3) (N := 2) hx hb hts (by decide +kernel) hown hK hP 0 rfl rfl 1 (by decide) (hts (.fieldLink RX3 12 "WordGuest$Processor" "conditions" "LWordGuest$Flags;") (by decide +kernel)) (fun _ h9 => h9) rfl dX3_oneMore_7 ?_
  refine lv_iload_n hx hb dX3_oneMore_10 rfl (lv_at hl 0 rfl) ?_
  refine lv_iload_n hx hb dX3_oneMore_11 rfl (lv_at hl 3 rfl) ?_
  have hPc := hP.sub (ws' := []) [] rfl
  have hDc := hD.sub (ws' := []) [] (by decide) rfl
  have hKc := hK.sub (tys' := []) [] rfl
  have hFc := va_free (wc := []) hD hS hA [] rfl
  refine va_calli (va_runSN (As := [.int k]) (rest := [.int ((v + 1) &&& k), .ref aF]) ⟨hx, hb, hml, hown, hts⟩ (s_X4_signOf l dC dI s.heap.size k) ⟨va_cnB 1 hts gX3_oneMore_X4_signOf_n105 rfl rfl rfl (hN _ (List.mem_of_getElem? (i := 13) rfl)) (hts (.initialized RX4) (by decide +kernel)) (by decide +kernel) ⟨Nat.le_of_ble_eq_true rfl, Nat.le_of_ble_eq_true rfl⟩, hts (.static yX4_signOf) (by decide +kernel), trivial⟩ ⟨q_blind, fun U hU hW => ⟨rfl, q_pay hU hW hPc hKc hDc hN⟩⟩ rfl rfl hl.1 rfl (lv_room (Nat.le_of_ble_eq_true rfl)) dX3_oneMore_12 ⟨show 0 + 0 ≤ 0 from by omega, show 0 + 0 ≤ 0 from by omega⟩) hS (fun q _ h => hFc q h) hFc (fun r_1 u9 t H locs ht hvm hw_2 hB hz1 hk1 hS => ?_)
  obtain ⟨hP1, hK1, hD1⟩ := hB
  rw [ht] at hP1
  obtain ⟨hP, hD⟩ := va_join (wr := [(aP, .inr (3, [.ref aR, .ref aF])), (aF, .inr (0, [.int fn, .int fz, .int fv, .int fc]))]) (w1 := []) hP hD [] [0, 1] rfl rfl (by decide) (by decide) hk1 hFc hP1 hD1
  have hP : va_P (dC, dI) vwCl [(aP, .inr (3, [.ref aR, .ref aF])), (aF, .inr (0, [.int fn, .int fz, .int fv, .int fc]))] H := hP
  have hD : va_D A [(aP, .inr (3, [.ref aR, .ref aF])), (aF, .inr (0, [.int fn, .int fz, .int fv, .int fc]))] := hD
  refine W.widen (k := 0) (n := 0) (by omega) (by omega) ?_
  try dsimp only at hw_2
  refine q_bool (ls := ls) 23 [.ref aF] (fun b_4 hb_5 => ?_) (fun jn => ?_)
  · refine va_putN (D := (dC, dI)) (ci := 0) (v := .int b_4) (ty := .boolean) (C := RX0) (T := TX0) (N := 4) hx hb hts (by decide +kernel) tyX0 tyX0_ok nmX0 hown hK hP hD hS 1 rfl rfl 2 (by decide) ((va_Nw.use rfl (hN _ (List.mem_of_getElem? (i := 6) rfl)))) (fun _ h9 => h9) rfl (by decide +kernel) (q_nz hb_5) (q_fz hb_5) (Nat.le_of_ble_eq_true rfl) dX3_oneMore_23 (fun H locs hP hD hS => ?_)
    have hP : va_P (dC, dI) vwCl [(aP, .inr (3, [.ref aR, .ref aF])), (aF, .inr (0, [.int fn, .int fz, .int b_4, .int fc]))] H := hP
    have hD : va_D A [(aP, .inr (3, [.ref aR, .ref aF])), (aF, .inr (0, [.int fn, .int fz, .int b_4, .int fc]))] := hD
    refine lv_iload_n hx hb dX3_oneMore_26 rfl (lv_at hl 0 rfl) ?_
    have hP9 := hP.sub (ws' := [(aP, .inr (3, [.ref aR, .ref aF])), (aF, .inr (0, [.int fn, .int fz, .int b_4, .int fc]))]) [0, 1] rfl
    have hD9 := hD.sub (ws' := [(aP, .inr (3, [.ref aR, .ref aF])), (aF, .inr (0, [.int fn, .int fz, .int b_4, .int fc]))]) [0, 1] (by decide) rfl
    have hK9 := hK.sub (tys' := []) [] rfl
    exact W.iret (v := (v + 1) &&& k) hx hb hr (fun t ht hW => ⟨⟨(v + 1) &&& k, (fn, fz, b_4, fc), rfl, trivial, by rw [ht]; exact hP9, va_K.moved hW.alike hK9, hD9⟩, hS.F ht⟩) hS.2.2 dX3_oneMore_27
  refine lv_icmp_ne (tgt := 22) hx hb dX3_oneMore_15 (by decide) (fun c_3 => ?_) (fun c_3 => ?_)
  · refine lv_iconst (v := 0) hx hb dX3_oneMore_22 (by decide) ?_
    exact jn _ (Or.inl rfl)
  · refine lv_iconst (v := 1) hx hb dX3_oneMore_18 (by decide) ?_
    refine lv_goto (tgt := 23) hx hb dX3_oneMore_19 (by decide) ?_
    exact jn _ (Or.inr rfl)
set_option maxHeartbeats 4000000 in
set_option maxRecDepth 100000 in
theorem s_X3_oneLess (l : Launch) (dC : Nat → ClassId) (dI : Nat → Nat → Nat) (sz : Nat) (aP : Nat) (v : Int32) (k : Int32) (aR : Nat) (aF : Nat) (fn : Int32) (fz : Int32) (fv : Int32) (fc : Int32)  : Met l yX3_oneLess wsX3_oneLess ({ frames := 1, cells := 0, slots := 0, locals := 20 }) (va_Pc [.ref aP, .int v, .int k] (q_pre dC dI sz [(aP, .inr (3, [.ref aR, .ref aF])), (aF, .inr (0, [.int fn, .int fz, .int fv, .int fc]))] [])) (va_Qi (fun (r : Int32) (u9 : Int32 × Int32 × Int32 × Int32) => True) (q_at dC dI (va_A [(aP, .inr (3, [.ref aR, .ref aF])), (aF, .inr (0, [.int fn, .int fz, .int fv, .int fc]))] sz) (fun (u9 : Int32 × Int32 × Int32 × Int32) => []) (fun (u9 : Int32 × Int32 × Int32 × Int32) => [(aP, .inr (3, [.ref aR, .ref aF])), (aF, .inr (0, [.int u9.1, .int u9.2.1, .int u9.2.2.1, .int u9.2.2.2]))])) (va_A [(aP, .inr (3, [.ref aR, .ref aF])), (aF, .inr (0, [.int fn, .int fz, .int fv, .int fc]))] sz)) 0 0 (va_A [(aP, .inr (3, [.ref aR, .ref aF])), (aF, .inr (0, [.int fn, .int fz, .int fv, .int fc]))] sz) := by
  refine Met.ofW (cc := cX3_oneLess) (maxL := 4) (ret := (some .int)) (by decide) rfl ?_
  intro p e s m args below meth c s₁ B hml hv
  obtain ⟨rfl, hsz, hP, hK, hD0, hN⟩ := hv
  have hx := B.exec
  have hb := B.bytes
  have hr := B.returns
  have hts := atoms_spec (ws := wsX3_oneLess) B.pre
  have hown : s.vm.findClass RX3 = some m.cls := findClass_of_methodNamed B.named
  have hlocks := B.notSynchronized
  subst hsz
  have hD := hD0.self (sz := s.heap.size)
  generalize hAe : va_A [(aP, .inr (3, [.ref aR, .ref aF])), (aF, .inr (0, [.int fn, .int fz, .int fv, .int fc]))] s.heap.size = A at hD ⊢
  have hA : ∀ q : Nat, s.heap.size ≤ q → A q := fun q h => by rw [← hAe]; exact Or.inr h
  have hS : va_S A s.heap s.heap [] := va_S.rf
  have hP : va_P (dC, dI) vwCl [(aP, .inr (3, [.ref aR, .ref aF])), (aF, .inr (0, [.int fn, .int fz, .int fv, .int fc]))] s.heap := hP
  have hl := lv_entry ([.ref aP, .int v, .int k]) (n := 4) (Nat.le_of_ble_eq_true rfl)
  rw [lg_entry_eq]
  generalize (lg_sl ([.ref aP, .int v, .int k]) ++ List.replicate (4 - (lg_sl ([.ref aP, .int v, .int k])).length) Slot.unset).toArray = ls at hl ⊢
  have hl : lv_has ls 4 [(0, .ref aP), (1, .int v), (2, .int k)] := hl
  refine lv_iload_n hx hb dX3_oneLess_0 rfl (lv_at hl 1 rfl) ?_
  refine lv_iconst (v := 1) hx hb dX3_oneLess_1 (by decide) ?_
  refine lv_isub hx hb dX3_oneLess_2 ?_
  refine lv_iload_n hx hb dX3_oneLess_3 rfl (lv_at hl 2 rfl) ?_
  refine lv_iand hx hb dX3_oneLess_4 ?_
  refine lv_istore_n (lv' := [(3, .int ((v - 1) &&& k)), (0, .ref aP), (1, .int v), (2, .int k)]) hx hb dX3_oneLess_5 rfl hl (by decide) rfl (fun ls hl => ?_)
  refine lv_aload_n hx hb dX3_oneLess_6 rfl (lv_at hl 1 rfl) ?_
  refine va_get (D := (dC, dI)) (ci := 3) (v := .ref aF) (C := RX3) (T := TX3) (N := 2) hx hb hts (by decide +kernel) hown hK hP 0 rfl rfl 1 (by decide) (hts (.fieldLink RX3 12 "WordGuest$Processor" "conditions" "LWordGuest$Flags;") (by decide +kernel)) (fun _ h9 => h9) rfl dX3_oneLess_7 ?_
  refine lv_iload_n hx hb dX3_oneLess_10 rfl (lv_at hl 0 rfl) ?_
  refine lv_iload_n hx hb dX3_oneLess_11 rfl (lv_at hl 3 rfl) ?_
  have hPc := hP.sub (ws' := []) [] rfl
  have hDc := hD.sub (ws' := []) [] (by decide) rfl
  have hKc := hK.sub (tys' := []) [] rfl
  have hFc := va_free (wc := []) hD hS hA [] rfl
  refine va_calli (va_runSN (As := [.int k]) (rest := [.int ((v - 1) &&& k), .ref aF]) ⟨hx, hb, hml, hown, hts⟩ (s_X4_signOf l dC dI s.heap.size k) ⟨va_cnB 1 hts gX3_oneLess_X4_signOf_n105 rfl rfl rfl (hN _ (List.mem_of_getElem? (i := 13) rfl)) (hts (.initialized RX4) (by decide +kernel)) (by decide +kernel) ⟨Nat.le_of_ble_eq_true rfl, Nat.le_of_ble_eq_true rfl⟩, hts (.static yX4_signOf) (by decide +kernel), trivial⟩ ⟨q_blind, fun U hU hW => ⟨rfl, q_pay hU hW hPc hKc hDc hN⟩⟩ rfl rfl hl.1 rfl (lv_room (Nat.le_of_ble_eq_true rfl)) dX3_oneLess_12 ⟨show 0 + 0 ≤ 0 from by omega, show 0 + 0 ≤ 0 from by omega⟩) hS (fun q _ h => hFc q h) hFc (fun r_1 u9 t H locs ht hvm hw_2 hB hz1 hk1 hS => ?_)
  obtain ⟨hP1, hK1, hD1⟩ := hB
  rw [ht] at hP1
  obtain ⟨hP, hD⟩ := va_join (wr := [(aP, .inr (3, [.ref aR, .ref aF])), (aF, .inr (0, [.int fn, .int fz, .int fv, .int fc]))]) (w1 := []) hP hD [] [0, 1] rfl rfl (by decide) (by decide) hk1 hFc hP1 hD1
  have hP : va_P (dC, dI) vwCl [(aP, .inr (3, [.ref aR, .ref aF])), (aF, .inr (0, [.int fn, .int fz, .int fv, .int fc]))] H := hP
  have hD : va_D A [(aP, .inr (3, [.ref aR, .ref aF])), (aF, .inr (0, [.int fn, .int fz, .int fv, .int fc]))] := hD
  refine W.widen (k := 0) (n := 0) (by omega) (by omega) ?_
  try dsimp only at hw_2
  refine lv_iconst (v := 1) hx hb dX3_oneLess_15 (by decide) ?_
  refine lv_isub hx hb dX3_oneLess_16 ?_
  refine q_bool (ls := ls) 25 [.ref aF] (fun b_4 hb_5 => ?_) (fun jn => ?_)
  · refine va_putN (D := (dC, dI)) (ci := 0) (v := .int b_4) (ty := .boolean) (C := RX0) (T := TX0) (N := 4) hx hb hts (by decide +kernel) tyX0 tyX0_ok nmX0 hown hK hP hD hS 1 rfl rfl 2 (by decide) ((va_Nw.use rfl (hN _ (List.mem_of_getElem? (i := 6) rfl)))) (fun _ h9 => h9) rfl (by decide +kernel) (q_nz hb_5) (q_fz hb_5) (Nat.le_of_ble_eq_true rfl) dX3_oneLess_25 (fun H locs hP hD hS => ?_)
    have hP : va_P (dC, dI) vwCl [(aP, .inr (3, [.ref aR, .ref aF])), (aF, .inr (0, [.int fn, .int fz, .int b_4, .int fc]))] H := hP
    have hD : va_D A [(aP, .inr (3, [.ref aR, .ref aF])), (aF, .inr (0, [.int fn, .int fz, .int b_4, .int fc]))] := hD
    refine lv_iload_n hx hb dX3_oneLess_28 rfl (lv_at hl 0 rfl) ?_
    have hP9 := hP.sub (ws' := [(aP, .inr (3, [.ref aR, .ref aF])), (aF, .inr (0, [.int fn, .int fz, .int b_4, .int fc]))]) [0, 1] rfl
    have hD9 := hD.sub (ws' := [(aP, .inr (3, [.ref aR, .ref aF])), (aF, .inr (0, [.int fn, .int fz, .int b_4, .int fc]))]) [0, 1] (by decide) rfl
    have hK9 := hK.sub (tys' := []) [] rfl
    exact W.iret (v := (v - 1) &&& k) hx hb hr (fun t ht hW => ⟨⟨(v - 1) &&& k, (fn, fz, b_4, fc), rfl, trivial, by rw [ht]; exact hP9, va_K.moved hW.alike hK9, hD9⟩, hS.F ht⟩) hS.2.2 dX3_oneLess_29
  refine lv_icmp_ne (tgt := 24) hx hb dX3_oneLess_17 (by decide) (fun c_3 => ?_) (fun c_3 => ?_)
  · refine lv_iconst (v := 0) hx hb dX3_oneLess_24 (by decide) ?_
    exact jn _ (Or.inl rfl)
  · refine lv_iconst (v := 1) hx hb dX3_oneLess_20 (by decide) ?_
    refine lv_goto (tgt := 25) hx hb dX3_oneLess_21 (by decide) ?_
    exact jn _ (Or.inr rfl)
set_option maxHeartbeats 4000000 in
set_option maxRecDepth 100000 in
theorem s_X3_minus (l : Launch) (dC : Nat → ClassId) (dI : Nat → Nat → Nat) (sz : Nat) (aP : Nat) (v : Int32) (k : Int32) (aR : Nat) (aF : Nat) (fn : Int32) (fz : Int32) (fv : Int32) (fc : Int32)  : Met l yX3_minus wsX3_minus ({ frames := 1, cells := 0, slots := 0, locals := 20 }) (va_Pc [.ref aP, .int v, .int k] (q_pre dC dI sz [(aP, .inr (3, [.ref aR, .ref aF])), (aF, .inr (0, [.int fn, .int fz, .int fv, .int fc]))] [])) (va_Qi (fun (r : Int32) (u9 : Int32 × Int32 × Int32 × Int32) => True) (q_at dC dI (va_A [(aP, .inr (3, [.ref aR, .ref aF])), (aF, .inr (0, [.int fn, .int fz, .int fv, .int fc]))] sz) (fun (u9 : Int32 × Int32 × Int32 × Int32) => []) (fun (u9 : Int32 × Int32 × Int32 × Int32) => [(aP, .inr (3, [.ref aR, .ref aF])), (aF, .inr (0, [.int u9.1, .int u9.2.1, .int u9.2.2.1, .int u9.2.2.2]))])) (va_A [(aP, .inr (3, [.ref aR, .ref aF])), (aF, .inr (0, [.int fn, .int fz, .int fv, .int fc]))] sz)) 0 0 (va_A [(aP, .inr (3, [.ref aR, .ref aF])), (aF, .inr (0, [.int fn, .int fz, .int fv, .int fc]))] sz) := by
  refine Met.ofW (cc := cX3_minus) (maxL := 4) (ret := (some .int)) (by decide) rfl ?_
  intro p e s m args below meth c s₁ B hml hv
  obtain ⟨rfl, hsz, hP, hK, hD0, hN⟩ := hv
  have hx := B.exec
  have hb := B.bytes
  have hr := B.returns
  have hts := atoms_spec (ws := wsX3_minus) B.pre
  have hown : s.vm.findClass RX3 = some m.cls := findClass_of_methodNamed B.named
  have hlocks := B.notSynchronized
  subst hsz
  have hD := hD0.self (sz := s.heap.size)
  generalize hAe : va_A [(aP, .inr (3, [.ref aR, .ref aF])), (aF, .inr (0, [.int fn, .int fz, .int fv, .int fc]))] s.heap.size = A at hD ⊢
  have hA : ∀ q : Nat, s.heap.size ≤ q → A q := fun q h => by rw [← hAe]; exact Or.inr h
  have hS : va_S A s.heap s.heap [] := va_S.rf
  have hP : va_P (dC, dI) vwCl [(aP, .inr (3, [.ref aR, .ref aF])), (aF, .inr (0, [.int fn, .int fz, .int fv, .int fc]))] s.heap := hP
  have hl := lv_entry ([.ref aP, .int v, .int k]) (n := 4) (Nat.le_of_ble_eq_true rfl)
  rw [lg_entry_eq]
  generalize (lg_sl ([.ref aP, .int v, .int k]) ++ List.replicate (4 - (lg_sl ([.ref aP, .int v, .int k])).length) Slot.unset).toArray = ls at hl ⊢
  have hl : lv_has ls 4 [(0, .ref aP), (1, .int v), (2, .int k)] := hl
  refine lv_iload_n hx hb dX3_minus_0 rfl (lv_at hl 1 rfl) ?_
  refine lv_ineg hx hb dX3_minus_1 ?_
  refine lv_iload_n hx hb dX3_minus_2 rfl (lv_at hl 2 rfl) ?_
  refine lv_iand hx hb dX3_minus_3 ?_
  refine lv_istore_n (lv' := [(3, .int ((-v) &&& k)), (0, .ref aP), (1, .int v), (2, .int k)]) hx hb dX3_minus_4 rfl hl (by decide) rfl (fun ls hl => ?_)
  refine lv_aload_n hx hb dX3_minus_5 rfl (lv_at hl 1 rfl) ?_
  refine va_get (D := (dC, dI)) (ci := 3) (v := .ref aF) (C := RX3) (T := TX3) (N := 2) hx hb hts (by decide +kernel) hown hK hP 0 rfl rfl 1 (by decide) (hts (.fieldLink RX3 12 "WordGuest$Processor" "conditions" "LWordGuest$Flags;") (by decide +kernel)) (fun _ h9 => h9) rfl dX3_minus_6 ?_
  refine lv_iload_n hx hb dX3_minus_9 rfl (lv_at hl 0 rfl) ?_
  refine lv_iload_n hx hb dX3_minus_10 rfl (lv_at hl 3 rfl) ?_
  have hPc := hP.sub (ws' := []) [] rfl
  have hDc := hD.sub (ws' := []) [] (by decide) rfl
  have hKc := hK.sub (tys' := []) [] rfl
  have hFc := va_free (wc := []) hD hS hA [] rfl
  refine va_calli (va_runSN (As := [.int k]) (rest := [.int ((-v) &&& k), .ref aF]) ⟨hx, hb, hml, hown, hts⟩ (s_X4_signOf l dC dI s.heap.size k) ⟨va_cnB 1 hts gX3_minus_X4_signOf_n105 rfl rfl rfl (hN _ (List.mem_of_getElem? (i := 13) rfl)) (hts (.initialized RX4) (by decide +kernel)) (by decide +kernel) ⟨Nat.le_of_ble_eq_true rfl, Nat.le_of_ble_eq_true rfl⟩, hts (.static yX4_signOf) (by decide +kernel), trivial⟩ ⟨q_blind, fun U hU hW => ⟨rfl, q_pay hU hW hPc hKc hDc hN⟩⟩ rfl rfl hl.1 rfl (lv_room (Nat.le_of_ble_eq_true rfl)) dX3_minus_11 ⟨show 0 + 0 ≤ 0 from by omega, show 0 + 0 ≤ 0 from by omega⟩) hS (fun q _ h => hFc q h) hFc (fun r_1 u9 t H locs ht hvm hw_2 hB hz1 hk1 hS => ?_)
  obtain ⟨hP1, hK1, hD1⟩ := hB
  rw [ht] at hP1
  obtain ⟨hP, hD⟩ := va_join (wr := [(aP, .inr (3, [.ref aR, .ref aF])), (aF, .inr (0, [.int fn, .int fz, .int fv, .int fc]))]) (w1 := []) hP hD [] [0, 1] rfl rfl (by decide) (by decide) hk1 hFc hP1 hD1
  have hP : va_P (dC, dI) vwCl [(aP, .inr (3, [.ref aR, .ref aF])), (aF, .inr (0, [.int fn, .int fz, .int fv, .int fc]))] H := hP
  have hD : va_D A [(aP, .inr (3, [.ref aR, .ref aF])), (aF, .inr (0, [.int fn, .int fz, .int fv, .int fc]))] := hD
  refine W.widen (k := 0) (n := 0) (by omega) (by omega) ?_
  try dsimp only at hw_2
  refine q_bool (ls := ls) 22 [.ref aF] (fun b_4 hb_5 => ?_) (fun jn => ?_)
  · refine va_putN (D := (dC, dI)) (ci := 0) (v := .int b_4) (ty := .boolean) (C := RX0) (T := TX0) (N := 4) hx hb hts (by decide +kernel) tyX0 tyX0_ok nmX0 hown hK hP hD hS 1 rfl rfl 2 (by decide) ((va_Nw.use rfl (hN _ (List.mem_of_getElem? (i := 6) rfl)))) (fun _ h9 => h9) rfl (by decide +kernel) (q_nz hb_5) (q_fz hb_5) (Nat.le_of_ble_eq_true rfl) dX3_minus_22 (fun H locs hP hD hS => ?_)
    have hP : va_P (dC, dI) vwCl [(aP, .inr (3, [.ref aR, .ref aF])), (aF, .inr (0, [.int fn, .int fz, .int b_4, .int fc]))] H := hP
    have hD : va_D A [(aP, .inr (3, [.ref aR, .ref aF])), (aF, .inr (0, [.int fn, .int fz, .int b_4, .int fc]))] := hD
    refine lv_aload_n hx hb dX3_minus_25 rfl (lv_at hl 1 rfl) ?_
    refine va_get (D := (dC, dI)) (ci := 3) (v := .ref aF) (C := RX3) (T := TX3) (N := 2) hx hb hts (by decide +kernel) hown hK hP 0 rfl rfl 1 (by decide) (hts (.fieldLink RX3 12 "WordGuest$Processor" "conditions" "LWordGuest$Flags;") (by decide +kernel)) (fun _ h9 => h9) rfl dX3_minus_26 ?_
    refine lv_iload_n hx hb dX3_minus_29 rfl (lv_at hl 0 rfl) ?_
    refine q_bool (ls := ls) 38 [.ref aF] (fun b_7 hb_8 => ?_) (fun jn => ?_)
    · refine va_putN (D := (dC, dI)) (ci := 0) (v := .int b_7) (ty := .boolean) (C := RX0) (T := TX0) (N := 4) hx hb hts (by decide +kernel) tyX0 tyX0_ok nmX0 hown hK hP hD hS 1 rfl rfl 3 (by decide) ((va_Nw.use rfl (hN _ (List.mem_of_getElem? (i := 7) rfl)))) (fun _ h9 => h9) rfl (by decide +kernel) (q_nz hb_8) (q_fz hb_8) (Nat.le_of_ble_eq_true rfl) dX3_minus_38 (fun H locs hP hD hS => ?_)
      have hP : va_P (dC, dI) vwCl [(aP, .inr (3, [.ref aR, .ref aF])), (aF, .inr (0, [.int fn, .int fz, .int b_4, .int b_7]))] H := hP
      have hD : va_D A [(aP, .inr (3, [.ref aR, .ref aF])), (aF, .inr (0, [.int fn, .int fz, .int b_4, .int b_7]))] := hD
      refine lv_iload_n hx hb dX3_minus_41 rfl (lv_at hl 0 rfl) ?_
      have hP9 := hP.sub (ws' := [(aP, .inr (3, [.ref aR, .ref aF])), (aF, .inr (0, [.int fn, .int fz, .int b_4, .int b_7]))]) [0, 1] rfl
      have hD9 := hD.sub (ws' := [(aP, .inr (3, [.ref aR, .ref aF])), (aF, .inr (0, [.int fn, .int fz, .int b_4, .int b_7]))]) [0, 1] (by decide) rfl
      have hK9 := hK.sub (tys' := []) [] rfl
      exact W.iret (v := (-v) &&& k) hx hb hr (fun t ht hW => ⟨⟨(-v) &&& k, (fn, fz, b_4, b_7), rfl, trivial, by rw [ht]; exact hP9, va_K.moved hW.alike hK9, hD9⟩, hS.F ht⟩) hS.2.2 dX3_minus_42
    refine lv_if_eq (tgt := 37) hx hb dX3_minus_30 (by decide) (fun c_6 => ?_) (fun c_6 => ?_)
    · refine lv_iconst (v := 0) hx hb dX3_minus_37 (by decide) ?_
      exact jn _ (Or.inl rfl)
    · refine lv_iconst (v := 1) hx hb dX3_minus_33 (by decide) ?_
      refine lv_goto (tgt := 38) hx hb dX3_minus_34 (by decide) ?_
      exact jn _ (Or.inr rfl)
  refine lv_icmp_ne (tgt := 21) hx hb dX3_minus_14 (by decide) (fun c_3 => ?_) (fun c_3 => ?_)
  · refine lv_iconst (v := 0) hx hb dX3_minus_21 (by decide) ?_
    exact jn _ (Or.inl rfl)
  · refine lv_iconst (v := 1) hx hb dX3_minus_17 (by decide) ?_
    refine lv_goto (tgt := 22) hx hb dX3_minus_18 (by decide) ?_
    exact jn _ (Or.inr rfl)
set_option maxHeartbeats 4000000 in
set_option maxRecDepth 100000 in
theorem s_X3_carryMore (l : Launch) (dC : Nat → ClassId) (dI : Nat → Nat → Nat) (sz : Nat) (aP : Nat) (v : Int32) (k : Int32) (aR : Nat) (aF : Nat) (fn : Int32) (fz : Int32) (fv : Int32) (fc : Int32)  : Met l yX3_carryMore wsX3_carryMore ({ frames := 1, cells := 0, slots := 0, locals := 20 }) (va_Pc [.ref aP, .int v, .int k] (q_pre dC dI sz [(aP, .inr (3, [.ref aR, .ref aF])), (aF, .inr (0, [.int fn, .int fz, .int fv, .int fc]))] [])) (va_Qi (fun (r : Int32) (u9 : Int32 × Int32 × Int32 × Int32) => True) (q_at dC dI (va_A [(aP, .inr (3, [.ref aR, .ref aF])), (aF, .inr (0, [.int fn, .int fz, .int fv, .int fc]))] sz) (fun (u9 : Int32 × Int32 × Int32 × Int32) => []) (fun (u9 : Int32 × Int32 × Int32 × Int32) => [(aP, .inr (3, [.ref aR, .ref aF])), (aF, .inr (0, [.int u9.1, .int u9.2.1, .int u9.2.2.1, .int u9.2.2.2]))])) (va_A [(aP, .inr (3, [.ref aR, .ref aF])), (aF, .inr (0, [.int fn, .int fz, .int fv, .int fc]))] sz)) 0 0 (va_A [(aP, .inr (3, [.ref aR, .ref aF])), (aF, .inr (0, [.int fn, .int fz, .int fv, .int fc]))] sz) := by
  refine Met.ofW (cc := cX3_carryMore) (maxL := 3) (ret := (some .int)) (by decide) rfl ?_
  intro p e s m args below meth c s₁ B hml hv
  obtain ⟨rfl, hsz, hP, hK, hD0, hN⟩ := hv
  have hx := B.exec
  have hb := B.bytes
  have hr := B.returns
  have hts := atoms_spec (ws := wsX3_carryMore) B.pre
  have hown : s.vm.findClass RX3 = some m.cls := findClass_of_methodNamed B.named
  have hlocks := B.notSynchronized
  subst hsz
  have hD := hD0.self (sz := s.heap.size)
  generalize hAe : va_A [(aP, .inr (3, [.ref aR, .ref aF])), (aF, .inr (0, [.int fn, .int fz, .int fv, .int fc]))] s.heap.size = A at hD ⊢
  have hA : ∀ q : Nat, s.heap.size ≤ q → A q := fun q h => by rw [← hAe]; exact Or.inr h
  have hS : va_S A s.heap s.heap [] := va_S.rf
  have hP : va_P (dC, dI) vwCl [(aP, .inr (3, [.ref aR, .ref aF])), (aF, .inr (0, [.int fn, .int fz, .int fv, .int fc]))] s.heap := hP
  have hl := lv_entry ([.ref aP, .int v, .int k]) (n := 3) (Nat.le_of_ble_eq_true rfl)
  rw [lg_entry_eq]
  generalize (lg_sl ([.ref aP, .int v, .int k]) ++ List.replicate (3 - (lg_sl ([.ref aP, .int v, .int k])).length) Slot.unset).toArray = ls at hl ⊢
  have hl : lv_has ls 3 [(0, .ref aP), (1, .int v), (2, .int k)] := hl
  refine lv_aload_n hx hb dX3_carryMore_0 rfl (lv_at hl 0 rfl) ?_
  refine va_get (D := (dC, dI)) (ci := 3) (v := .ref aF) (C := RX3) (T := TX3) (N := 2) hx hb hts (by decide +kernel) hown hK hP 0 rfl rfl 1 (by decide) (hts (.fieldLink RX3 12 "WordGuest$Processor" "conditions" "LWordGuest$Flags;") (by decide +kernel)) (fun _ h9 => h9) rfl dX3_carryMore_1 ?_
  refine va_getN (D := (dC, dI)) (ci := 0) (v := .int fc) (C := RX0) (T := TX0) (N := 4) hx hb hts (by decide +kernel) hown hK hP 1 rfl rfl 3 (by decide) ((va_Nw.use rfl (hN _ (List.mem_of_getElem? (i := 7) rfl)))) (fun _ h9 => h9) rfl dX3_carryMore_4 ?_
  refine lv_if_ne (tgt := 20) hx hb dX3_carryMore_7 (by decide) (fun c_1 => ?_) (fun c_1 => ?_)
  · refine lv_aload_n hx hb dX3_carryMore_20 rfl (lv_at hl 0 rfl) ?_
    refine va_get (D := (dC, dI)) (ci := 3) (v := .ref aF) (C := RX3) (T := TX3) (N := 2) hx hb hts (by decide +kernel) hown hK hP 0 rfl rfl 1 (by decide) (hts (.fieldLink RX3 12 "WordGuest$Processor" "conditions" "LWordGuest$Flags;") (by decide +kernel)) (fun _ h9 => h9) rfl dX3_carryMore_21 ?_
    refine lv_iload_n hx hb dX3_carryMore_24 rfl (lv_at hl 1 rfl) ?_
    refine lv_iload_n hx hb dX3_carryMore_25 rfl (lv_at hl 2 rfl) ?_
    have hPc := hP.sub (ws' := []) [] rfl
    have hDc := hD.sub (ws' := []) [] (by decide) rfl
    have hKc := hK.sub (tys' := []) [] rfl
    have hFc := va_free (wc := []) hD hS hA [] rfl
    refine va_calli (va_runSN (As := [.int k]) (rest := [.int v, .ref aF]) ⟨hx, hb, hml, hown, hts⟩ (s_X4_signOf l dC dI s.heap.size k) ⟨va_cnB 1 hts gX3_carryMore_X4_signOf_n105 rfl rfl rfl (hN _ (List.mem_of_getElem? (i := 13) rfl)) (hts (.initialized RX4) (by decide +kernel)) (by decide +kernel) ⟨Nat.le_of_ble_eq_true rfl, Nat.le_of_ble_eq_true rfl⟩, hts (.static yX4_signOf) (by decide +kernel), trivial⟩ ⟨q_blind, fun U hU hW => ⟨rfl, q_pay hU hW hPc hKc hDc hN⟩⟩ rfl rfl hl.1 rfl (lv_room (Nat.le_of_ble_eq_true rfl)) dX3_carryMore_26 ⟨show 0 + 0 ≤ 0 from by omega, show 0 + 0 ≤ 0 from by omega⟩) hS (fun q _ h => hFc q h) hFc (fun r_2 u9 t H locs ht hvm hw_3 hB hz1 hk1 hS => ?_)
    obtain ⟨hP1, hK1, hD1⟩ := hB
    rw [ht] at hP1
    obtain ⟨hP, hD⟩ := va_join (wr := [(aP, .inr (3, [.ref aR, .ref aF])), (aF, .inr (0, [.int fn, .int fz, .int fv, .int fc]))]) (w1 := []) hP hD [] [0, 1] rfl rfl (by decide) (by decide) hk1 hFc hP1 hD1
    have hP : va_P (dC, dI) vwCl [(aP, .inr (3, [.ref aR, .ref aF])), (aF, .inr (0, [.int fn, .int fz, .int fv, .int fc]))] H := hP
    have hD : va_D A [(aP, .inr (3, [.ref aR, .ref aF])), (aF, .inr (0, [.int fn, .int fz, .int fv, .int fc]))] := hD
    refine W.widen (k := 0) (n := 0) (by omega) (by omega) ?_
    try dsimp only at hw_3
    refine lv_iconst (v := 1) hx hb dX3_carryMore_29 (by decide) ?_
    refine lv_isub hx hb dX3_carryMore_30 ?_
    refine q_bool (ls := ls) 39 [.ref aF] (fun b_5 hb_6 => ?_) (fun jn => ?_)
    · refine va_putN (D := (dC, dI)) (ci := 0) (v := .int b_5) (ty := .boolean) (C := RX0) (T := TX0) (N := 4) hx hb hts (by decide +kernel) tyX0 tyX0_ok nmX0 hown hK hP hD hS 1 rfl rfl 2 (by decide) ((va_Nw.use rfl (hN _ (List.mem_of_getElem? (i := 6) rfl)))) (fun _ h9 => h9) rfl (by decide +kernel) (q_nz hb_6) (q_fz hb_6) (Nat.le_of_ble_eq_true rfl) dX3_carryMore_39 (fun H locs hP hD hS => ?_)
      have hP : va_P (dC, dI) vwCl [(aP, .inr (3, [.ref aR, .ref aF])), (aF, .inr (0, [.int fn, .int fz, .int b_5, .int fc]))] H := hP
      have hD : va_D A [(aP, .inr (3, [.ref aR, .ref aF])), (aF, .inr (0, [.int fn, .int fz, .int b_5, .int fc]))] := hD
      refine lv_aload_n hx hb dX3_carryMore_42 rfl (lv_at hl 0 rfl) ?_
      refine va_get (D := (dC, dI)) (ci := 3) (v := .ref aF) (C := RX3) (T := TX3) (N := 2) hx hb hts (by decide +kernel) hown hK hP 0 rfl rfl 1 (by decide) (hts (.fieldLink RX3 12 "WordGuest$Processor" "conditions" "LWordGuest$Flags;") (by decide +kernel)) (fun _ h9 => h9) rfl dX3_carryMore_43 ?_
      refine lv_iload_n hx hb dX3_carryMore_46 rfl (lv_at hl 1 rfl) ?_
      refine lv_iload_n hx hb dX3_carryMore_47 rfl (lv_at hl 2 rfl) ?_
      refine q_bool (ls := ls) 56 [.ref aF] (fun b_8 hb_9 => ?_) (fun jn => ?_)
      · refine va_putN (D := (dC, dI)) (ci := 0) (v := .int b_8) (ty := .boolean) (C := RX0) (T := TX0) (N := 4) hx hb hts (by decide +kernel) tyX0 tyX0_ok nmX0 hown hK hP hD hS 1 rfl rfl 3 (by decide) ((va_Nw.use rfl (hN _ (List.mem_of_getElem? (i := 7) rfl)))) (fun _ h9 => h9) rfl (by decide +kernel) (q_nz hb_9) (q_fz hb_9) (Nat.le_of_ble_eq_true rfl) dX3_carryMore_56 (fun H locs hP hD hS => ?_)
        have hP : va_P (dC, dI) vwCl [(aP, .inr (3, [.ref aR, .ref aF])), (aF, .inr (0, [.int fn, .int fz, .int b_5, .int b_8]))] H := hP
        have hD : va_D A [(aP, .inr (3, [.ref aR, .ref aF])), (aF, .inr (0, [.int fn, .int fz, .int b_5, .int b_8]))] := hD
        refine lv_iload_n hx hb dX3_carryMore_59 rfl (lv_at hl 1 rfl) ?_
        refine lv_iconst (v := 1) hx hb dX3_carryMore_60 (by decide) ?_
        refine lv_iadd hx hb dX3_carryMore_61 ?_
        refine lv_iload_n hx hb dX3_carryMore_62 rfl (lv_at hl 2 rfl) ?_
        refine lv_iand hx hb dX3_carryMore_63 ?_
        have hP9 := hP.sub (ws' := [(aP, .inr (3, [.ref aR, .ref aF])), (aF, .inr (0, [.int fn, .int fz, .int b_5, .int b_8]))]) [0, 1] rfl
        have hD9 := hD.sub (ws' := [(aP, .inr (3, [.ref aR, .ref aF])), (aF, .inr (0, [.int fn, .int fz, .int b_5, .int b_8]))]) [0, 1] (by decide) rfl
        have hK9 := hK.sub (tys' := []) [] rfl
        exact W.iret (v := (v + 1) &&& k) hx hb hr (fun t ht hW => ⟨⟨(v + 1) &&& k, (fn, fz, b_5, b_8), rfl, trivial, by rw [ht]; exact hP9, va_K.moved hW.alike hK9, hD9⟩, hS.F ht⟩) hS.2.2 dX3_carryMore_64
      refine lv_icmp_ne (tgt := 55) hx hb dX3_carryMore_48 (by decide) (fun c_7 => ?_) (fun c_7 => ?_)
      · refine lv_iconst (v := 0) hx hb dX3_carryMore_55 (by decide) ?_
        exact jn _ (Or.inl rfl)
      · refine lv_iconst (v := 1) hx hb dX3_carryMore_51 (by decide) ?_
        refine lv_goto (tgt := 56) hx hb dX3_carryMore_52 (by decide) ?_
        exact jn _ (Or.inr rfl)
    refine lv_icmp_ne (tgt := 38) hx hb dX3_carryMore_31 (by decide) (fun c_4 => ?_) (fun c_4 => ?_)
    · refine lv_iconst (v := 0) hx hb dX3_carryMore_38 (by decide) ?_
      exact jn _ (Or.inl rfl)
    · refine lv_iconst (v := 1) hx hb dX3_carryMore_34 (by decide) ?_
      refine lv_goto (tgt := 39) hx hb dX3_carryMore_35 (by decide) ?_
      exact jn _ (Or.inr rfl)
  · refine lv_aload_n hx hb dX3_carryMore_10 rfl (lv_at hl 0 rfl) ?_
    refine va_get (D := (dC, dI)) (ci := 3) (v := .ref aF) (C := RX3) (T := TX3) (N := 2) hx hb hts (by decide +kernel) hown hK hP 0 rfl rfl 1 (by decide) (hts (.fieldLink RX3 12 "WordGuest$Processor" "conditions" "LWordGuest$Flags;") (by decide +kernel)) (fun _ h9 => h9) rfl dX3_carryMore_11 ?_
    refine lv_iconst (v := 0) hx hb dX3_carryMore_14 (by decide) ?_
    refine va_putN (D := (dC, dI)) (ci := 0) (v := .int 0) (ty := .boolean) (C := RX0) (T := TX0) (N := 4) hx hb hts (by decide +kernel) tyX0 tyX0_ok nmX0 hown hK hP hD hS 1 rfl rfl 2 (by decide) ((va_Nw.use rfl (hN _ (List.mem_of_getElem? (i := 6) rfl)))) (fun _ h9 => h9) rfl (by decide +kernel) (by decide) (by decide) (Nat.le_of_ble_eq_true rfl) dX3_carryMore_15 (fun H locs hP hD hS => ?_)
    have hP : va_P (dC, dI) vwCl [(aP, .inr (3, [.ref aR, .ref aF])), (aF, .inr (0, [.int fn, .int fz, .int 0, .int fc]))] H := hP
    have hD : va_D A [(aP, .inr (3, [.ref aR, .ref aF])), (aF, .inr (0, [.int fn, .int fz, .int 0, .int fc]))] := hD
    refine lv_iload_n hx hb dX3_carryMore_18 rfl (lv_at hl 1 rfl) ?_
    have hP9 := hP.sub (ws' := [(aP, .inr (3, [.ref aR, .ref aF])), (aF, .inr (0, [.int fn, .int fz, .int 0, .int fc]))]) [0, 1] rfl
    have hD9 := hD.sub (ws' := [(aP, .inr (3, [.ref aR, .ref aF])), (aF, .inr (0, [.int fn, .int fz, .int 0, .int fc]))]) [0, 1] (by decide) rfl
    have hK9 := hK.sub (tys' := []) [] rfl
    exact W.iret (v := v) hx hb hr (fun t ht hW => ⟨⟨v, (fn, fz, 0, fc), rfl, trivial, by rw [ht]; exact hP9, va_K.moved hW.alike hK9, hD9⟩, hS.F ht⟩) hS.2.2 dX3_carryMore_19
set_option maxHeartbeats 4000000 in
set_option maxRecDepth 100000 in
theorem s_X3_carryLess (l : Launch) (dC : Nat → ClassId) (dI : Nat → Nat → Nat) (sz : Nat) (aP : Nat) (v : Int32) (k : Int32) (aR : Nat) (aF : Nat) (fn : Int32) (fz : Int32) (fv : Int32) (fc : Int32)  : Met l yX3_carryLess wsX3_carryLess ({ frames := 1, cells := 0, slots := 0, locals := 20 }) (va_Pc [.ref aP, .int v, .int k] (q_pre dC dI sz [(aP, .inr (3, [.ref aR, .ref aF])), (aF, .inr (0, [.int fn, .int fz, .int fv, .int fc]))] [])) (va_Qi (fun (r : Int32) (u9 : Int32 × Int32 × Int32 × Int32) => True) (q_at dC dI (va_A [(aP, .inr (3, [.ref aR, .ref aF])), (aF, .inr (0, [.int fn, .int fz, .int fv, .int fc]))] sz) (fun (u9 : Int32 × Int32 × Int32 × Int32) => []) (fun (u9 : Int32 × Int32 × Int32 × Int32) => [(aP, .inr (3, [.ref aR, .ref aF])), (aF, .inr (0, [.int u9.1, .int u9.2.1, .int u9.2.2.1, .int u9.2.2.2]))])) (va_A [(aP, .inr (3, [.ref aR, .ref aF])), (aF, .inr (0, [.int fn, .int fz, .int fv, .int fc]))] sz)) 0 0 (va_A [(aP, .inr (3, [.ref aR, .ref aF])), (aF, .inr (0, [.int fn, .int fz, .int fv, .int fc]))] sz) := by
  refine Met.ofW (cc := cX3_carryLess) (maxL := 3) (ret := (some .int)) (by decide) rfl ?_
  intro p e s m args below meth c s₁ B hml hv
  obtain ⟨rfl, hsz, hP, hK, hD0, hN⟩ := hv
  have hx := B.exec
  have hb := B.bytes
  have hr := B.returns
  have hts := atoms_spec (ws := wsX3_carryLess) B.pre
  have hown : s.vm.findClass RX3 = some m.cls := findClass_of_methodNamed B.named
  have hlocks := B.notSynchronized
  subst hsz
  have hD := hD0.self (sz := s.heap.size)
  generalize hAe : va_A [(aP, .inr (3, [.ref aR, .ref aF])), (aF, .inr (0, [.int fn, .int fz, .int fv, .int fc]))] s.heap.size = A at hD ⊢
  have hA : ∀ q : Nat, s.heap.size ≤ q → A q := fun q h => by rw [← hAe]; exact Or.inr h
  have hS : va_S A s.heap s.heap [] := va_S.rf
  have hP : va_P (dC, dI) vwCl [(aP, .inr (3, [.ref aR, .ref aF])), (aF, .inr (0, [.int fn, .int fz, .int fv, .int fc]))] s.heap := hP
  have hl := lv_entry ([.ref aP, .int v, .int k]) (n := 3) (Nat.le_of_ble_eq_true rfl)
  rw [lg_entry_eq]
  generalize (lg_sl ([.ref aP, .int v, .int k]) ++ List.replicate (3 - (lg_sl ([.ref aP, .int v, .int k])).length) Slot.unset).toArray = ls at hl ⊢
  have hl : lv_has ls 3 [(0, .ref aP), (1, .int v), (2, .int k)] := hl
  refine lv_aload_n hx hb dX3_carryLess_0 rfl (lv_at hl 0 rfl) ?_
  refine va_get (D := (dC, dI)) (ci := 3) (v := .ref aF) (C := RX3) (T := TX3) (N := 2) hx hb hts (by decide +kernel) hown hK hP 0 rfl rfl 1 (by decide) (hts (.fieldLink RX3 12 "WordGuest$Processor" "conditions" "LWordGuest$Flags;") (by decide +kernel)) (fun _ h9 => h9) rfl dX3_carryLess_1 ?_
  refine va_getN (D := (dC, dI)) (ci := 0) (v := .int fc) (C := RX0) (T := TX0) (N := 4) hx hb hts (by decide +kernel) hown hK hP 1 rfl rfl 3 (by decide) ((va_Nw.use rfl (hN _ (List.mem_of_getElem? (i := 7) rfl)))) (fun _ h9 => h9) rfl dX3_carryLess_4 ?_
  refine lv_if_ne (tgt := 20) hx hb dX3_carryLess_7 (by decide) (fun c_1 => ?_) (fun c_1 => ?_)
  · refine lv_aload_n hx hb dX3_carryLess_20 rfl (lv_at hl 0 rfl) ?_
    refine va_get (D := (dC, dI)) (ci := 3) (v := .ref aF) (C := RX3) (T := TX3) (N := 2) hx hb hts (by decide +kernel) hown hK hP 0 rfl rfl 1 (by decide) (hts (.fieldLink RX3 12 "WordGuest$Processor" "conditions" "LWordGuest$Flags;") (by decide +kernel)) (fun _ h9 => h9) rfl dX3_carryLess_21 ?_
    refine lv_iload_n hx hb dX3_carryLess_24 rfl (lv_at hl 1 rfl) ?_
    refine lv_iload_n hx hb dX3_carryLess_25 rfl (lv_at hl 2 rfl) ?_
    have hPc := hP.sub (ws' := []) [] rfl
    have hDc := hD.sub (ws' := []) [] (by decide) rfl
    have hKc := hK.sub (tys' := []) [] rfl
    have hFc := va_free (wc := []) hD hS hA [] rfl
    refine va_calli (va_runSN (As := [.int k]) (rest := [.int v, .ref aF]) ⟨hx, hb, hml, hown, hts⟩ (s_X4_signOf l dC dI s.heap.size k) ⟨va_cnB 1 hts gX3_carryLess_X4_signOf_n105 rfl rfl rfl (hN _ (List.mem_of_getElem? (i := 13) rfl)) (hts (.initialized RX4) (by decide +kernel)) (by decide +kernel) ⟨Nat.le_of_ble_eq_true rfl, Nat.le_of_ble_eq_true rfl⟩, hts (.static yX4_signOf) (by decide +kernel), trivial⟩ ⟨q_blind, fun U hU hW => ⟨rfl, q_pay hU hW hPc hKc hDc hN⟩⟩ rfl rfl hl.1 rfl (lv_room (Nat.le_of_ble_eq_true rfl)) dX3_carryLess_26 ⟨show 0 + 0 ≤ 0 from by omega, show 0 + 0 ≤ 0 from by omega⟩) hS (fun q _ h => hFc q h) hFc (fun r_2 u9 t H locs ht hvm hw_3 hB hz1 hk1 hS => ?_)
    obtain ⟨hP1, hK1, hD1⟩ := hB
    rw [ht] at hP1
    obtain ⟨hP, hD⟩ := va_join (wr := [(aP, .inr (3, [.ref aR, .ref aF])), (aF, .inr (0, [.int fn, .int fz, .int fv, .int fc]))]) (w1 := []) hP hD [] [0, 1] rfl rfl (by decide) (by decide) hk1 hFc hP1 hD1
    have hP : va_P (dC, dI) vwCl [(aP, .inr (3, [.ref aR, .ref aF])), (aF, .inr (0, [.int fn, .int fz, .int fv, .int fc]))] H := hP
    have hD : va_D A [(aP, .inr (3, [.ref aR, .ref aF])), (aF, .inr (0, [.int fn, .int fz, .int fv, .int fc]))] := hD
    refine W.widen (k := 0) (n := 0) (by omega) (by omega) ?_
    try dsimp only at hw_3
    refine q_bool (ls := ls) 37 [.ref aF] (fun b_5 hb_6 => ?_) (fun jn => ?_)
    · refine va_putN (D := (dC, dI)) (ci := 0) (v := .int b_5) (ty := .boolean) (C := RX0) (T := TX0) (N := 4) hx hb hts (by decide +kernel) tyX0 tyX0_ok nmX0 hown hK hP hD hS 1 rfl rfl 2 (by decide) ((va_Nw.use rfl (hN _ (List.mem_of_getElem? (i := 6) rfl)))) (fun _ h9 => h9) rfl (by decide +kernel) (q_nz hb_6) (q_fz hb_6) (Nat.le_of_ble_eq_true rfl) dX3_carryLess_37 (fun H locs hP hD hS => ?_)
      have hP : va_P (dC, dI) vwCl [(aP, .inr (3, [.ref aR, .ref aF])), (aF, .inr (0, [.int fn, .int fz, .int b_5, .int fc]))] H := hP
      have hD : va_D A [(aP, .inr (3, [.ref aR, .ref aF])), (aF, .inr (0, [.int fn, .int fz, .int b_5, .int fc]))] := hD
      refine lv_aload_n hx hb dX3_carryLess_40 rfl (lv_at hl 0 rfl) ?_
      refine va_get (D := (dC, dI)) (ci := 3) (v := .ref aF) (C := RX3) (T := TX3) (N := 2) hx hb hts (by decide +kernel) hown hK hP 0 rfl rfl 1 (by decide) (hts (.fieldLink RX3 12 "WordGuest$Processor" "conditions" "LWordGuest$Flags;") (by decide +kernel)) (fun _ h9 => h9) rfl dX3_carryLess_41 ?_
      refine lv_iload_n hx hb dX3_carryLess_44 rfl (lv_at hl 1 rfl) ?_
      refine q_bool (ls := ls) 53 [.ref aF] (fun b_8 hb_9 => ?_) (fun jn => ?_)
      · refine va_putN (D := (dC, dI)) (ci := 0) (v := .int b_8) (ty := .boolean) (C := RX0) (T := TX0) (N := 4) hx hb hts (by decide +kernel) tyX0 tyX0_ok nmX0 hown hK hP hD hS 1 rfl rfl 3 (by decide) ((va_Nw.use rfl (hN _ (List.mem_of_getElem? (i := 7) rfl)))) (fun _ h9 => h9) rfl (by decide +kernel) (q_nz hb_9) (q_fz hb_9) (Nat.le_of_ble_eq_true rfl) dX3_carryLess_53 (fun H locs hP hD hS => ?_)
        have hP : va_P (dC, dI) vwCl [(aP, .inr (3, [.ref aR, .ref aF])), (aF, .inr (0, [.int fn, .int fz, .int b_5, .int b_8]))] H := hP
        have hD : va_D A [(aP, .inr (3, [.ref aR, .ref aF])), (aF, .inr (0, [.int fn, .int fz, .int b_5, .int b_8]))] := hD
        refine lv_iload_n hx hb dX3_carryLess_56 rfl (lv_at hl 1 rfl) ?_
        refine lv_iconst (v := 1) hx hb dX3_carryLess_57 (by decide) ?_
        refine lv_isub hx hb dX3_carryLess_58 ?_
        refine lv_iload_n hx hb dX3_carryLess_59 rfl (lv_at hl 2 rfl) ?_
        refine lv_iand hx hb dX3_carryLess_60 ?_
        have hP9 := hP.sub (ws' := [(aP, .inr (3, [.ref aR, .ref aF])), (aF, .inr (0, [.int fn, .int fz, .int b_5, .int b_8]))]) [0, 1] rfl
        have hD9 := hD.sub (ws' := [(aP, .inr (3, [.ref aR, .ref aF])), (aF, .inr (0, [.int fn, .int fz, .int b_5, .int b_8]))]) [0, 1] (by decide) rfl
        have hK9 := hK.sub (tys' := []) [] rfl
        exact W.iret (v := (v - 1) &&& k) hx hb hr (fun t ht hW => ⟨⟨(v - 1) &&& k, (fn, fz, b_5, b_8), rfl, trivial, by rw [ht]; exact hP9, va_K.moved hW.alike hK9, hD9⟩, hS.F ht⟩) hS.2.2 dX3_carryLess_61
      refine lv_if_ne (tgt := 52) hx hb dX3_carryLess_45 (by decide) (fun c_7 => ?_) (fun c_7 => ?_)
      · refine lv_iconst (v := 0) hx hb dX3_carryLess_52 (by decide) ?_
        exact jn _ (Or.inl rfl)
      · refine lv_iconst (v := 1) hx hb dX3_carryLess_48 (by decide) ?_
        refine lv_goto (tgt := 53) hx hb dX3_carryLess_49 (by decide) ?_
        exact jn _ (Or.inr rfl)
    refine lv_icmp_ne (tgt := 36) hx hb dX3_carryLess_29 (by decide) (fun c_4 => ?_) (fun c_4 => ?_)
    · refine lv_iconst (v := 0) hx hb dX3_carryLess_36 (by decide) ?_
      exact jn _ (Or.inl rfl)
    · refine lv_iconst (v := 1) hx hb dX3_carryLess_32 (by decide) ?_
      refine lv_goto (tgt := 37) hx hb dX3_carryLess_33 (by decide) ?_
      exact jn _ (Or.inr rfl)
  · refine lv_aload_n hx hb dX3_carryLess_10 rfl (lv_at hl 0 rfl) ?_
    refine va_get (D := (dC, dI)) (ci := 3) (v := .ref aF) (C := RX3) (T := TX3) (N := 2) hx hb hts (by decide +kernel) hown hK hP 0 rfl rfl 1 (by decide) (hts (.fieldLink RX3 12 "WordGuest$Processor" "conditions" "LWordGuest$Flags;") (by decide +kernel)) (fun _ h9 => h9) rfl dX3_carryLess_11 ?_
    refine lv_iconst (v := 0) hx hb dX3_carryLess_14 (by decide) ?_
    refine va_putN (D := (dC, dI)) (ci := 0) (v := .int 0) (ty := .boolean) (C := RX0) (T := TX0) (N := 4) hx hb hts (by decide +kernel) tyX0 tyX0_ok nmX0 hown hK hP hD hS 1 rfl rfl 2 (by decide) ((va_Nw.use rfl (hN _ (List.mem_of_getElem? (i := 6) rfl)))) (fun _ h9 => h9) rfl (by decide +kernel) (by decide) (by decide) (Nat.le_of_ble_eq_true rfl) dX3_carryLess_15 (fun H locs hP hD hS => ?_)
    have hP : va_P (dC, dI) vwCl [(aP, .inr (3, [.ref aR, .ref aF])), (aF, .inr (0, [.int fn, .int fz, .int 0, .int fc]))] H := hP
    have hD : va_D A [(aP, .inr (3, [.ref aR, .ref aF])), (aF, .inr (0, [.int fn, .int fz, .int 0, .int fc]))] := hD
    refine lv_iload_n hx hb dX3_carryLess_18 rfl (lv_at hl 1 rfl) ?_
    have hP9 := hP.sub (ws' := [(aP, .inr (3, [.ref aR, .ref aF])), (aF, .inr (0, [.int fn, .int fz, .int 0, .int fc]))]) [0, 1] rfl
    have hD9 := hD.sub (ws' := [(aP, .inr (3, [.ref aR, .ref aF])), (aF, .inr (0, [.int fn, .int fz, .int 0, .int fc]))]) [0, 1] (by decide) rfl
    have hK9 := hK.sub (tys' := []) [] rfl
    exact W.iret (v := v) hx hb hr (fun t ht hW => ⟨⟨v, (fn, fz, 0, fc), rfl, trivial, by rw [ht]; exact hP9, va_K.moved hW.alike hK9, hD9⟩, hS.F ht⟩) hS.2.2 dX3_carryLess_19
set_option maxHeartbeats 4000000 in
set_option maxRecDepth 100000 in
theorem s_X3_count (l : Launch) (dC : Nat → ClassId) (dI : Nat → Nat → Nat) (sz : Nat) (aP : Nat) (hd : Int32) (v : Int32) (k : Int32) (aR : Nat) (aF : Nat) (fn : Int32) (fz : Int32) (fv : Int32) (fc : Int32)  : Met l yX3_count wsX3_count ({ frames := 2, cells := 0, slots := 0, locals := 43 }) (va_Pc [.ref aP, .int hd, .int v, .int k] (q_pre dC dI sz [(aP, .inr (3, [.ref aR, .ref aF])), (aF, .inr (0, [.int fn, .int fz, .int fv, .int fc]))] [])) (va_Qi (fun (r : Int32) (u9 : Int32 × Int32 × Int32 × Int32) => True) (q_at dC dI (va_A [(aP, .inr (3, [.ref aR, .ref aF])), (aF, .inr (0, [.int fn, .int fz, .int fv, .int fc]))] sz) (fun (u9 : Int32 × Int32 × Int32 × Int32) => []) (fun (u9 : Int32 × Int32 × Int32 × Int32) => [(aP, .inr (3, [.ref aR, .ref aF])), (aF, .inr (0, [.int u9.1, .int u9.2.1, .int u9.2.2.1, .int u9.2.2.2]))])) (va_A [(aP, .inr (3, [.ref aR, .ref aF])), (aF, .inr (0, [.int fn, .int fz, .int fv, .int fc]))] sz)) 0 0 (va_A [(aP, .inr (3, [.ref aR, .ref aF])), (aF, .inr (0, [.int fn, .int fz, .int fv, .int fc]))] sz) := by
  refine Met.ofW (cc := cX3_count) (maxL := 4) (ret := (some .int)) (by decide) rfl ?_
  intro p e s m args below meth c s₁ B hml hv
  obtain ⟨rfl, hsz, hP, hK, hD0, hN⟩ := hv
  have hx := B.exec
  have hb := B.bytes
  have hr := B.returns
  have hts := atoms_spec (ws := wsX3_count) B.pre
  have hown : s.vm.findClass RX3 = some m.cls := findClass_of_methodNamed B.named
  have hlocks := B.notSynchronized
  subst hsz
  have hD := hD0.self (sz := s.heap.size)
  generalize hAe : va_A [(aP, .inr (3, [.ref aR, .ref aF])), (aF, .inr (0, [.int fn, .int fz, .int fv, .int fc]))] s.heap.size = A at hD ⊢
  have hA : ∀ q : Nat, s.heap.size ≤ q → A q := fun q h => by rw [← hAe]; exact Or.inr h
  have hS : va_S A s.heap s.heap [] := va_S.rf
  have hP : va_P (dC, dI) vwCl [(aP, .inr (3, [.ref aR, .ref aF])), (aF, .inr (0, [.int fn, .int fz, .int fv, .int fc]))] s.heap := hP
  have hl := lv_entry ([.ref aP, .int hd, .int v, .int k]) (n := 4) (Nat.le_of_ble_eq_true rfl)
  rw [lg_entry_eq]
  generalize (lg_sl ([.ref aP, .int hd, .int v, .int k]) ++ List.replicate (4 - (lg_sl ([.ref aP, .int hd, .int v, .int k])).length) Slot.unset).toArray = ls at hl ⊢
  have hl : lv_has ls 4 [(0, .ref aP), (1, .int hd), (2, .int v), (3, .int k)] := hl
  refine lv_iload_n hx hb dX3_count_0 rfl (lv_at hl 1 rfl) ?_
  by_cases hs_1 : hd = 40
  · refine q_toc (y := 40) hs_1 ?_
    refine lv_tableIn (off := 43) (tgt := 44) hx hb dX3_count_1 (by decide) (by decide) (by decide) (by decide) ?_
    refine lv_aload_n hx hb dX3_count_44 rfl (lv_at hl 0 rfl) ?_
    refine lv_iconst (v := 0) hx hb dX3_count_45 (by decide) ?_
    refine lv_iconst (v := 0) hx hb dX3_count_46 (by decide) ?_
    have hPc := hP.sub (ws' := [(aP, .inr (3, [.ref aR, .ref aF])), (aF, .inr (0, [.int fn, .int fz, .int fv, .int fc]))]) [0, 1] rfl
    have hDc := hD.sub (ws' := [(aP, .inr (3, [.ref aR, .ref aF])), (aF, .inr (0, [.int fn, .int fz, .int fv, .int fc]))]) [0, 1] (by decide) rfl
    have hKc := hK.sub (tys' := []) [] rfl
    have hFc := va_free (wc := [(aP, .inr (3, [.ref aR, .ref aF])), (aF, .inr (0, [.int fn, .int fz, .int fv, .int fc]))]) hD hS hA [0, 1] rfl
    refine va_calli (va_runV (C := RX3) (b := aP) (As := [.int 0, .int 0]) (rest := []) ⟨hx, hb, hml, hown, hts⟩ (s_X3_withoutOverflow l dC dI s.heap.size aP (0 : Int32) (0 : Int32) aR aF fn fz fv fc (Or.inl rfl)) (cwV 2 hts gX3_count_X3_withoutOverflow rfl rfl rfl (by decide +kernel) ⟨Nat.le_of_ble_eq_true rfl, Nat.le_of_ble_eq_true rfl⟩) ⟨q_blind, va_recv hK hP (ci := 3) (q0 := 0) rfl rfl, fun U hU hW => ⟨rfl, q_pay hU hW hPc hKc hDc hN⟩⟩ rfl rfl hl.1 rfl (lv_room (Nat.le_of_ble_eq_true rfl)) dX3_count_47 ⟨show 0 + 0 ≤ 0 from by omega, show 0 + 0 ≤ 0 from by omega⟩) hS (fun q _ h => hFc q h) hFc (fun r_2 u9 t H locs ht hvm hw_3 hB hz1 hk1 hS => ?_)
    obtain ⟨fn2_4, fz2_5, fv2_6, fc2_7⟩ := u9
    obtain ⟨hP1, hK1, hD1⟩ := hB
    rw [ht] at hP1
    obtain ⟨hP, hD⟩ := va_join (wr := []) (w1 := [(aP, .inr (3, [.ref aR, .ref aF])), (aF, .inr (0, [.int fn2_4, .int fz2_5, .int fv2_6, .int fc2_7]))]) hP hD [0, 1] [] rfl rfl (by decide) (by decide) hk1 hFc hP1 hD1
    have hP : va_P (dC, dI) vwCl [(aP, .inr (3, [.ref aR, .ref aF])), (aF, .inr (0, [.int fn2_4, .int fz2_5, .int fv2_6, .int fc2_7]))] H := hP
    have hD : va_D A [(aP, .inr (3, [.ref aR, .ref aF])), (aF, .inr (0, [.int fn2_4, .int fz2_5, .int fv2_6, .int fc2_7]))] := hD
    refine W.widen (k := 0) (n := 0) (by omega) (by omega) ?_
    try dsimp only at hw_3
    have hP9 := hP.sub (ws' := [(aP, .inr (3, [.ref aR, .ref aF])), (aF, .inr (0, [.int fn2_4, .int fz2_5, .int fv2_6, .int fc2_7]))]) [0, 1] rfl
    have hD9 := hD.sub (ws' := [(aP, .inr (3, [.ref aR, .ref aF])), (aF, .inr (0, [.int fn2_4, .int fz2_5, .int fv2_6, .int fc2_7]))]) [0, 1] (by decide) rfl
    have hK9 := hK.sub (tys' := []) [] rfl
    exact W.iret (v := r_2) hx hb hr (fun t ht hW => ⟨⟨r_2, (fn2_4, fz2_5, fv2_6, fc2_7), rfl, trivial, by rw [ht]; exact hP9, va_K.moved hW.alike hK9, hD9⟩, hS.F ht⟩) hS.2.2 dX3_count_50
  by_cases hs_8 : hd = 41
  · refine q_toc (y := 41) hs_8 ?_
    refine lv_tableIn (off := 50) (tgt := 51) hx hb dX3_count_1 (by decide) (by decide) (by decide) (by decide) ?_
    refine lv_aload_n hx hb dX3_count_51 rfl (lv_at hl 0 rfl) ?_
    refine lv_iload_n hx hb dX3_count_52 rfl (lv_at hl 2 rfl) ?_
    refine lv_iconst (v := (-1)) hx hb dX3_count_53 (by decide) ?_
    refine lv_ixor hx hb dX3_count_54 ?_
    refine lv_iload_n hx hb dX3_count_55 rfl (lv_at hl 3 rfl) ?_
    refine lv_iand hx hb dX3_count_56 ?_
    refine lv_iconst (v := 1) hx hb dX3_count_57 (by decide) ?_
    have hPc := hP.sub (ws' := [(aP, .inr (3, [.ref aR, .ref aF])), (aF, .inr (0, [.int fn, .int fz, .int fv, .int fc]))]) [0, 1] rfl
    have hDc := hD.sub (ws' := [(aP, .inr (3, [.ref aR, .ref aF])), (aF, .inr (0, [.int fn, .int fz, .int fv, .int fc]))]) [0, 1] (by decide) rfl
    have hKc := hK.sub (tys' := []) [] rfl
    have hFc := va_free (wc := [(aP, .inr (3, [.ref aR, .ref aF])), (aF, .inr (0, [.int fn, .int fz, .int fv, .int fc]))]) hD hS hA [0, 1] rfl
    refine va_calli (va_runV (C := RX3) (b := aP) (As := [.int ((v ^^^ (-1)) &&& k), .int 1]) (rest := []) ⟨hx, hb, hml, hown, hts⟩ (s_X3_withoutOverflow l dC dI s.heap.size aP ((v ^^^ (-1)) &&& k) (1 : Int32) aR aF fn fz fv fc (Or.inr rfl)) (cwV 2 hts gX3_count_X3_withoutOverflow rfl rfl rfl (by decide +kernel) ⟨Nat.le_of_ble_eq_true rfl, Nat.le_of_ble_eq_true rfl⟩) ⟨q_blind, va_recv hK hP (ci := 3) (q0 := 0) rfl rfl, fun U hU hW => ⟨rfl, q_pay hU hW hPc hKc hDc hN⟩⟩ rfl rfl hl.1 rfl (lv_room (Nat.le_of_ble_eq_true rfl)) dX3_count_58 ⟨show 0 + 0 ≤ 0 from by omega, show 0 + 0 ≤ 0 from by omega⟩) hS (fun q _ h => hFc q h) hFc (fun r_9 u9 t H locs ht hvm hw_10 hB hz1 hk1 hS => ?_)
    obtain ⟨fn2_11, fz2_12, fv2_13, fc2_14⟩ := u9
    obtain ⟨hP1, hK1, hD1⟩ := hB
    rw [ht] at hP1
    obtain ⟨hP, hD⟩ := va_join (wr := []) (w1 := [(aP, .inr (3, [.ref aR, .ref aF])), (aF, .inr (0, [.int fn2_11, .int fz2_12, .int fv2_13, .int fc2_14]))]) hP hD [0, 1] [] rfl rfl (by decide) (by decide) hk1 hFc hP1 hD1
    have hP : va_P (dC, dI) vwCl [(aP, .inr (3, [.ref aR, .ref aF])), (aF, .inr (0, [.int fn2_11, .int fz2_12, .int fv2_13, .int fc2_14]))] H := hP
    have hD : va_D A [(aP, .inr (3, [.ref aR, .ref aF])), (aF, .inr (0, [.int fn2_11, .int fz2_12, .int fv2_13, .int fc2_14]))] := hD
    refine W.widen (k := 0) (n := 0) (by omega) (by omega) ?_
    try dsimp only at hw_10
    have hP9 := hP.sub (ws' := [(aP, .inr (3, [.ref aR, .ref aF])), (aF, .inr (0, [.int fn2_11, .int fz2_12, .int fv2_13, .int fc2_14]))]) [0, 1] rfl
    have hD9 := hD.sub (ws' := [(aP, .inr (3, [.ref aR, .ref aF])), (aF, .inr (0, [.int fn2_11, .int fz2_12, .int fv2_13, .int fc2_14]))]) [0, 1] (by decide) rfl
    have hK9 := hK.sub (tys' := []) [] rfl
    exact W.iret (v := r_9) hx hb hr (fun t ht hW => ⟨⟨r_9, (fn2_11, fz2_12, fv2_13, fc2_14), rfl, trivial, by rw [ht]; exact hP9, va_K.moved hW.alike hK9, hD9⟩, hS.F ht⟩) hS.2.2 dX3_count_61
  by_cases hs_15 : hd = 42
  · refine q_toc (y := 42) hs_15 ?_
    refine lv_tableIn (off := 61) (tgt := 62) hx hb dX3_count_1 (by decide) (by decide) (by decide) (by decide) ?_
    refine lv_aload_n hx hb dX3_count_62 rfl (lv_at hl 0 rfl) ?_
    refine lv_iload_n hx hb dX3_count_63 rfl (lv_at hl 2 rfl) ?_
    refine lv_iload_n hx hb dX3_count_64 rfl (lv_at hl 3 rfl) ?_
    have hPc := hP.sub (ws' := [(aP, .inr (3, [.ref aR, .ref aF])), (aF, .inr (0, [.int fn, .int fz, .int fv, .int fc]))]) [0, 1] rfl
    have hDc := hD.sub (ws' := [(aP, .inr (3, [.ref aR, .ref aF])), (aF, .inr (0, [.int fn, .int fz, .int fv, .int fc]))]) [0, 1] (by decide) rfl
    have hKc := hK.sub (tys' := []) [] rfl
    have hFc := va_free (wc := [(aP, .inr (3, [.ref aR, .ref aF])), (aF, .inr (0, [.int fn, .int fz, .int fv, .int fc]))]) hD hS hA [0, 1] rfl
    refine va_calli (va_runV (C := RX3) (b := aP) (As := [.int v, .int k]) (rest := []) ⟨hx, hb, hml, hown, hts⟩ (s_X3_oneMore l dC dI s.heap.size aP v k aR aF fn fz fv fc) (cwV 2 hts gX3_count_X3_oneMore rfl rfl rfl (by decide +kernel) ⟨Nat.le_of_ble_eq_true rfl, Nat.le_of_ble_eq_true rfl⟩) ⟨q_blind, va_recv hK hP (ci := 3) (q0 := 0) rfl rfl, fun U hU hW => ⟨rfl, q_pay hU hW hPc hKc hDc hN⟩⟩ rfl rfl hl.1 rfl (lv_room (Nat.le_of_ble_eq_true rfl)) dX3_count_65 ⟨show 0 + 0 ≤ 0 from by omega, show 0 + 0 ≤ 0 from by omega⟩) hS (fun q _ h => hFc q h) hFc (fun r_16 u9 t H locs ht hvm hw_17 hB hz1 hk1 hS => ?_)
    obtain ⟨fn2_18, fz2_19, fv2_20, fc2_21⟩ := u9
    obtain ⟨hP1, hK1, hD1⟩ := hB
    rw [ht] at hP1
    obtain ⟨hP, hD⟩ := va_join (wr := []) (w1 := [(aP, .inr (3, [.ref aR, .ref aF])), (aF, .inr (0, [.int fn2_18, .int fz2_19, .int fv2_20, .int fc2_21]))]) hP hD [0, 1] [] rfl rfl (by decide) (by decide) hk1 hFc hP1 hD1
    have hP : va_P (dC, dI) vwCl [(aP, .inr (3, [.ref aR, .ref aF])), (aF, .inr (0, [.int fn2_18, .int fz2_19, .int fv2_20, .int fc2_21]))] H := hP
    have hD : va_D A [(aP, .inr (3, [.ref aR, .ref aF])), (aF, .inr (0, [.int fn2_18, .int fz2_19, .int fv2_20, .int fc2_21]))] := hD
    refine W.widen (k := 0) (n := 0) (by omega) (by omega) ?_
    try dsimp only at hw_17
    have hP9 := hP.sub (ws' := [(aP, .inr (3, [.ref aR, .ref aF])), (aF, .inr (0, [.int fn2_18, .int fz2_19, .int fv2_20, .int fc2_21]))]) [0, 1] rfl
    have hD9 := hD.sub (ws' := [(aP, .inr (3, [.ref aR, .ref aF])), (aF, .inr (0, [.int fn2_18, .int fz2_19, .int fv2_20, .int fc2_21]))]) [0, 1] (by decide) rfl
    have hK9 := hK.sub (tys' := []) [] rfl
    exact W.iret (v := r_16) hx hb hr (fun t ht hW => ⟨⟨r_16, (fn2_18, fz2_19, fv2_20, fc2_21), rfl, trivial, by rw [ht]; exact hP9, va_K.moved hW.alike hK9, hD9⟩, hS.F ht⟩) hS.2.2 dX3_count_68
  by_cases hs_22 : hd = 43
  · refine q_toc (y := 43) hs_22 ?_
    refine lv_tableIn (off := 68) (tgt := 69) hx hb dX3_count_1 (by decide) (by decide) (by decide) (by decide) ?_
    refine lv_aload_n hx hb dX3_count_69 rfl (lv_at hl 0 rfl) ?_
    refine lv_iload_n hx hb dX3_count_70 rfl (lv_at hl 2 rfl) ?_
    refine lv_iload_n hx hb dX3_count_71 rfl (lv_at hl 3 rfl) ?_
    have hPc := hP.sub (ws' := [(aP, .inr (3, [.ref aR, .ref aF])), (aF, .inr (0, [.int fn, .int fz, .int fv, .int fc]))]) [0, 1] rfl
    have hDc := hD.sub (ws' := [(aP, .inr (3, [.ref aR, .ref aF])), (aF, .inr (0, [.int fn, .int fz, .int fv, .int fc]))]) [0, 1] (by decide) rfl
    have hKc := hK.sub (tys' := []) [] rfl
    have hFc := va_free (wc := [(aP, .inr (3, [.ref aR, .ref aF])), (aF, .inr (0, [.int fn, .int fz, .int fv, .int fc]))]) hD hS hA [0, 1] rfl
    refine va_calli (va_runV (C := RX3) (b := aP) (As := [.int v, .int k]) (rest := []) ⟨hx, hb, hml, hown, hts⟩ (s_X3_oneLess l dC dI s.heap.size aP v k aR aF fn fz fv fc) (cwV 2 hts gX3_count_X3_oneLess rfl rfl rfl (by decide +kernel) ⟨Nat.le_of_ble_eq_true rfl, Nat.le_of_ble_eq_true rfl⟩) ⟨q_blind, va_recv hK hP (ci := 3) (q0 := 0) rfl rfl, fun U hU hW => ⟨rfl, q_pay hU hW hPc hKc hDc hN⟩⟩ rfl rfl hl.1 rfl (lv_room (Nat.le_of_ble_eq_true rfl)) dX3_count_72 ⟨show 0 + 0 ≤ 0 from by omega, show 0 + 0 ≤ 0 from by omega⟩) hS (fun q _ h => hFc q h) hFc (fun r_23 u9 t H locs ht hvm hw_24 hB hz1 hk1 hS => ?_)
    obtain ⟨fn2_25, fz2_26, fv2_27, fc2_28⟩ := u9
    obtain ⟨hP1, hK1, hD1⟩ := hB
    rw [ht] at hP1
    obtain ⟨hP, hD⟩ := va_join (wr := []) (w1 := [(aP, .inr (3, [.ref aR, .ref aF])), (aF, .inr (0, [.int fn2_25, .int fz2_26, .int fv2_27, .int fc2_28]))]) hP hD [0, 1] [] rfl rfl (by decide) (by decide) hk1 hFc hP1 hD1
    have hP : va_P (dC, dI) vwCl [(aP, .inr (3, [.ref aR, .ref aF])), (aF, .inr (0, [.int fn2_25, .int fz2_26, .int fv2_27, .int fc2_28]))] H := hP
    have hD : va_D A [(aP, .inr (3, [.ref aR, .ref aF])), (aF, .inr (0, [.int fn2_25, .int fz2_26, .int fv2_27, .int fc2_28]))] := hD
    refine W.widen (k := 0) (n := 0) (by omega) (by omega) ?_
    try dsimp only at hw_24
    have hP9 := hP.sub (ws' := [(aP, .inr (3, [.ref aR, .ref aF])), (aF, .inr (0, [.int fn2_25, .int fz2_26, .int fv2_27, .int fc2_28]))]) [0, 1] rfl
    have hD9 := hD.sub (ws' := [(aP, .inr (3, [.ref aR, .ref aF])), (aF, .inr (0, [.int fn2_25, .int fz2_26, .int fv2_27, .int fc2_28]))]) [0, 1] (by decide) rfl
    have hK9 := hK.sub (tys' := []) [] rfl
    exact W.iret (v := r_23) hx hb hr (fun t ht hW => ⟨⟨r_23, (fn2_25, fz2_26, fv2_27, fc2_28), rfl, trivial, by rw [ht]; exact hP9, va_K.moved hW.alike hK9, hD9⟩, hS.F ht⟩) hS.2.2 dX3_count_75
  by_cases hs_29 : hd = 44
  · refine q_toc (y := 44) hs_29 ?_
    refine lv_tableIn (off := 75) (tgt := 76) hx hb dX3_count_1 (by decide) (by decide) (by decide) (by decide) ?_
    refine lv_aload_n hx hb dX3_count_76 rfl (lv_at hl 0 rfl) ?_
    refine lv_iload_n hx hb dX3_count_77 rfl (lv_at hl 2 rfl) ?_
    refine lv_iload_n hx hb dX3_count_78 rfl (lv_at hl 3 rfl) ?_
    have hPc := hP.sub (ws' := [(aP, .inr (3, [.ref aR, .ref aF])), (aF, .inr (0, [.int fn, .int fz, .int fv, .int fc]))]) [0, 1] rfl
    have hDc := hD.sub (ws' := [(aP, .inr (3, [.ref aR, .ref aF])), (aF, .inr (0, [.int fn, .int fz, .int fv, .int fc]))]) [0, 1] (by decide) rfl
    have hKc := hK.sub (tys' := []) [] rfl
    have hFc := va_free (wc := [(aP, .inr (3, [.ref aR, .ref aF])), (aF, .inr (0, [.int fn, .int fz, .int fv, .int fc]))]) hD hS hA [0, 1] rfl
    refine va_calli (va_runV (C := RX3) (b := aP) (As := [.int v, .int k]) (rest := []) ⟨hx, hb, hml, hown, hts⟩ (s_X3_minus l dC dI s.heap.size aP v k aR aF fn fz fv fc) (cwV 2 hts gX3_count_X3_minus rfl rfl rfl (by decide +kernel) ⟨Nat.le_of_ble_eq_true rfl, Nat.le_of_ble_eq_true rfl⟩) ⟨q_blind, va_recv hK hP (ci := 3) (q0 := 0) rfl rfl, fun U hU hW => ⟨rfl, q_pay hU hW hPc hKc hDc hN⟩⟩ rfl rfl hl.1 rfl (lv_room (Nat.le_of_ble_eq_true rfl)) dX3_count_79 ⟨show 0 + 0 ≤ 0 from by omega, show 0 + 0 ≤ 0 from by omega⟩) hS (fun q _ h => hFc q h) hFc (fun r_30 u9 t H locs ht hvm hw_31 hB hz1 hk1 hS => ?_)
    obtain ⟨fn2_32, fz2_33, fv2_34, fc2_35⟩ := u9
    obtain ⟨hP1, hK1, hD1⟩ := hB
    rw [ht] at hP1
    obtain ⟨hP, hD⟩ := va_join (wr := []) (w1 := [(aP, .inr (3, [.ref aR, .ref aF])), (aF, .inr (0, [.int fn2_32, .int fz2_33, .int fv2_34, .int fc2_35]))]) hP hD [0, 1] [] rfl rfl (by decide) (by decide) hk1 hFc hP1 hD1
    have hP : va_P (dC, dI) vwCl [(aP, .inr (3, [.ref aR, .ref aF])), (aF, .inr (0, [.int fn2_32, .int fz2_33, .int fv2_34, .int fc2_35]))] H := hP
    have hD : va_D A [(aP, .inr (3, [.ref aR, .ref aF])), (aF, .inr (0, [.int fn2_32, .int fz2_33, .int fv2_34, .int fc2_35]))] := hD
    refine W.widen (k := 0) (n := 0) (by omega) (by omega) ?_
    try dsimp only at hw_31
    have hP9 := hP.sub (ws' := [(aP, .inr (3, [.ref aR, .ref aF])), (aF, .inr (0, [.int fn2_32, .int fz2_33, .int fv2_34, .int fc2_35]))]) [0, 1] rfl
    have hD9 := hD.sub (ws' := [(aP, .inr (3, [.ref aR, .ref aF])), (aF, .inr (0, [.int fn2_32, .int fz2_33, .int fv2_34, .int fc2_35]))]) [0, 1] (by decide) rfl
    have hK9 := hK.sub (tys' := []) [] rfl
    exact W.iret (v := r_30) hx hb hr (fun t ht hW => ⟨⟨r_30, (fn2_32, fz2_33, fv2_34, fc2_35), rfl, trivial, by rw [ht]; exact hP9, va_K.moved hW.alike hK9, hD9⟩, hS.F ht⟩) hS.2.2 dX3_count_82
  by_cases hs_36 : hd = 45
  · refine q_toc (y := 45) hs_36 ?_
    refine lv_tableIn (off := 82) (tgt := 83) hx hb dX3_count_1 (by decide) (by decide) (by decide) (by decide) ?_
    refine lv_aload_n hx hb dX3_count_83 rfl (lv_at hl 0 rfl) ?_
    refine lv_iload_n hx hb dX3_count_84 rfl (lv_at hl 2 rfl) ?_
    refine lv_iload_n hx hb dX3_count_85 rfl (lv_at hl 3 rfl) ?_
    have hPc := hP.sub (ws' := [(aP, .inr (3, [.ref aR, .ref aF])), (aF, .inr (0, [.int fn, .int fz, .int fv, .int fc]))]) [0, 1] rfl
    have hDc := hD.sub (ws' := [(aP, .inr (3, [.ref aR, .ref aF])), (aF, .inr (0, [.int fn, .int fz, .int fv, .int fc]))]) [0, 1] (by decide) rfl
    have hKc := hK.sub (tys' := []) [] rfl
    have hFc := va_free (wc := [(aP, .inr (3, [.ref aR, .ref aF])), (aF, .inr (0, [.int fn, .int fz, .int fv, .int fc]))]) hD hS hA [0, 1] rfl
    refine va_calli (va_runV (C := RX3) (b := aP) (As := [.int v, .int k]) (rest := []) ⟨hx, hb, hml, hown, hts⟩ (s_X3_carryMore l dC dI s.heap.size aP v k aR aF fn fz fv fc) (cwV 2 hts gX3_count_X3_carryMore rfl rfl rfl (by decide +kernel) ⟨Nat.le_of_ble_eq_true rfl, Nat.le_of_ble_eq_true rfl⟩) ⟨q_blind, va_recv hK hP (ci := 3) (q0 := 0) rfl rfl, fun U hU hW => ⟨rfl, q_pay hU hW hPc hKc hDc hN⟩⟩ rfl rfl hl.1 rfl (lv_room (Nat.le_of_ble_eq_true rfl)) dX3_count_86 ⟨show 0 + 0 ≤ 0 from by omega, show 0 + 0 ≤ 0 from by omega⟩) hS (fun q _ h => hFc q h) hFc (fun r_37 u9 t H locs ht hvm hw_38 hB hz1 hk1 hS => ?_)
    obtain ⟨fn2_39, fz2_40, fv2_41, fc2_42⟩ := u9
    obtain ⟨hP1, hK1, hD1⟩ := hB
    rw [ht] at hP1
    obtain ⟨hP, hD⟩ := va_join (wr := []) (w1 := [(aP, .inr (3, [.ref aR, .ref aF])), (aF, .inr (0, [.int fn2_39, .int fz2_40, .int fv2_41, .int fc2_42]))]) hP hD [0, 1] [] rfl rfl (by decide) (by decide) hk1 hFc hP1 hD1
    have hP : va_P (dC, dI) vwCl [(aP, .inr (3, [.ref aR, .ref aF])), (aF, .inr (0, [.int fn2_39, .int fz2_40, .int fv2_41, .int fc2_42]))] H := hP
    have hD : va_D A [(aP, .inr (3, [.ref aR, .ref aF])), (aF, .inr (0, [.int fn2_39, .int fz2_40, .int fv2_41, .int fc2_42]))] := hD
    refine W.widen (k := 0) (n := 0) (by omega) (by omega) ?_
    try dsimp only at hw_38
    have hP9 := hP.sub (ws' := [(aP, .inr (3, [.ref aR, .ref aF])), (aF, .inr (0, [.int fn2_39, .int fz2_40, .int fv2_41, .int fc2_42]))]) [0, 1] rfl
    have hD9 := hD.sub (ws' := [(aP, .inr (3, [.ref aR, .ref aF])), (aF, .inr (0, [.int fn2_39, .int fz2_40, .int fv2_41, .int fc2_42]))]) [0, 1] (by decide) rfl
    have hK9 := hK.sub (tys' := []) [] rfl
    exact W.iret (v := r_37) hx hb hr (fun t ht hW => ⟨⟨r_37, (fn2_39, fz2_40, fv2_41, fc2_42), rfl, trivial, by rw [ht]; exact hP9, va_K.moved hW.alike hK9, hD9⟩, hS.F ht⟩) hS.2.2 dX3_count_89
  by_cases hs_43 : hd = 46
  · refine q_toc (y := 46) hs_43 ?_
    refine lv_tableIn (off := 89) (tgt := 90) hx hb dX3_count_1 (by decide) (by decide) (by decide) (by decide) ?_
    refine lv_aload_n hx hb dX3_count_90 rfl (lv_at hl 0 rfl) ?_
    refine lv_iload_n hx hb dX3_count_91 rfl (lv_at hl 2 rfl) ?_
    refine lv_iload_n hx hb dX3_count_92 rfl (lv_at hl 3 rfl) ?_
    have hPc := hP.sub (ws' := [(aP, .inr (3, [.ref aR, .ref aF])), (aF, .inr (0, [.int fn, .int fz, .int fv, .int fc]))]) [0, 1] rfl
    have hDc := hD.sub (ws' := [(aP, .inr (3, [.ref aR, .ref aF])), (aF, .inr (0, [.int fn, .int fz, .int fv, .int fc]))]) [0, 1] (by decide) rfl
    have hKc := hK.sub (tys' := []) [] rfl
    have hFc := va_free (wc := [(aP, .inr (3, [.ref aR, .ref aF])), (aF, .inr (0, [.int fn, .int fz, .int fv, .int fc]))]) hD hS hA [0, 1] rfl
    refine va_calli (va_runV (C := RX3) (b := aP) (As := [.int v, .int k]) (rest := []) ⟨hx, hb, hml, hown, hts⟩ (s_X3_carryLess l dC dI s.heap.size aP v k aR aF fn fz fv fc) (cwV 2 hts gX3_count_X3_carryLess rfl rfl rfl (by decide +kernel) ⟨Nat.le_of_ble_eq_true rfl, Nat.le_of_ble_eq_true rfl⟩) ⟨q_blind, va_recv hK hP (ci := 3) (q0 := 0) rfl rfl, fun U hU hW => ⟨rfl, q_pay hU hW hPc hKc hDc hN⟩⟩ rfl rfl hl.1 rfl (lv_room (Nat.le_of_ble_eq_true rfl)) dX3_count_93 ⟨show 0 + 0 ≤ 0 from by omega, show 0 + 0 ≤ 0 from by omega⟩) hS (fun q _ h => hFc q h) hFc (fun r_44 u9 t H locs ht hvm hw_45 hB hz1 hk1 hS => ?_)
    obtain ⟨fn2_46, fz2_47, fv2_48, fc2_49⟩ := u9
    obtain ⟨hP1, hK1, hD1⟩ := hB
    rw [ht] at hP1
    obtain ⟨hP, hD⟩ := va_join (wr := []) (w1 := [(aP, .inr (3, [.ref aR, .ref aF])), (aF, .inr (0, [.int fn2_46, .int fz2_47, .int fv2_48, .int fc2_49]))]) hP hD [0, 1] [] rfl rfl (by decide) (by decide) hk1 hFc hP1 hD1
    have hP : va_P (dC, dI) vwCl [(aP, .inr (3, [.ref aR, .ref aF])), (aF, .inr (0, [.int fn2_46, .int fz2_47, .int fv2_48, .int fc2_49]))] H := hP
    have hD : va_D A [(aP, .inr (3, [.ref aR, .ref aF])), (aF, .inr (0, [.int fn2_46, .int fz2_47, .int fv2_48, .int fc2_49]))] := hD
    refine W.widen (k := 0) (n := 0) (by omega) (by omega) ?_
    try dsimp only at hw_45
    have hP9 := hP.sub (ws' := [(aP, .inr (3, [.ref aR, .ref aF])), (aF, .inr (0, [.int fn2_46, .int fz2_47, .int fv2_48, .int fc2_49]))]) [0, 1] rfl
    have hD9 := hD.sub (ws' := [(aP, .inr (3, [.ref aR, .ref aF])), (aF, .inr (0, [.int fn2_46, .int fz2_47, .int fv2_48, .int fc2_49]))]) [0, 1] (by decide) rfl
    have hK9 := hK.sub (tys' := []) [] rfl
    exact W.iret (v := r_44) hx hb hr (fun t ht hW => ⟨⟨r_44, (fn2_46, fz2_47, fv2_48, fc2_49), rfl, trivial, by rw [ht]; exact hP9, va_K.moved hW.alike hK9, hD9⟩, hS.F ht⟩) hS.2.2 dX3_count_96
  refine lv_tableOut (tgt := 97) hx hb dX3_count_1 (by have n40 := lv_neT hs_1 (show (40 : Int32).toInt = 40 from rfl); have n41 := lv_neT hs_8 (show (41 : Int32).toInt = 41 from rfl); have n42 := lv_neT hs_15 (show (42 : Int32).toInt = 42 from rfl); have n43 := lv_neT hs_22 (show (43 : Int32).toInt = 43 from rfl); have n44 := lv_neT hs_29 (show (44 : Int32).toInt = 44 from rfl); have n45 := lv_neT hs_36 (show (45 : Int32).toInt = 45 from rfl); have n46 := lv_neT hs_43 (show (46 : Int32).toInt = 46 from rfl); omega) (by decide) ?_
  refine lv_aload_n hx hb dX3_count_97 rfl (lv_at hl 0 rfl) ?_
  refine lv_iload_n hx hb dX3_count_98 rfl (lv_at hl 2 rfl) ?_
  refine lv_iconst (v := 0) hx hb dX3_count_99 (by decide) ?_
  have hPc := hP.sub (ws' := [(aP, .inr (3, [.ref aR, .ref aF])), (aF, .inr (0, [.int fn, .int fz, .int fv, .int fc]))]) [0, 1] rfl
  have hDc := hD.sub (ws' := [(aP, .inr (3, [.ref aR, .ref aF])), (aF, .inr (0, [.int fn, .int fz, .int fv, .int fc]))]) [0, 1] (by decide) rfl
  have hKc := hK.sub (tys' := []) [] rfl
  have hFc := va_free (wc := [(aP, .inr (3, [.ref aR, .ref aF])), (aF, .inr (0, [.int fn, .int fz, .int fv, .int fc]))]) hD hS hA [0, 1] rfl
  refine va_calli (va_runV (C := RX3) (b := aP) (As := [.int v, .int 0]) (rest := []) ⟨hx, hb, hml, hown, hts⟩ (s_X3_withoutOverflow l dC dI s.heap.size aP v (0 : Int32) aR aF fn fz fv fc (Or.inl rfl)) (cwV 2 hts gX3_count_X3_withoutOverflow rfl rfl rfl (by decide +kernel) ⟨Nat.le_of_ble_eq_true rfl, Nat.le_of_ble_eq_true rfl⟩) ⟨q_blind, va_recv hK hP (ci := 3) (q0 := 0) rfl rfl, fun U hU hW => ⟨rfl, q_pay hU hW hPc hKc hDc hN⟩⟩ rfl rfl hl.1 rfl (lv_room (Nat.le_of_ble_eq_true rfl)) dX3_count_100 ⟨show 0 + 0 ≤ 0 from by omega, show 0 + 0 ≤ 0 from by omega⟩) hS (fun q _ h => hFc q h) hFc (fun r_50 u9 t H locs ht hvm hw_51 hB hz1 hk1 hS => ?_)
  obtain ⟨fn2_52, fz2_53, fv2_54, fc2_55⟩ := u9
  obtain ⟨hP1, hK1, hD1⟩ := hB
  rw [ht] at hP1
  obtain ⟨hP, hD⟩ := va_join (wr := []) (w1 := [(aP, .inr (3, [.ref aR, .ref aF])), (aF, .inr (0, [.int fn2_52, .int fz2_53, .int fv2_54, .int fc2_55]))]) hP hD [0, 1] [] rfl rfl (by decide) (by decide) hk1 hFc hP1 hD1
  have hP : va_P (dC, dI) vwCl [(aP, .inr (3, [.ref aR, .ref aF])), (aF, .inr (0, [.int fn2_52, .int fz2_53, .int fv2_54, .int fc2_55]))] H := hP
  have hD : va_D A [(aP, .inr (3, [.ref aR, .ref aF])), (aF, .inr (0, [.int fn2_52, .int fz2_53, .int fv2_54, .int fc2_55]))] := hD
  refine W.widen (k := 0) (n := 0) (by omega) (by omega) ?_
  try dsimp only at hw_51
  have hP9 := hP.sub (ws' := [(aP, .inr (3, [.ref aR, .ref aF])), (aF, .inr (0, [.int fn2_52, .int fz2_53, .int fv2_54, .int fc2_55]))]) [0, 1] rfl
  have hD9 := hD.sub (ws' := [(aP, .inr (3, [.ref aR, .ref aF])), (aF, .inr (0, [.int fn2_52, .int fz2_53, .int fv2_54, .int fc2_55]))]) [0, 1] (by decide) rfl
  have hK9 := hK.sub (tys' := []) [] rfl
  exact W.iret (v := r_50) hx hb hr (fun t ht hW => ⟨⟨r_50, (fn2_52, fz2_53, fv2_54, fc2_55), rfl, trivial, by rw [ht]; exact hP9, va_K.moved hW.alike hK9, hD9⟩, hS.F ht⟩) hS.2.2 dX3_count_103
set_option maxHeartbeats 4000000 in
set_option maxRecDepth 100000 in
theorem s_X3_shiftByOne (l : Launch) (dC : Nat → ClassId) (dI : Nat → Nat → Nat) (sz : Nat) (aP : Nat) (hd : Int32) (v : Int32) (k : Int32) (aR : Nat) (aF : Nat) (fn : Int32) (fz : Int32) (fv : Int32) (fc : Int32)  : Met l yX3_shiftByOne wsX3_shiftByOne ({ frames := 1, cells := 0, slots := 0, locals := 20 }) (va_Pc [.ref aP, .int hd, .int v, .int k] (q_pre dC dI sz [(aP, .inr (3, [.ref aR, .ref aF])), (aF, .inr (0, [.int fn, .int fz, .int fv, .int fc]))] [])) (va_Qi (fun (r : Int32) (u9 : Int32 × Int32 × Int32 × Int32) => True) (q_at dC dI (va_A [(aP, .inr (3, [.ref aR, .ref aF])), (aF, .inr (0, [.int fn, .int fz, .int fv, .int fc]))] sz) (fun (u9 : Int32 × Int32 × Int32 × Int32) => []) (fun (u9 : Int32 × Int32 × Int32 × Int32) => [(aP, .inr (3, [.ref aR, .ref aF])), (aF, .inr (0, [.int u9.1, .int u9.2.1, .int u9.2.2.1, .int u9.2.2.2]))])) (va_A [(aP, .inr (3, [.ref aR, .ref aF])), (aF, .inr (0, [.int fn, .int fz, .int fv, .int fc]))] sz)) 0 0 (va_A [(aP, .inr (3, [.ref aR, .ref aF])), (aF, .inr (0, [.int fn, .int fz, .int fv, .int fc]))] sz) := by
  refine Met.ofW (cc := cX3_shiftByOne) (maxL := 7) (ret := (some .int)) (by decide) rfl ?_
  intro p e s m args below meth c s₁ B hml hv
  obtain ⟨rfl, hsz, hP, hK, hD0, hN⟩ := hv
  have hx := B.exec
  have hb := B.bytes
  have hr := B.returns
  have hts := atoms_spec (ws := wsX3_shiftByOne) B.pre
  have hown : s.vm.findClass RX3 = some m.cls := findClass_of_methodNamed B.named
  have hlocks := B.notSynchronized
  subst hsz
  have hD := hD0.self (sz := s.heap.size)
  generalize hAe : va_A [(aP, .inr (3, [.ref aR, .ref aF])), (aF, .inr (0, [.int fn, .int fz, .int fv, .int fc]))] s.heap.size = A at hD ⊢
  have hA : ∀ q : Nat, s.heap.size ≤ q → A q := fun q h => by rw [← hAe]; exact Or.inr h
  have hS : va_S A s.heap s.heap [] := va_S.rf
  have hP : va_P (dC, dI) vwCl [(aP, .inr (3, [.ref aR, .ref aF])), (aF, .inr (0, [.int fn, .int fz, .int fv, .int fc]))] s.heap := hP
  have hl := lv_entry ([.ref aP, .int hd, .int v, .int k]) (n := 7) (Nat.le_of_ble_eq_true rfl)
  rw [lg_entry_eq]
  generalize (lg_sl ([.ref aP, .int hd, .int v, .int k]) ++ List.replicate (7 - (lg_sl ([.ref aP, .int hd, .int v, .int k])).length) Slot.unset).toArray = ls at hl ⊢
  have hl : lv_has ls 7 [(0, .ref aP), (1, .int hd), (2, .int v), (3, .int k)] := hl
  refine lv_iload_n hx hb dX3_shiftByOne_0 rfl (lv_at hl 3 rfl) ?_
  have hPc := hP.sub (ws' := []) [] rfl
  have hDc := hD.sub (ws' := []) [] (by decide) rfl
  have hKc := hK.sub (tys' := []) [] rfl
  have hFc := va_free (wc := []) hD hS hA [] rfl
  refine va_calli (va_runSN (As := [.int k]) (rest := []) ⟨hx, hb, hml, hown, hts⟩ (s_X4_signOf l dC dI s.heap.size k) ⟨va_cnB 1 hts gX3_shiftByOne_X4_signOf_n105 rfl rfl rfl (hN _ (List.mem_of_getElem? (i := 13) rfl)) (hts (.initialized RX4) (by decide +kernel)) (by decide +kernel) ⟨Nat.le_of_ble_eq_true rfl, Nat.le_of_ble_eq_true rfl⟩, hts (.static yX4_signOf) (by decide +kernel), trivial⟩ ⟨q_blind, fun U hU hW => ⟨rfl, q_pay hU hW hPc hKc hDc hN⟩⟩ rfl rfl hl.1 rfl (lv_room (Nat.le_of_ble_eq_true rfl)) dX3_shiftByOne_1 ⟨show 0 + 0 ≤ 0 from by omega, show 0 + 0 ≤ 0 from by omega⟩) hS (fun q _ h => hFc q h) hFc (fun r_1 u9 t H locs ht hvm hw_2 hB hz1 hk1 hS => ?_)
  obtain ⟨hP1, hK1, hD1⟩ := hB
  rw [ht] at hP1
  obtain ⟨hP, hD⟩ := va_join (wr := [(aP, .inr (3, [.ref aR, .ref aF])), (aF, .inr (0, [.int fn, .int fz, .int fv, .int fc]))]) (w1 := []) hP hD [] [0, 1] rfl rfl (by decide) (by decide) hk1 hFc hP1 hD1
  have hP : va_P (dC, dI) vwCl [(aP, .inr (3, [.ref aR, .ref aF])), (aF, .inr (0, [.int fn, .int fz, .int fv, .int fc]))] H := hP
  have hD : va_D A [(aP, .inr (3, [.ref aR, .ref aF])), (aF, .inr (0, [.int fn, .int fz, .int fv, .int fc]))] := hD
  refine W.widen (k := 0) (n := 0) (by omega) (by omega) ?_
  try dsimp only at hw_2
  refine lv_istore (lv' := [(4, .int r_1), (0, .ref aP), (1, .int hd), (2, .int v), (3, .int k)]) hx hb dX3_shiftByOne_4 hl (by decide) rfl (fun ls hl => ?_)
  refine lv_aload_n hx hb dX3_shiftByOne_6 rfl (lv_at hl 1 rfl) ?_
  refine va_get (D := (dC, dI)) (ci := 3) (v := .ref aF) (C := RX3) (T := TX3) (N := 2) hx hb hts (by decide +kernel) hown hK hP 0 rfl rfl 1 (by decide) (hts (.fieldLink RX3 12 "WordGuest$Processor" "conditions" "LWordGuest$Flags;") (by decide +kernel)) (fun _ h9 => h9) rfl dX3_shiftByOne_7 ?_
  refine va_getN (D := (dC, dI)) (ci := 0) (v := .int fc) (C := RX0) (T := TX0) (N := 4) hx hb hts (by decide +kernel) hown hK hP 1 rfl rfl 3 (by decide) ((va_Nw.use rfl (hN _ (List.mem_of_getElem? (i := 7) rfl)))) (fun _ h9 => h9) rfl dX3_shiftByOne_10 ?_
  refine lv_istore (lv' := [(5, .int fc), (4, .int r_1), (0, .ref aP), (1, .int hd), (2, .int v), (3, .int k)]) hx hb dX3_shiftByOne_13 hl (by decide) rfl (fun ls hl => ?_)
  refine lv_iload_n hx hb dX3_shiftByOne_15 rfl (lv_at hl 3 rfl) ?_
  refine lv_bipush (v := 49) hx hb dX3_shiftByOne_16 (by decide) ?_
  refine lv_icmp_eq (tgt := 27) hx hb dX3_shiftByOne_18 (by decide) (fun c_3 => ?_) (fun c_3 => ?_)
  · refine lv_iconst (v := 1) hx hb dX3_shiftByOne_27 (by decide) ?_
    refine lv_goto (tgt := 32) hx hb dX3_shiftByOne_28 (by decide) ?_
    refine lv_istore (lv' := [(6, .int 1), (5, .int fc), (4, .int r_1), (0, .ref aP), (1, .int hd), (2, .int v), (3, .int k)]) hx hb dX3_shiftByOne_32 hl (by decide) rfl (fun ls hl => ?_)
    refine lv_aload_n hx hb dX3_shiftByOne_34 rfl (lv_at hl 3 rfl) ?_
    refine va_get (D := (dC, dI)) (ci := 3) (v := .ref aF) (C := RX3) (T := TX3) (N := 2) hx hb hts (by decide +kernel) hown hK hP 0 rfl rfl 1 (by decide) (hts (.fieldLink RX3 12 "WordGuest$Processor" "conditions" "LWordGuest$Flags;") (by decide +kernel)) (fun _ h9 => h9) rfl dX3_shiftByOne_35 ?_
    refine lv_iload_n hx hb dX3_shiftByOne_38 rfl (lv_at hl 5 rfl) ?_
    refine lv_iload hx hb dX3_shiftByOne_39 (lv_at hl 0 rfl) ?_
    refine lv_if_eq (tgt := 49) hx hb dX3_shiftByOne_41 (by decide) (fun c9 => absurd c9 (by decide)) (fun c_4 => ?_)
    refine lv_iload hx hb dX3_shiftByOne_44 (lv_at hl 2 rfl) ?_
    refine lv_goto (tgt := 50) hx hb dX3_shiftByOne_46 (by decide) ?_
    refine lv_iand hx hb dX3_shiftByOne_50 ?_
    refine q_bool (ls := ls) 59 [.ref aF] (fun b_6 hb_7 => ?_) (fun jn => ?_)
    · refine va_putN (D := (dC, dI)) (ci := 0) (v := .int b_6) (ty := .boolean) (C := RX0) (T := TX0) (N := 4) hx hb hts (by decide +kernel) tyX0 tyX0_ok nmX0 hown hK hP hD hS 1 rfl rfl 3 (by decide) ((va_Nw.use rfl (hN _ (List.mem_of_getElem? (i := 7) rfl)))) (fun _ h9 => h9) rfl (by decide +kernel) (q_nz hb_7) (q_fz hb_7) (Nat.le_of_ble_eq_true rfl) dX3_shiftByOne_59 (fun H locs hP hD hS => ?_)
      have hP : va_P (dC, dI) vwCl [(aP, .inr (3, [.ref aR, .ref aF])), (aF, .inr (0, [.int fn, .int fz, .int fv, .int b_6]))] H := hP
      have hD : va_D A [(aP, .inr (3, [.ref aR, .ref aF])), (aF, .inr (0, [.int fn, .int fz, .int fv, .int b_6]))] := hD
      refine lv_iload_n hx hb dX3_shiftByOne_62 rfl (lv_at hl 4 rfl) ?_
      by_cases hs_8 : hd = 48
      · refine q_toc (y := 48) hs_8 ?_
        refine lv_tableIn (off := 25) (tgt := 88) hx hb dX3_shiftByOne_63 (by decide) (by decide) (by decide) (by decide) ?_
        refine lv_iload_n hx hb dX3_shiftByOne_88 rfl (lv_at hl 5 rfl) ?_
        refine lv_iconst (v := 1) hx hb dX3_shiftByOne_89 (by decide) ?_
        refine lv_ishr hx hb dX3_shiftByOne_90 ?_
        refine lv_iload hx hb dX3_shiftByOne_91 (lv_at hl 1 rfl) ?_
        refine q_any (ls := ls) 102 [.int (v >>> (1 &&& 31))] (fun b_10 => ?_) (fun jn => ?_)
        · refine lv_ior hx hb dX3_shiftByOne_102 ?_
          have hP9 := hP.sub (ws' := [(aP, .inr (3, [.ref aR, .ref aF])), (aF, .inr (0, [.int fn, .int fz, .int fv, .int b_6]))]) [0, 1] rfl
          have hD9 := hD.sub (ws' := [(aP, .inr (3, [.ref aR, .ref aF])), (aF, .inr (0, [.int fn, .int fz, .int fv, .int b_6]))]) [0, 1] (by decide) rfl
          have hK9 := hK.sub (tys' := []) [] rfl
          exact W.iret (v := (v >>> (1 &&& 31)) ||| b_10) hx hb hr (fun t ht hW => ⟨⟨(v >>> (1 &&& 31)) ||| b_10, (fn, fz, fv, b_6), rfl, trivial, by rw [ht]; exact hP9, va_K.moved hW.alike hK9, hD9⟩, hS.F ht⟩) hS.2.2 dX3_shiftByOne_103
        refine lv_if_eq (tgt := 101) hx hb dX3_shiftByOne_93 (by decide) (fun c_9 => ?_) (fun c_9 => ?_)
        · refine lv_iconst (v := 0) hx hb dX3_shiftByOne_101 (by decide) ?_
          exact jn _
        · refine lv_iload hx hb dX3_shiftByOne_96 (lv_at hl 2 rfl) ?_
          refine lv_goto (tgt := 102) hx hb dX3_shiftByOne_98 (by decide) ?_
          exact jn _
      by_cases hs_12 : hd = 49
      · refine q_toc (y := 49) hs_12 ?_
        refine lv_tableIn (off := 41) (tgt := 104) hx hb dX3_shiftByOne_63 (by decide) (by decide) (by decide) (by decide) ?_
        refine lv_iload_n hx hb dX3_shiftByOne_104 rfl (lv_at hl 5 rfl) ?_
        refine lv_iconst (v := 1) hx hb dX3_shiftByOne_105 (by decide) ?_
        refine lv_ishl hx hb dX3_shiftByOne_106 ?_
        refine lv_iload_n hx hb dX3_shiftByOne_107 rfl (lv_at hl 6 rfl) ?_
        refine lv_iand hx hb dX3_shiftByOne_108 ?_
        refine lv_iload hx hb dX3_shiftByOne_109 (lv_at hl 1 rfl) ?_
        refine q_bool (ls := ls) 119 [.int ((v <<< (1 &&& 31)) &&& k)] (fun b_14 hb_15 => ?_) (fun jn => ?_)
        · refine lv_ior hx hb dX3_shiftByOne_119 ?_
          have hP9 := hP.sub (ws' := [(aP, .inr (3, [.ref aR, .ref aF])), (aF, .inr (0, [.int fn, .int fz, .int fv, .int b_6]))]) [0, 1] rfl
          have hD9 := hD.sub (ws' := [(aP, .inr (3, [.ref aR, .ref aF])), (aF, .inr (0, [.int fn, .int fz, .int fv, .int b_6]))]) [0, 1] (by decide) rfl
          have hK9 := hK.sub (tys' := []) [] rfl
          exact W.iret (v := ((v <<< (1 &&& 31)) &&& k) ||| b_14) hx hb hr (fun t ht hW => ⟨⟨((v <<< (1 &&& 31)) &&& k) ||| b_14, (fn, fz, fv, b_6), rfl, trivial, by rw [ht]; exact hP9, va_K.moved hW.alike hK9, hD9⟩, hS.F ht⟩) hS.2.2 dX3_shiftByOne_120
        refine lv_if_eq (tgt := 118) hx hb dX3_shiftByOne_111 (by decide) (fun c_13 => ?_) (fun c_13 => ?_)
        · refine lv_iconst (v := 0) hx hb dX3_shiftByOne_118 (by decide) ?_
          exact jn _ (Or.inl rfl)
        · refine lv_iconst (v := 1) hx hb dX3_shiftByOne_114 (by decide) ?_
          refine lv_goto (tgt := 119) hx hb dX3_shiftByOne_115 (by decide) ?_
          exact jn _ (Or.inr rfl)
      by_cases hs_16 : hd = 50
      · refine q_toc (y := 50) hs_16 ?_
        refine lv_tableIn (off := 58) (tgt := 121) hx hb dX3_shiftByOne_63 (by decide) (by decide) (by decide) (by decide) ?_
        refine lv_iload_n hx hb dX3_shiftByOne_121 rfl (lv_at hl 5 rfl) ?_
        refine lv_iconst (v := 1) hx hb dX3_shiftByOne_122 (by decide) ?_
        refine lv_ishr hx hb dX3_shiftByOne_123 ?_
        refine lv_iload_n hx hb dX3_shiftByOne_124 rfl (lv_at hl 5 rfl) ?_
        refine lv_iload hx hb dX3_shiftByOne_125 (lv_at hl 2 rfl) ?_
        refine lv_iand hx hb dX3_shiftByOne_127 ?_
        refine lv_ior hx hb dX3_shiftByOne_128 ?_
        have hP9 := hP.sub (ws' := [(aP, .inr (3, [.ref aR, .ref aF])), (aF, .inr (0, [.int fn, .int fz, .int fv, .int b_6]))]) [0, 1] rfl
        have hD9 := hD.sub (ws' := [(aP, .inr (3, [.ref aR, .ref aF])), (aF, .inr (0, [.int fn, .int fz, .int fv, .int b_6]))]) [0, 1] (by decide) rfl
        have hK9 := hK.sub (tys' := []) [] rfl
        exact W.iret (v := (v >>> (1 &&& 31)) ||| (v &&& r_1)) hx hb hr (fun t ht hW => ⟨⟨(v >>> (1 &&& 31)) ||| (v &&& r_1), (fn, fz, fv, b_6), rfl, trivial, by rw [ht]; exact hP9, va_K.moved hW.alike hK9, hD9⟩, hS.F ht⟩) hS.2.2 dX3_shiftByOne_129
      refine lv_tableOut (tgt := 130) hx hb dX3_shiftByOne_63 (by have n48 := lv_neT hs_8 (show (48 : Int32).toInt = 48 from rfl); have n49 := lv_neT hs_12 (show (49 : Int32).toInt = 49 from rfl); have n50 := lv_neT hs_16 (show (50 : Int32).toInt = 50 from rfl); omega) (by decide) ?_
      refine lv_iload_n hx hb dX3_shiftByOne_130 rfl (lv_at hl 5 rfl) ?_
      refine lv_iconst (v := 1) hx hb dX3_shiftByOne_131 (by decide) ?_
      refine lv_ishl hx hb dX3_shiftByOne_132 ?_
      refine lv_iload_n hx hb dX3_shiftByOne_133 rfl (lv_at hl 6 rfl) ?_
      refine lv_iand hx hb dX3_shiftByOne_134 ?_
      have hP9 := hP.sub (ws' := [(aP, .inr (3, [.ref aR, .ref aF])), (aF, .inr (0, [.int fn, .int fz, .int fv, .int b_6]))]) [0, 1] rfl
      have hD9 := hD.sub (ws' := [(aP, .inr (3, [.ref aR, .ref aF])), (aF, .inr (0, [.int fn, .int fz, .int fv, .int b_6]))]) [0, 1] (by decide) rfl
      have hK9 := hK.sub (tys' := []) [] rfl
      exact W.iret (v := (v <<< (1 &&& 31)) &&& k) hx hb hr (fun t ht hW => ⟨⟨(v <<< (1 &&& 31)) &&& k, (fn, fz, fv, b_6), rfl, trivial, by rw [ht]; exact hP9, va_K.moved hW.alike hK9, hD9⟩, hS.F ht⟩) hS.2.2 dX3_shiftByOne_135
    refine lv_if_eq (tgt := 58) hx hb dX3_shiftByOne_51 (by decide) (fun c_5 => ?_) (fun c_5 => ?_)
    · refine lv_iconst (v := 0) hx hb dX3_shiftByOne_58 (by decide) ?_
      exact jn _ (Or.inl rfl)
    · refine lv_iconst (v := 1) hx hb dX3_shiftByOne_54 (by decide) ?_
      refine lv_goto (tgt := 59) hx hb dX3_shiftByOne_55 (by decide) ?_
      exact jn _ (Or.inr rfl)
  · refine lv_iload_n hx hb dX3_shiftByOne_21 rfl (lv_at hl 3 rfl) ?_
    refine lv_bipush (v := 51) hx hb dX3_shiftByOne_22 (by decide) ?_
    refine q_bool (ls := ls) 32 [] (fun b_18 hb_19 => ?_) (fun jn => ?_)
    · refine lv_istore (lv' := [(6, .int b_18), (5, .int fc), (4, .int r_1), (0, .ref aP), (1, .int hd), (2, .int v), (3, .int k)]) hx hb dX3_shiftByOne_32 hl (by decide) rfl (fun ls hl => ?_)
      refine lv_aload_n hx hb dX3_shiftByOne_34 rfl (lv_at hl 3 rfl) ?_
      refine va_get (D := (dC, dI)) (ci := 3) (v := .ref aF) (C := RX3) (T := TX3) (N := 2) hx hb hts (by decide +kernel) hown hK hP 0 rfl rfl 1 (by decide) (hts (.fieldLink RX3 12 "WordGuest$Processor" "conditions" "LWordGuest$Flags;") (by decide +kernel)) (fun _ h9 => h9) rfl dX3_shiftByOne_35 ?_
      refine lv_iload_n hx hb dX3_shiftByOne_38 rfl (lv_at hl 5 rfl) ?_
      refine lv_iload hx hb dX3_shiftByOne_39 (lv_at hl 0 rfl) ?_
      refine q_any (ls := ls) 50 [.int v, .ref aF] (fun b_21 => ?_) (fun jn => ?_)
      · refine lv_iand hx hb dX3_shiftByOne_50 ?_
        refine q_bool (ls := ls) 59 [.ref aF] (fun b_24 hb_25 => ?_) (fun jn => ?_)
        · refine va_putN (D := (dC, dI)) (ci := 0) (v := .int b_24) (ty := .boolean) (C := RX0) (T := TX0) (N := 4) hx hb hts (by decide +kernel) tyX0 tyX0_ok nmX0 hown hK hP hD hS 1 rfl rfl 3 (by decide) ((va_Nw.use rfl (hN _ (List.mem_of_getElem? (i := 7) rfl)))) (fun _ h9 => h9) rfl (by decide +kernel) (q_nz hb_25) (q_fz hb_25) (Nat.le_of_ble_eq_true rfl) dX3_shiftByOne_59 (fun H locs hP hD hS => ?_)
          have hP : va_P (dC, dI) vwCl [(aP, .inr (3, [.ref aR, .ref aF])), (aF, .inr (0, [.int fn, .int fz, .int fv, .int b_24]))] H := hP
          have hD : va_D A [(aP, .inr (3, [.ref aR, .ref aF])), (aF, .inr (0, [.int fn, .int fz, .int fv, .int b_24]))] := hD
          refine lv_iload_n hx hb dX3_shiftByOne_62 rfl (lv_at hl 4 rfl) ?_
          by_cases hs_26 : hd = 48
          · refine q_toc (y := 48) hs_26 ?_
            refine lv_tableIn (off := 25) (tgt := 88) hx hb dX3_shiftByOne_63 (by decide) (by decide) (by decide) (by decide) ?_
            refine lv_iload_n hx hb dX3_shiftByOne_88 rfl (lv_at hl 5 rfl) ?_
            refine lv_iconst (v := 1) hx hb dX3_shiftByOne_89 (by decide) ?_
            refine lv_ishr hx hb dX3_shiftByOne_90 ?_
            refine lv_iload hx hb dX3_shiftByOne_91 (lv_at hl 1 rfl) ?_
            refine q_any (ls := ls) 102 [.int (v >>> (1 &&& 31))] (fun b_28 => ?_) (fun jn => ?_)
            · refine lv_ior hx hb dX3_shiftByOne_102 ?_
              have hP9 := hP.sub (ws' := [(aP, .inr (3, [.ref aR, .ref aF])), (aF, .inr (0, [.int fn, .int fz, .int fv, .int b_24]))]) [0, 1] rfl
              have hD9 := hD.sub (ws' := [(aP, .inr (3, [.ref aR, .ref aF])), (aF, .inr (0, [.int fn, .int fz, .int fv, .int b_24]))]) [0, 1] (by decide) rfl
              have hK9 := hK.sub (tys' := []) [] rfl
              exact W.iret (v := (v >>> (1 &&& 31)) ||| b_28) hx hb hr (fun t ht hW => ⟨⟨(v >>> (1 &&& 31)) ||| b_28, (fn, fz, fv, b_24), rfl, trivial, by rw [ht]; exact hP9, va_K.moved hW.alike hK9, hD9⟩, hS.F ht⟩) hS.2.2 dX3_shiftByOne_103
            refine lv_if_eq (tgt := 101) hx hb dX3_shiftByOne_93 (by decide) (fun c_27 => ?_) (fun c_27 => ?_)
            · refine lv_iconst (v := 0) hx hb dX3_shiftByOne_101 (by decide) ?_
              exact jn _
            · refine lv_iload hx hb dX3_shiftByOne_96 (lv_at hl 2 rfl) ?_
              refine lv_goto (tgt := 102) hx hb dX3_shiftByOne_98 (by decide) ?_
              exact jn _
          by_cases hs_30 : hd = 49
          · refine q_toc (y := 49) hs_30 ?_
            refine lv_tableIn (off := 41) (tgt := 104) hx hb dX3_shiftByOne_63 (by decide) (by decide) (by decide) (by decide) ?_
            refine lv_iload_n hx hb dX3_shiftByOne_104 rfl (lv_at hl 5 rfl) ?_
            refine lv_iconst (v := 1) hx hb dX3_shiftByOne_105 (by decide) ?_
            refine lv_ishl hx hb dX3_shiftByOne_106 ?_
            refine lv_iload_n hx hb dX3_shiftByOne_107 rfl (lv_at hl 6 rfl) ?_
            refine lv_iand hx hb dX3_shiftByOne_108 ?_
            refine lv_iload hx hb dX3_shiftByOne_109 (lv_at hl 1 rfl) ?_
            refine q_bool (ls := ls) 119 [.int ((v <<< (1 &&& 31)) &&& k)] (fun b_32 hb_33 => ?_) (fun jn => ?_)
            · refine lv_ior hx hb dX3_shiftByOne_119 ?_
              have hP9 := hP.sub (ws' := [(aP, .inr (3, [.ref aR, .ref aF])), (aF, .inr (0, [.int fn, .int fz, .int fv, .int b_24]))]) [0, 1] rfl
              have hD9 := hD.sub (ws' := [(aP, .inr (3, [.ref aR, .ref aF])), (aF, .inr (0, [.int fn, .int fz, .int fv, .int b_24]))]) [0, 1] (by decide) rfl
              have hK9 := hK.sub (tys' := []) [] rfl
              exact W.iret (v := ((v <<< (1 &&& 31)) &&& k) ||| b_32) hx hb hr (fun t ht hW => ⟨⟨((v <<< (1 &&& 31)) &&& k) ||| b_32, (fn, fz, fv, b_24), rfl, trivial, by rw [ht]; exact hP9, va_K.moved hW.alike hK9, hD9⟩, hS.F ht⟩) hS.2.2 dX3_shiftByOne_120
            refine lv_if_eq (tgt := 118) hx hb dX3_shiftByOne_111 (by decide) (fun c_31 => ?_) (fun c_31 => ?_)
            · refine lv_iconst (v := 0) hx hb dX3_shiftByOne_118 (by decide) ?_
              exact jn _ (Or.inl rfl)
            · refine lv_iconst (v := 1) hx hb dX3_shiftByOne_114 (by decide) ?_
              refine lv_goto (tgt := 119) hx hb dX3_shiftByOne_115 (by decide) ?_
              exact jn _ (Or.inr rfl)
          by_cases hs_34 : hd = 50
          · refine q_toc (y := 50) hs_34 ?_
            refine lv_tableIn (off := 58) (tgt := 121) hx hb dX3_shiftByOne_63 (by decide) (by decide) (by decide) (by decide) ?_
            refine lv_iload_n hx hb dX3_shiftByOne_121 rfl (lv_at hl 5 rfl) ?_
            refine lv_iconst (v := 1) hx hb dX3_shiftByOne_122 (by decide) ?_
            refine lv_ishr hx hb dX3_shiftByOne_123 ?_
            refine lv_iload_n hx hb dX3_shiftByOne_124 rfl (lv_at hl 5 rfl) ?_
            refine lv_iload hx hb dX3_shiftByOne_125 (lv_at hl 2 rfl) ?_
            refine lv_iand hx hb dX3_shiftByOne_127 ?_
            refine lv_ior hx hb dX3_shiftByOne_128 ?_
            have hP9 := hP.sub (ws' := [(aP, .inr (3, [.ref aR, .ref aF])), (aF, .inr (0, [.int fn, .int fz, .int fv, .int b_24]))]) [0, 1] rfl
            have hD9 := hD.sub (ws' := [(aP, .inr (3, [.ref aR, .ref aF])), (aF, .inr (0, [.int fn, .int fz, .int fv, .int b_24]))]) [0, 1] (by decide) rfl
            have hK9 := hK.sub (tys' := []) [] rfl
            exact W.iret (v := (v >>> (1 &&& 31)) ||| (v &&& r_1)) hx hb hr (fun t ht hW => ⟨⟨(v >>> (1 &&& 31)) ||| (v &&& r_1), (fn, fz, fv, b_24), rfl, trivial, by rw [ht]; exact hP9, va_K.moved hW.alike hK9, hD9⟩, hS.F ht⟩) hS.2.2 dX3_shiftByOne_129
          refine lv_tableOut (tgt := 130) hx hb dX3_shiftByOne_63 (by have n48 := lv_neT hs_26 (show (48 : Int32).toInt = 48 from rfl); have n49 := lv_neT hs_30 (show (49 : Int32).toInt = 49 from rfl); have n50 := lv_neT hs_34 (show (50 : Int32).toInt = 50 from rfl); omega) (by decide) ?_
          refine lv_iload_n hx hb dX3_shiftByOne_130 rfl (lv_at hl 5 rfl) ?_
          refine lv_iconst (v := 1) hx hb dX3_shiftByOne_131 (by decide) ?_
          refine lv_ishl hx hb dX3_shiftByOne_132 ?_
          refine lv_iload_n hx hb dX3_shiftByOne_133 rfl (lv_at hl 6 rfl) ?_
          refine lv_iand hx hb dX3_shiftByOne_134 ?_
          have hP9 := hP.sub (ws' := [(aP, .inr (3, [.ref aR, .ref aF])), (aF, .inr (0, [.int fn, .int fz, .int fv, .int b_24]))]) [0, 1] rfl
          have hD9 := hD.sub (ws' := [(aP, .inr (3, [.ref aR, .ref aF])), (aF, .inr (0, [.int fn, .int fz, .int fv, .int b_24]))]) [0, 1] (by decide) rfl
          have hK9 := hK.sub (tys' := []) [] rfl
          exact W.iret (v := (v <<< (1 &&& 31)) &&& k) hx hb hr (fun t ht hW => ⟨⟨(v <<< (1 &&& 31)) &&& k, (fn, fz, fv, b_24), rfl, trivial, by rw [ht]; exact hP9, va_K.moved hW.alike hK9, hD9⟩, hS.F ht⟩) hS.2.2 dX3_shiftByOne_135
        refine lv_if_eq (tgt := 58) hx hb dX3_shiftByOne_51 (by decide) (fun c_23 => ?_) (fun c_23 => ?_)
        · refine lv_iconst (v := 0) hx hb dX3_shiftByOne_58 (by decide) ?_
          exact jn _ (Or.inl rfl)
        · refine lv_iconst (v := 1) hx hb dX3_shiftByOne_54 (by decide) ?_
          refine lv_goto (tgt := 59) hx hb dX3_shiftByOne_55 (by decide) ?_
          exact jn _ (Or.inr rfl)
      refine lv_if_eq (tgt := 49) hx hb dX3_shiftByOne_41 (by decide) (fun c_20 => ?_) (fun c_20 => ?_)
      · refine lv_iconst (v := 1) hx hb dX3_shiftByOne_49 (by decide) ?_
        exact jn _
      · refine lv_iload hx hb dX3_shiftByOne_44 (lv_at hl 2 rfl) ?_
        refine lv_goto (tgt := 50) hx hb dX3_shiftByOne_46 (by decide) ?_
        exact jn _
    refine lv_icmp_ne (tgt := 31) hx hb dX3_shiftByOne_24 (by decide) (fun c_17 => ?_) (fun c_17 => ?_)
    · refine lv_iconst (v := 0) hx hb dX3_shiftByOne_31 (by decide) ?_
      exact jn _ (Or.inl rfl)
    · refine lv_iconst (v := 1) hx hb dX3_shiftByOne_27 (by decide) ?_
      refine lv_goto (tgt := 32) hx hb dX3_shiftByOne_28 (by decide) ?_
      exact jn _ (Or.inr rfl)
set_option maxHeartbeats 4000000 in
set_option maxRecDepth 100000 in
theorem s_X3_setByDifference (l : Launch) (dC : Nat → ClassId) (dI : Nat → Nat → Nat) (sz : Nat) (aP : Nat) (v : Int32) (x : Int32) (k : Int32) (aR : Nat) (aF : Nat) (fn : Int32) (fz : Int32) (fv : Int32) (fc : Int32)  : Met l yX3_setByDifference wsX3_setByDifference ({ frames := 2, cells := 0, slots := 0, locals := 42 }) (va_Pc [.ref aP, .int v, .int x, .int k] (q_pre dC dI sz [(aP, .inr (3, [.ref aR, .ref aF])), (aF, .inr (0, [.int fn, .int fz, .int fv, .int fc]))] [])) (va_Qv (fun (u9 : Int32 × Int32 × Int32 × Int32) => True) (q_at dC dI (va_A [(aP, .inr (3, [.ref aR, .ref aF])), (aF, .inr (0, [.int fn, .int fz, .int fv, .int fc]))] sz) (fun (u9 : Int32 × Int32 × Int32 × Int32) => []) (fun (u9 : Int32 × Int32 × Int32 × Int32) => [(aP, .inr (3, [.ref aR, .ref aF])), (aF, .inr (0, [.int u9.1, .int u9.2.1, .int u9.2.2.1, .int u9.2.2.2]))])) (va_A [(aP, .inr (3, [.ref aR, .ref aF])), (aF, .inr (0, [.int fn, .int fz, .int fv, .int fc]))] sz)) 0 0 (va_A [(aP, .inr (3, [.ref aR, .ref aF])), (aF, .inr (0, [.int fn, .int fz, .int fv, .int fc]))] sz) := by
  refine Met.ofW (cc := cX3_setByDifference) (maxL := 5) (ret := none) (by decide) rfl ?_
  intro p e s m args below meth c s₁ B hml hv
  obtain ⟨rfl, hsz, hP, hK, hD0, hN⟩ := hv
  have hx := B.exec
  have hb := B.bytes
  have hr := B.returns
  have hts := atoms_spec (ws := wsX3_setByDifference) B.pre
  have hown : s.vm.findClass RX3 = some m.cls := findClass_of_methodNamed B.named
  have hlocks := B.notSynchronized
  subst hsz
  have hD := hD0.self (sz := s.heap.size)
  generalize hAe : va_A [(aP, .inr (3, [.ref aR, .ref aF])), (aF, .inr (0, [.int fn, .int fz, .int fv, .int fc]))] s.heap.size = A at hD ⊢
  have hA : ∀ q : Nat, s.heap.size ≤ q → A q := fun q h => by rw [← hAe]; exact Or.inr h
  have hS : va_S A s.heap s.heap [] := va_S.rf
  have hP : va_P (dC, dI) vwCl [(aP, .inr (3, [.ref aR, .ref aF])), (aF, .inr (0, [.int fn, .int fz, .int fv, .int fc]))] s.heap := hP
  have hl := lv_entry ([.ref aP, .int v, .int x, .int k]) (n := 5) (Nat.le_of_ble_eq_true rfl)
  rw [lg_entry_eq]
  generalize (lg_sl ([.ref aP, .int v, .int x, .int k]) ++ List.replicate (5 - (lg_sl ([.ref aP, .int v, .int x, .int k])).length) Slot.unset).toArray = ls at hl ⊢
  have hl : lv_has ls 5 [(0, .ref aP), (1, .int v), (2, .int x), (3, .int k)] := hl
  refine lv_iload_n hx hb dX3_setByDifference_0 rfl (lv_at hl 1 rfl) ?_
  refine lv_iload_n hx hb dX3_setByDifference_1 rfl (lv_at hl 2 rfl) ?_
  refine lv_isub hx hb dX3_setByDifference_2 ?_
  refine lv_iload_n hx hb dX3_setByDifference_3 rfl (lv_at hl 3 rfl) ?_
  refine lv_iand hx hb dX3_setByDifference_4 ?_
  refine lv_istore (lv' := [(4, .int ((v - x) &&& k)), (0, .ref aP), (1, .int v), (2, .int x), (3, .int k)]) hx hb dX3_setByDifference_5 hl (by decide) rfl (fun ls hl => ?_)
  refine lv_aload_n hx hb dX3_setByDifference_7 rfl (lv_at hl 1 rfl) ?_
  refine va_get (D := (dC, dI)) (ci := 3) (v := .ref aF) (C := RX3) (T := TX3) (N := 2) hx hb hts (by decide +kernel) hown hK hP 0 rfl rfl 1 (by decide) (hts (.fieldLink RX3 12 "WordGuest$Processor" "conditions" "LWordGuest$Flags;") (by decide +kernel)) (fun _ h9 => h9) rfl dX3_setByDifference_8 ?_
  refine lv_iload hx hb dX3_setByDifference_11 (lv_at hl 0 rfl) ?_
  refine lv_iload_n hx hb dX3_setByDifference_13 rfl (lv_at hl 4 rfl) ?_
  have hPc := hP.sub (ws' := [(aF, .inr (0, [.int fn, .int fz, .int fv, .int fc]))]) [1] rfl
  have hDc := hD.sub (ws' := [(aF, .inr (0, [.int fn, .int fz, .int fv, .int fc]))]) [1] (by decide) rfl
  have hKc := hK.sub (tys' := []) [] rfl
  have hFc := va_free (wc := [(aF, .inr (0, [.int fn, .int fz, .int fv, .int fc]))]) hD hS hA [1] rfl
  refine va_callv (va_runV (C := RX0) (b := aF) (As := [.int ((v - x) &&& k), .int k]) (rest := []) ⟨hx, hb, hml, hown, hts⟩ (s_X0_setByResult l dC dI s.heap.size aF ((v - x) &&& k) k fn fz fv fc) (cwV 2 hts gX3_setByDifference_X0_setByResult rfl rfl rfl (by decide +kernel) ⟨Nat.le_of_ble_eq_true rfl, Nat.le_of_ble_eq_true rfl⟩) ⟨q_blind, va_recv hK hP (ci := 0) (q0 := 1) rfl rfl, fun U hU hW => ⟨rfl, q_pay hU hW hPc hKc hDc hN⟩⟩ rfl rfl hl.1 rfl (lv_room (Nat.le_of_ble_eq_true rfl)) dX3_setByDifference_14 ⟨show 0 + 0 ≤ 0 from by omega, show 0 + 0 ≤ 0 from by omega⟩) hS (fun q _ h => hFc q h) hFc (fun u9 t H locs ht hvm hw_2 hB hz1 hk1 hS => ?_)
  obtain ⟨fn2_3, fz2_4⟩ := u9
  obtain ⟨hP1, hK1, hD1⟩ := hB
  rw [ht] at hP1
  obtain ⟨hP, hD⟩ := va_join (wr := [(aP, .inr (3, [.ref aR, .ref aF]))]) (w1 := [(aF, .inr (0, [.int fn2_3, .int fz2_4, .int fv, .int fc]))]) hP hD [1] [0] rfl rfl (by decide) (by decide) hk1 hFc hP1 hD1
  have hP : va_P (dC, dI) vwCl [(aP, .inr (3, [.ref aR, .ref aF])), (aF, .inr (0, [.int fn2_3, .int fz2_4, .int fv, .int fc]))] H := hP
  have hD : va_D A [(aP, .inr (3, [.ref aR, .ref aF])), (aF, .inr (0, [.int fn2_3, .int fz2_4, .int fv, .int fc]))] := hD
  refine W.widen (k := 0) (n := 0) (by omega) (by omega) ?_
  try dsimp only at hw_2
  refine lv_aload_n hx hb dX3_setByDifference_17 rfl (lv_at hl 1 rfl) ?_
  refine va_get (D := (dC, dI)) (ci := 3) (v := .ref aF) (C := RX3) (T := TX3) (N := 2) hx hb hts (by decide +kernel) hown hK hP 0 rfl rfl 1 (by decide) (hts (.fieldLink RX3 12 "WordGuest$Processor" "conditions" "LWordGuest$Flags;") (by decide +kernel)) (fun _ h9 => h9) rfl dX3_setByDifference_18 ?_
  refine lv_iload_n hx hb dX3_setByDifference_21 rfl (lv_at hl 2 rfl) ?_
  refine lv_iload_n hx hb dX3_setByDifference_22 rfl (lv_at hl 3 rfl) ?_
  refine lv_ixor hx hb dX3_setByDifference_23 ?_
  refine lv_iload hx hb dX3_setByDifference_24 (lv_at hl 0 rfl) ?_
  refine lv_iload_n hx hb dX3_setByDifference_26 rfl (lv_at hl 3 rfl) ?_
  refine lv_ixor hx hb dX3_setByDifference_27 ?_
  refine lv_iconst (v := (-1)) hx hb dX3_setByDifference_28 (by decide) ?_
  refine lv_ixor hx hb dX3_setByDifference_29 ?_
  refine lv_iand hx hb dX3_setByDifference_30 ?_
  refine lv_iload_n hx hb dX3_setByDifference_31 rfl (lv_at hl 4 rfl) ?_
  have hPc := hP.sub (ws' := []) [] rfl
  have hDc := hD.sub (ws' := []) [] (by decide) rfl
  have hKc := hK.sub (tys' := []) [] rfl
  have hFc := va_free (wc := []) hD hS hA [] rfl
  refine va_calli (va_runSN (As := [.int k]) (rest := [.int ((v ^^^ x) &&& ((((v - x) &&& k) ^^^ x) ^^^ (-1))), .ref aF]) ⟨hx, hb, hml, hown, hts⟩ (s_X4_signOf l dC dI H.size k) ⟨va_cnB 1 hts gX3_setByDifference_X4_signOf_n105 rfl rfl rfl (hN _ (List.mem_of_getElem? (i := 13) rfl)) (hts (.initialized RX4) (by decide +kernel)) (by decide +kernel) ⟨Nat.le_of_ble_eq_true rfl, Nat.le_of_ble_eq_true rfl⟩, hts (.static yX4_signOf) (by decide +kernel), trivial⟩ ⟨q_blind, fun U hU hW => ⟨rfl, q_pay hU hW hPc hKc hDc hN⟩⟩ rfl rfl hl.1 rfl (lv_room (Nat.le_of_ble_eq_true rfl)) dX3_setByDifference_32 ⟨show 0 + 0 ≤ 0 from by omega, show 0 + 0 ≤ 0 from by omega⟩) hS (fun q _ h => hFc q h) hFc (fun r_5 u9 t H locs ht hvm hw_6 hB hz1 hk1 hS => ?_)
  obtain ⟨hP1, hK1, hD1⟩ := hB
  rw [ht] at hP1
  obtain ⟨hP, hD⟩ := va_join (wr := [(aP, .inr (3, [.ref aR, .ref aF])), (aF, .inr (0, [.int fn2_3, .int fz2_4, .int fv, .int fc]))]) (w1 := []) hP hD [] [0, 1] rfl rfl (by decide) (by decide) hk1 hFc hP1 hD1
  have hP : va_P (dC, dI) vwCl [(aP, .inr (3, [.ref aR, .ref aF])), (aF, .inr (0, [.int fn2_3, .int fz2_4, .int fv, .int fc]))] H := hP
  have hD : va_D A [(aP, .inr (3, [.ref aR, .ref aF])), (aF, .inr (0, [.int fn2_3, .int fz2_4, .int fv, .int fc]))] := hD
  refine W.widen (k := 0) (n := 0) (by omega) (by omega) ?_
  try dsimp only at hw_6
  refine lv_iand hx hb dX3_setByDifference_35 ?_
  refine q_bool (ls := ls) 44 [.ref aF] (fun b_8 hb_9 => ?_) (fun jn => ?_)
  · refine va_putN (D := (dC, dI)) (ci := 0) (v := .int b_8) (ty := .boolean) (C := RX0) (T := TX0) (N := 4) hx hb hts (by decide +kernel) tyX0 tyX0_ok nmX0 hown hK hP hD hS 1 rfl rfl 2 (by decide) ((va_Nw.use rfl (hN _ (List.mem_of_getElem? (i := 6) rfl)))) (fun _ h9 => h9) rfl (by decide +kernel) (q_nz hb_9) (q_fz hb_9) (Nat.le_of_ble_eq_true rfl) dX3_setByDifference_44 (fun H locs hP hD hS => ?_)
    have hP : va_P (dC, dI) vwCl [(aP, .inr (3, [.ref aR, .ref aF])), (aF, .inr (0, [.int fn2_3, .int fz2_4, .int b_8, .int fc]))] H := hP
    have hD : va_D A [(aP, .inr (3, [.ref aR, .ref aF])), (aF, .inr (0, [.int fn2_3, .int fz2_4, .int b_8, .int fc]))] := hD
    refine lv_aload_n hx hb dX3_setByDifference_47 rfl (lv_at hl 1 rfl) ?_
    refine va_get (D := (dC, dI)) (ci := 3) (v := .ref aF) (C := RX3) (T := TX3) (N := 2) hx hb hts (by decide +kernel) hown hK hP 0 rfl rfl 1 (by decide) (hts (.fieldLink RX3 12 "WordGuest$Processor" "conditions" "LWordGuest$Flags;") (by decide +kernel)) (fun _ h9 => h9) rfl dX3_setByDifference_48 ?_
    refine lv_iload_n hx hb dX3_setByDifference_51 rfl (lv_at hl 2 rfl) ?_
    refine lv_iload_n hx hb dX3_setByDifference_52 rfl (lv_at hl 3 rfl) ?_
    refine q_bool (ls := ls) 61 [.ref aF] (fun b_11 hb_12 => ?_) (fun jn => ?_)
    · refine va_putN (D := (dC, dI)) (ci := 0) (v := .int b_11) (ty := .boolean) (C := RX0) (T := TX0) (N := 4) hx hb hts (by decide +kernel) tyX0 tyX0_ok nmX0 hown hK hP hD hS 1 rfl rfl 3 (by decide) ((va_Nw.use rfl (hN _ (List.mem_of_getElem? (i := 7) rfl)))) (fun _ h9 => h9) rfl (by decide +kernel) (q_nz hb_12) (q_fz hb_12) (Nat.le_of_ble_eq_true rfl) dX3_setByDifference_61 (fun H locs hP hD hS => ?_)
      have hP : va_P (dC, dI) vwCl [(aP, .inr (3, [.ref aR, .ref aF])), (aF, .inr (0, [.int fn2_3, .int fz2_4, .int b_8, .int b_11]))] H := hP
      have hD : va_D A [(aP, .inr (3, [.ref aR, .ref aF])), (aF, .inr (0, [.int fn2_3, .int fz2_4, .int b_8, .int b_11]))] := hD
      have hP9 := hP.sub (ws' := [(aP, .inr (3, [.ref aR, .ref aF])), (aF, .inr (0, [.int fn2_3, .int fz2_4, .int b_8, .int b_11]))]) [0, 1] rfl
      have hD9 := hD.sub (ws' := [(aP, .inr (3, [.ref aR, .ref aF])), (aF, .inr (0, [.int fn2_3, .int fz2_4, .int b_8, .int b_11]))]) [0, 1] (by decide) rfl
      have hK9 := hK.sub (tys' := []) [] rfl
      exact W.vret hx hb hr (fun t ht hW => ⟨⟨(fn2_3, fz2_4, b_8, b_11), rfl, trivial, by rw [ht]; exact hP9, va_K.moved hW.alike hK9, hD9⟩, hS.F ht⟩) hS.2.2 dX3_setByDifference_64
    refine lv_icmp_ge (tgt := 60) hx hb dX3_setByDifference_53 (by decide) (fun c_10 => ?_) (fun c_10 => ?_)
    · refine lv_iconst (v := 0) hx hb dX3_setByDifference_60 (by decide) ?_
      exact jn _ (Or.inl rfl)
    · refine lv_iconst (v := 1) hx hb dX3_setByDifference_56 (by decide) ?_
      refine lv_goto (tgt := 61) hx hb dX3_setByDifference_57 (by decide) ?_
      exact jn _ (Or.inr rfl)
  refine lv_if_eq (tgt := 43) hx hb dX3_setByDifference_36 (by decide) (fun c_7 => ?_) (fun c_7 => ?_)
  · refine lv_iconst (v := 0) hx hb dX3_setByDifference_43 (by decide) ?_
    exact jn _ (Or.inl rfl)
  · refine lv_iconst (v := 1) hx hb dX3_setByDifference_39 (by decide) ?_
    refine lv_goto (tgt := 44) hx hb dX3_setByDifference_40 (by decide) ?_
    exact jn _ (Or.inr rfl)
set_option maxHeartbeats 4000000 in
set_option maxRecDepth 100000 in
theorem s_X3_isMet (l : Launch) (dC : Nat → ClassId) (dI : Nat → Nat → Nat) (sz : Nat) (aP : Nat) (k : Int32) (aR : Nat) (aF : Nat) (fn : Int32) (fz : Int32) (fv : Int32) (fc : Int32)  : Met l yX3_isMet wsX3_isMet ({ frames := 1, cells := 0, slots := 0, locals := 20 }) (va_Pc [.ref aP, .int k] (q_pre dC dI sz [(aP, .inr (3, [.ref aR, .ref aF])), (aF, .inr (0, [.int fn, .int fz, .int fv, .int fc]))] [])) (va_Qi (fun (r : Int32) (u9 : Unit) => r = 0 ∨ r = 1) (q_at dC dI (va_A [(aP, .inr (3, [.ref aR, .ref aF])), (aF, .inr (0, [.int fn, .int fz, .int fv, .int fc]))] sz) (fun (u9 : Unit) => []) (fun (u9 : Unit) => [(aP, .inr (3, [.ref aR, .ref aF])), (aF, .inr (0, [.int fn, .int fz, .int fv, .int fc]))])) (va_A [(aP, .inr (3, [.ref aR, .ref aF])), (aF, .inr (0, [.int fn, .int fz, .int fv, .int fc]))] sz)) 0 0 (va_A [(aP, .inr (3, [.ref aR, .ref aF])), (aF, .inr (0, [.int fn, .int fz, .int fv, .int fc]))] sz) := by
  refine Met.ofW (cc := cX3_isMet) (maxL := 3) (ret := (some .boolean)) (by decide) rfl ?_
  intro p e s m args below meth c s₁ B hml hv
  obtain ⟨rfl, hsz, hP, hK, hD0, hN⟩ := hv
  have hx := B.exec
  have hb := B.bytes
  have hr := B.returns
  have hts := atoms_spec (ws := wsX3_isMet) B.pre
  have hown : s.vm.findClass RX3 = some m.cls := findClass_of_methodNamed B.named
  have hlocks := B.notSynchronized
  subst hsz
  have hD := hD0.self (sz := s.heap.size)
  generalize hAe : va_A [(aP, .inr (3, [.ref aR, .ref aF])), (aF, .inr (0, [.int fn, .int fz, .int fv, .int fc]))] s.heap.size = A at hD ⊢
  have hA : ∀ q : Nat, s.heap.size ≤ q → A q := fun q h => by rw [← hAe]; exact Or.inr h
  have hS : va_S A s.heap s.heap [] := va_S.rf
  have hP : va_P (dC, dI) vwCl [(aP, .inr (3, [.ref aR, .ref aF])), (aF, .inr (0, [.int fn, .int fz, .int fv, .int fc]))] s.heap := hP
  have hl := lv_entry ([.ref aP, .int k]) (n := 3) (Nat.le_of_ble_eq_true rfl)
  rw [lg_entry_eq]
  generalize (lg_sl ([.ref aP, .int k]) ++ List.replicate (3 - (lg_sl ([.ref aP, .int k])).length) Slot.unset).toArray = ls at hl ⊢
  have hl : lv_has ls 3 [(0, .ref aP), (1, .int k)] := hl
  refine lv_iload_n hx hb dX3_isMet_0 rfl (lv_at hl 1 rfl) ?_
  refine lv_iconst (v := 1) hx hb dX3_isMet_1 (by decide) ?_
  refine lv_iand hx hb dX3_isMet_2 ?_
  refine q_bool (ls := ls) 11 [] (fun b_2 hb_3 => ?_) (fun jn => ?_)
  · refine lv_istore_n (lv' := [(2, .int b_2), (0, .ref aP), (1, .int k)]) hx hb dX3_isMet_11 rfl hl (by decide) rfl (fun ls hl => ?_)
    refine lv_iload_n hx hb dX3_isMet_12 rfl (lv_at hl 2 rfl) ?_
    refine lv_iconst (v := 1) hx hb dX3_isMet_13 (by decide) ?_
    refine lv_ishr hx hb dX3_isMet_14 ?_
    by_cases hs_4 : (k >>> (1 &&& 31)) = 0
    · refine q_toc (y := 0) hs_4 ?_
      refine lv_tableIn (off := 41) (tgt := 56) hx hb dX3_isMet_15 (by decide) (by decide) (by decide) (by decide) ?_
      refine lv_iconst (v := 1) hx hb dX3_isMet_56 (by decide) ?_
      have hP9 := hP.sub (ws' := [(aP, .inr (3, [.ref aR, .ref aF])), (aF, .inr (0, [.int fn, .int fz, .int fv, .int fc]))]) [0, 1] rfl
      have hD9 := hD.sub (ws' := [(aP, .inr (3, [.ref aR, .ref aF])), (aF, .inr (0, [.int fn, .int fz, .int fv, .int fc]))]) [0, 1] (by decide) rfl
      have hK9 := hK.sub (tys' := []) [] rfl
      exact W.zret (v := 1) (ty := .boolean) hx hb hr (by decide) (fun t ht hW => ⟨⟨1, (), rfl, (Or.inr rfl), by rw [ht]; exact hP9, va_K.moved hW.alike hK9, hD9⟩, hS.F ht⟩) hS.2.2 dX3_isMet_57
    by_cases hs_5 : (k >>> (1 &&& 31)) = 1
    · refine q_toc (y := 1) hs_5 ?_
      refine lv_tableIn (off := 43) (tgt := 58) hx hb dX3_isMet_15 (by decide) (by decide) (by decide) (by decide) ?_
      refine lv_aload_n hx hb dX3_isMet_58 rfl (lv_at hl 1 rfl) ?_
      refine va_get (D := (dC, dI)) (ci := 3) (v := .ref aF) (C := RX3) (T := TX3) (N := 2) hx hb hts (by decide +kernel) hown hK hP 0 rfl rfl 1 (by decide) (hts (.fieldLink RX3 12 "WordGuest$Processor" "conditions" "LWordGuest$Flags;") (by decide +kernel)) (fun _ h9 => h9) rfl dX3_isMet_59 ?_
      refine va_getN (D := (dC, dI)) (ci := 0) (v := .int fz) (C := RX0) (T := TX0) (N := 4) hx hb hts (by decide +kernel) hown hK hP 1 rfl rfl 1 (by decide) ((va_Nw.use rfl (hN _ (List.mem_of_getElem? (i := 5) rfl)))) (fun _ h9 => h9) rfl dX3_isMet_62 ?_
      refine lv_iload_n hx hb dX3_isMet_65 rfl (lv_at hl 0 rfl) ?_
      refine q_bool (ls := ls) 74 [] (fun b_7 hb_8 => ?_) (fun jn => ?_)
      · have hP9 := hP.sub (ws' := [(aP, .inr (3, [.ref aR, .ref aF])), (aF, .inr (0, [.int fn, .int fz, .int fv, .int fc]))]) [0, 1] rfl
        have hD9 := hD.sub (ws' := [(aP, .inr (3, [.ref aR, .ref aF])), (aF, .inr (0, [.int fn, .int fz, .int fv, .int fc]))]) [0, 1] (by decide) rfl
        have hK9 := hK.sub (tys' := []) [] rfl
        exact W.zret (v := b_7) (ty := .boolean) hx hb hr (q_nz hb_8) (fun t ht hW => ⟨⟨b_7, (), rfl, hb_8, by rw [ht]; exact hP9, va_K.moved hW.alike hK9, hD9⟩, hS.F ht⟩) hS.2.2 dX3_isMet_74
      refine lv_icmp_ne (tgt := 73) hx hb dX3_isMet_66 (by decide) (fun c_6 => ?_) (fun c_6 => ?_)
      · refine lv_iconst (v := 0) hx hb dX3_isMet_73 (by decide) ?_
        exact jn _ (Or.inl rfl)
      · refine lv_iconst (v := 1) hx hb dX3_isMet_69 (by decide) ?_
        refine lv_goto (tgt := 74) hx hb dX3_isMet_70 (by decide) ?_
        exact jn _ (Or.inr rfl)
    by_cases hs_9 : (k >>> (1 &&& 31)) = 2
    · refine q_toc (y := 2) hs_9 ?_
      refine lv_tableIn (off := 60) (tgt := 75) hx hb dX3_isMet_15 (by decide) (by decide) (by decide) (by decide) ?_
      refine lv_aload_n hx hb dX3_isMet_75 rfl (lv_at hl 1 rfl) ?_
      refine va_get (D := (dC, dI)) (ci := 3) (v := .ref aF) (C := RX3) (T := TX3) (N := 2) hx hb hts (by decide +kernel) hown hK hP 0 rfl rfl 1 (by decide) (hts (.fieldLink RX3 12 "WordGuest$Processor" "conditions" "LWordGuest$Flags;") (by decide +kernel)) (fun _ h9 => h9) rfl dX3_isMet_76 ?_
      have hPc := hP.sub (ws' := [(aF, .inr (0, [.int fn, .int fz, .int fv, .int fc]))]) [1] rfl
      have hDc := hD.sub (ws' := [(aF, .inr (0, [.int fn, .int fz, .int fv, .int fc]))]) [1] (by decide) rfl
      have hKc := hK.sub (tys' := []) [] rfl
      have hFc := va_free (wc := [(aF, .inr (0, [.int fn, .int fz, .int fv, .int fc]))]) hD hS hA [1] rfl
      refine va_calli (va_runV (C := RX0) (b := aF) (As := []) (rest := []) ⟨hx, hb, hml, hown, hts⟩ (s_X0_below l dC dI s.heap.size aF fn fz fv fc) (cwV 0 hts gX3_isMet_X0_below rfl rfl rfl (by decide +kernel) ⟨Nat.le_of_ble_eq_true rfl, Nat.le_of_ble_eq_true rfl⟩) ⟨q_blind, va_recv hK hP (ci := 0) (q0 := 1) rfl rfl, fun U hU hW => ⟨rfl, q_pay hU hW hPc hKc hDc hN⟩⟩ rfl rfl hl.1 rfl (lv_room (Nat.le_of_ble_eq_true rfl)) dX3_isMet_79 ⟨show 0 + 0 ≤ 0 from by omega, show 0 + 0 ≤ 0 from by omega⟩) hS (fun q _ h => hFc q h) hFc (fun r_10 u9 t H locs ht hvm hw_11 hB hz1 hk1 hS => ?_)
      obtain ⟨hP1, hK1, hD1⟩ := hB
      rw [ht] at hP1
      obtain ⟨hP, hD⟩ := va_join (wr := [(aP, .inr (3, [.ref aR, .ref aF]))]) (w1 := [(aF, .inr (0, [.int fn, .int fz, .int fv, .int fc]))]) hP hD [1] [0] rfl rfl (by decide) (by decide) hk1 hFc hP1 hD1
      have hP : va_P (dC, dI) vwCl [(aP, .inr (3, [.ref aR, .ref aF])), (aF, .inr (0, [.int fn, .int fz, .int fv, .int fc]))] H := hP
      have hD : va_D A [(aP, .inr (3, [.ref aR, .ref aF])), (aF, .inr (0, [.int fn, .int fz, .int fv, .int fc]))] := hD
      refine W.widen (k := 0) (n := 0) (by omega) (by omega) ?_
      try dsimp only at hw_11
      refine lv_iload_n hx hb dX3_isMet_82 rfl (lv_at hl 0 rfl) ?_
      refine q_bool (ls := ls) 91 [] (fun b_13 hb_14 => ?_) (fun jn => ?_)
      · have hP9 := hP.sub (ws' := [(aP, .inr (3, [.ref aR, .ref aF])), (aF, .inr (0, [.int fn, .int fz, .int fv, .int fc]))]) [0, 1] rfl
        have hD9 := hD.sub (ws' := [(aP, .inr (3, [.ref aR, .ref aF])), (aF, .inr (0, [.int fn, .int fz, .int fv, .int fc]))]) [0, 1] (by decide) rfl
        have hK9 := hK.sub (tys' := []) [] rfl
        exact W.zret (v := b_13) (ty := .boolean) hx hb hr (q_nz hb_14) (fun t ht hW => ⟨⟨b_13, (), rfl, hb_14, by rw [ht]; exact hP9, va_K.moved hW.alike hK9, hD9⟩, hS.F ht⟩) hS.2.2 dX3_isMet_91
      refine lv_icmp_ne (tgt := 90) hx hb dX3_isMet_83 (by decide) (fun c_12 => ?_) (fun c_12 => ?_)
      · refine lv_iconst (v := 0) hx hb dX3_isMet_90 (by decide) ?_
        exact jn _ (Or.inl rfl)
      · refine lv_iconst (v := 1) hx hb dX3_isMet_86 (by decide) ?_
        refine lv_goto (tgt := 91) hx hb dX3_isMet_87 (by decide) ?_
        exact jn _ (Or.inr rfl)
    by_cases hs_15 : (k >>> (1 &&& 31)) = 3
    · refine q_toc (y := 3) hs_15 ?_
      refine lv_tableIn (off := 77) (tgt := 92) hx hb dX3_isMet_15 (by decide) (by decide) (by decide) (by decide) ?_
      refine lv_aload_n hx hb dX3_isMet_92 rfl (lv_at hl 1 rfl) ?_
      refine va_get (D := (dC, dI)) (ci := 3) (v := .ref aF) (C := RX3) (T := TX3) (N := 2) hx hb hts (by decide +kernel) hown hK hP 0 rfl rfl 1 (by decide) (hts (.fieldLink RX3 12 "WordGuest$Processor" "conditions" "LWordGuest$Flags;") (by decide +kernel)) (fun _ h9 => h9) rfl dX3_isMet_93 ?_
      refine va_getN (D := (dC, dI)) (ci := 0) (v := .int fz) (C := RX0) (T := TX0) (N := 4) hx hb hts (by decide +kernel) hown hK hP 1 rfl rfl 1 (by decide) ((va_Nw.use rfl (hN _ (List.mem_of_getElem? (i := 5) rfl)))) (fun _ h9 => h9) rfl dX3_isMet_96 ?_
      refine lv_if_ne (tgt := 112) hx hb dX3_isMet_99 (by decide) (fun c_16 => ?_) (fun c_16 => ?_)
      · refine lv_iconst (v := 1) hx hb dX3_isMet_112 (by decide) ?_
        refine lv_goto (tgt := 117) hx hb dX3_isMet_113 (by decide) ?_
        refine lv_iload_n hx hb dX3_isMet_117 rfl (lv_at hl 0 rfl) ?_
        refine q_bool (ls := ls) 126 [] (fun b_18 hb_19 => ?_) (fun jn => ?_)
        · have hP9 := hP.sub (ws' := [(aP, .inr (3, [.ref aR, .ref aF])), (aF, .inr (0, [.int fn, .int fz, .int fv, .int fc]))]) [0, 1] rfl
          have hD9 := hD.sub (ws' := [(aP, .inr (3, [.ref aR, .ref aF])), (aF, .inr (0, [.int fn, .int fz, .int fv, .int fc]))]) [0, 1] (by decide) rfl
          have hK9 := hK.sub (tys' := []) [] rfl
          exact W.zret (v := b_18) (ty := .boolean) hx hb hr (q_nz hb_19) (fun t ht hW => ⟨⟨b_18, (), rfl, hb_19, by rw [ht]; exact hP9, va_K.moved hW.alike hK9, hD9⟩, hS.F ht⟩) hS.2.2 dX3_isMet_126
        refine lv_icmp_ne (tgt := 125) hx hb dX3_isMet_118 (by decide) (fun c_17 => ?_) (fun c_17 => ?_)
        · refine lv_iconst (v := 0) hx hb dX3_isMet_125 (by decide) ?_
          exact jn _ (Or.inl rfl)
        · refine lv_iconst (v := 1) hx hb dX3_isMet_121 (by decide) ?_
          refine lv_goto (tgt := 126) hx hb dX3_isMet_122 (by decide) ?_
          exact jn _ (Or.inr rfl)
      · refine lv_aload_n hx hb dX3_isMet_102 rfl (lv_at hl 1 rfl) ?_
        refine va_get (D := (dC, dI)) (ci := 3) (v := .ref aF) (C := RX3) (T := TX3) (N := 2) hx hb hts (by decide +kernel) hown hK hP 0 rfl rfl 1 (by decide) (hts (.fieldLink RX3 12 "WordGuest$Processor" "conditions" "LWordGuest$Flags;") (by decide +kernel)) (fun _ h9 => h9) rfl dX3_isMet_103 ?_
        have hPc := hP.sub (ws' := [(aF, .inr (0, [.int fn, .int fz, .int fv, .int fc]))]) [1] rfl
        have hDc := hD.sub (ws' := [(aF, .inr (0, [.int fn, .int fz, .int fv, .int fc]))]) [1] (by decide) rfl
        have hKc := hK.sub (tys' := []) [] rfl
        have hFc := va_free (wc := [(aF, .inr (0, [.int fn, .int fz, .int fv, .int fc]))]) hD hS hA [1] rfl
        refine va_calli (va_runV (C := RX0) (b := aF) (As := []) (rest := []) ⟨hx, hb, hml, hown, hts⟩ (s_X0_below l dC dI s.heap.size aF fn fz fv fc) (cwV 0 hts gX3_isMet_X0_below rfl rfl rfl (by decide +kernel) ⟨Nat.le_of_ble_eq_true rfl, Nat.le_of_ble_eq_true rfl⟩) ⟨q_blind, va_recv hK hP (ci := 0) (q0 := 1) rfl rfl, fun U hU hW => ⟨rfl, q_pay hU hW hPc hKc hDc hN⟩⟩ rfl rfl hl.1 rfl (lv_room (Nat.le_of_ble_eq_true rfl)) dX3_isMet_106 ⟨show 0 + 0 ≤ 0 from by omega, show 0 + 0 ≤ 0 from by omega⟩) hS (fun q _ h => hFc q h) hFc (fun r_20 u9 t H locs ht hvm hw_21 hB hz1 hk1 hS => ?_)
        obtain ⟨hP1, hK1, hD1⟩ := hB
        rw [ht] at hP1
        obtain ⟨hP, hD⟩ := va_join (wr := [(aP, .inr (3, [.ref aR, .ref aF]))]) (w1 := [(aF, .inr (0, [.int fn, .int fz, .int fv, .int fc]))]) hP hD [1] [0] rfl rfl (by decide) (by decide) hk1 hFc hP1 hD1
        have hP : va_P (dC, dI) vwCl [(aP, .inr (3, [.ref aR, .ref aF])), (aF, .inr (0, [.int fn, .int fz, .int fv, .int fc]))] H := hP
        have hD : va_D A [(aP, .inr (3, [.ref aR, .ref aF])), (aF, .inr (0, [.int fn, .int fz, .int fv, .int fc]))] := hD
        refine W.widen (k := 0) (n := 0) (by omega) (by omega) ?_
        try dsimp only at hw_21
        refine q_bool (ls := ls) 117 [] (fun b_23 hb_24 => ?_) (fun jn => ?_)
        · refine lv_iload_n hx hb dX3_isMet_117 rfl (lv_at hl 0 rfl) ?_
          refine q_bool (ls := ls) 126 [] (fun b_26 hb_27 => ?_) (fun jn => ?_)
          · have hP9 := hP.sub (ws' := [(aP, .inr (3, [.ref aR, .ref aF])), (aF, .inr (0, [.int fn, .int fz, .int fv, .int fc]))]) [0, 1] rfl
            have hD9 := hD.sub (ws' := [(aP, .inr (3, [.ref aR, .ref aF])), (aF, .inr (0, [.int fn, .int fz, .int fv, .int fc]))]) [0, 1] (by decide) rfl
            have hK9 := hK.sub (tys' := []) [] rfl
            exact W.zret (v := b_26) (ty := .boolean) hx hb hr (q_nz hb_27) (fun t ht hW => ⟨⟨b_26, (), rfl, hb_27, by rw [ht]; exact hP9, va_K.moved hW.alike hK9, hD9⟩, hS.F ht⟩) hS.2.2 dX3_isMet_126
          refine lv_icmp_ne (tgt := 125) hx hb dX3_isMet_118 (by decide) (fun c_25 => ?_) (fun c_25 => ?_)
          · refine lv_iconst (v := 0) hx hb dX3_isMet_125 (by decide) ?_
            exact jn _ (Or.inl rfl)
          · refine lv_iconst (v := 1) hx hb dX3_isMet_121 (by decide) ?_
            refine lv_goto (tgt := 126) hx hb dX3_isMet_122 (by decide) ?_
            exact jn _ (Or.inr rfl)
        refine lv_if_eq (tgt := 116) hx hb dX3_isMet_109 (by decide) (fun c_22 => ?_) (fun c_22 => ?_)
        · refine lv_iconst (v := 0) hx hb dX3_isMet_116 (by decide) ?_
          exact jn _ (Or.inl rfl)
        · refine lv_iconst (v := 1) hx hb dX3_isMet_112 (by decide) ?_
          refine lv_goto (tgt := 117) hx hb dX3_isMet_113 (by decide) ?_
          exact jn _ (Or.inr rfl)
    by_cases hs_28 : (k >>> (1 &&& 31)) = 4
    · refine q_toc (y := 4) hs_28 ?_
      refine lv_tableIn (off := 112) (tgt := 127) hx hb dX3_isMet_15 (by decide) (by decide) (by decide) (by decide) ?_
      refine lv_aload_n hx hb dX3_isMet_127 rfl (lv_at hl 1 rfl) ?_
      refine va_get (D := (dC, dI)) (ci := 3) (v := .ref aF) (C := RX3) (T := TX3) (N := 2) hx hb hts (by decide +kernel) hown hK hP 0 rfl rfl 1 (by decide) (hts (.fieldLink RX3 12 "WordGuest$Processor" "conditions" "LWordGuest$Flags;") (by decide +kernel)) (fun _ h9 => h9) rfl dX3_isMet_128 ?_
      refine va_getN (D := (dC, dI)) (ci := 0) (v := .int fn) (C := RX0) (T := TX0) (N := 4) hx hb hts (by decide +kernel) hown hK hP 1 rfl rfl 0 (by decide) ((va_Nw.use rfl (hN _ (List.mem_of_getElem? (i := 4) rfl)))) (fun _ h9 => h9) rfl dX3_isMet_131 ?_
      refine lv_iload_n hx hb dX3_isMet_134 rfl (lv_at hl 0 rfl) ?_
      refine q_bool (ls := ls) 143 [] (fun b_30 hb_31 => ?_) (fun jn => ?_)
      · have hP9 := hP.sub (ws' := [(aP, .inr (3, [.ref aR, .ref aF])), (aF, .inr (0, [.int fn, .int fz, .int fv, .int fc]))]) [0, 1] rfl
        have hD9 := hD.sub (ws' := [(aP, .inr (3, [.ref aR, .ref aF])), (aF, .inr (0, [.int fn, .int fz, .int fv, .int fc]))]) [0, 1] (by decide) rfl
        have hK9 := hK.sub (tys' := []) [] rfl
        exact W.zret (v := b_30) (ty := .boolean) hx hb hr (q_nz hb_31) (fun t ht hW => ⟨⟨b_30, (), rfl, hb_31, by rw [ht]; exact hP9, va_K.moved hW.alike hK9, hD9⟩, hS.F ht⟩) hS.2.2 dX3_isMet_143
      refine lv_icmp_ne (tgt := 142) hx hb dX3_isMet_135 (by decide) (fun c_29 => ?_) (fun c_29 => ?_)
      · refine lv_iconst (v := 0) hx hb dX3_isMet_142 (by decide) ?_
        exact jn _ (Or.inl rfl)
      · refine lv_iconst (v := 1) hx hb dX3_isMet_138 (by decide) ?_
        refine lv_goto (tgt := 143) hx hb dX3_isMet_139 (by decide) ?_
        exact jn _ (Or.inr rfl)
    by_cases hs_32 : (k >>> (1 &&& 31)) = 5
    · refine q_toc (y := 5) hs_32 ?_
      refine lv_tableIn (off := 129) (tgt := 144) hx hb dX3_isMet_15 (by decide) (by decide) (by decide) (by decide) ?_
      refine lv_aload_n hx hb dX3_isMet_144 rfl (lv_at hl 1 rfl) ?_
      refine va_get (D := (dC, dI)) (ci := 3) (v := .ref aF) (C := RX3) (T := TX3) (N := 2) hx hb hts (by decide +kernel) hown hK hP 0 rfl rfl 1 (by decide) (hts (.fieldLink RX3 12 "WordGuest$Processor" "conditions" "LWordGuest$Flags;") (by decide +kernel)) (fun _ h9 => h9) rfl dX3_isMet_145 ?_
      refine va_getN (D := (dC, dI)) (ci := 0) (v := .int fc) (C := RX0) (T := TX0) (N := 4) hx hb hts (by decide +kernel) hown hK hP 1 rfl rfl 3 (by decide) ((va_Nw.use rfl (hN _ (List.mem_of_getElem? (i := 7) rfl)))) (fun _ h9 => h9) rfl dX3_isMet_148 ?_
      refine lv_if_ne (tgt := 164) hx hb dX3_isMet_151 (by decide) (fun c_33 => ?_) (fun c_33 => ?_)
      · refine lv_iconst (v := 1) hx hb dX3_isMet_164 (by decide) ?_
        refine lv_goto (tgt := 169) hx hb dX3_isMet_165 (by decide) ?_
        refine lv_iload_n hx hb dX3_isMet_169 rfl (lv_at hl 0 rfl) ?_
        refine q_bool (ls := ls) 178 [] (fun b_35 hb_36 => ?_) (fun jn => ?_)
        · have hP9 := hP.sub (ws' := [(aP, .inr (3, [.ref aR, .ref aF])), (aF, .inr (0, [.int fn, .int fz, .int fv, .int fc]))]) [0, 1] rfl
          have hD9 := hD.sub (ws' := [(aP, .inr (3, [.ref aR, .ref aF])), (aF, .inr (0, [.int fn, .int fz, .int fv, .int fc]))]) [0, 1] (by decide) rfl
          have hK9 := hK.sub (tys' := []) [] rfl
          exact W.zret (v := b_35) (ty := .boolean) hx hb hr (q_nz hb_36) (fun t ht hW => ⟨⟨b_35, (), rfl, hb_36, by rw [ht]; exact hP9, va_K.moved hW.alike hK9, hD9⟩, hS.F ht⟩) hS.2.2 dX3_isMet_178
        refine lv_icmp_ne (tgt := 177) hx hb dX3_isMet_170 (by decide) (fun c_34 => ?_) (fun c_34 => ?_)
        · refine lv_iconst (v := 0) hx hb dX3_isMet_177 (by decide) ?_
          exact jn _ (Or.inl rfl)
        · refine lv_iconst (v := 1) hx hb dX3_isMet_173 (by decide) ?_
          refine lv_goto (tgt := 178) hx hb dX3_isMet_174 (by decide) ?_
          exact jn _ (Or.inr rfl)
      · refine lv_aload_n hx hb dX3_isMet_154 rfl (lv_at hl 1 rfl) ?_
        refine va_get (D := (dC, dI)) (ci := 3) (v := .ref aF) (C := RX3) (T := TX3) (N := 2) hx hb hts (by decide +kernel) hown hK hP 0 rfl rfl 1 (by decide) (hts (.fieldLink RX3 12 "WordGuest$Processor" "conditions" "LWordGuest$Flags;") (by decide +kernel)) (fun _ h9 => h9) rfl dX3_isMet_155 ?_
        refine va_getN (D := (dC, dI)) (ci := 0) (v := .int fz) (C := RX0) (T := TX0) (N := 4) hx hb hts (by decide +kernel) hown hK hP 1 rfl rfl 1 (by decide) ((va_Nw.use rfl (hN _ (List.mem_of_getElem? (i := 5) rfl)))) (fun _ h9 => h9) rfl dX3_isMet_158 ?_
        refine q_bool (ls := ls) 169 [] (fun b_38 hb_39 => ?_) (fun jn => ?_)
        · refine lv_iload_n hx hb dX3_isMet_169 rfl (lv_at hl 0 rfl) ?_
          refine q_bool (ls := ls) 178 [] (fun b_41 hb_42 => ?_) (fun jn => ?_)
          · have hP9 := hP.sub (ws' := [(aP, .inr (3, [.ref aR, .ref aF])), (aF, .inr (0, [.int fn, .int fz, .int fv, .int fc]))]) [0, 1] rfl
            have hD9 := hD.sub (ws' := [(aP, .inr (3, [.ref aR, .ref aF])), (aF, .inr (0, [.int fn, .int fz, .int fv, .int fc]))]) [0, 1] (by decide) rfl
            have hK9 := hK.sub (tys' := []) [] rfl
            exact W.zret (v := b_41) (ty := .boolean) hx hb hr (q_nz hb_42) (fun t ht hW => ⟨⟨b_41, (), rfl, hb_42, by rw [ht]; exact hP9, va_K.moved hW.alike hK9, hD9⟩, hS.F ht⟩) hS.2.2 dX3_isMet_178
          refine lv_icmp_ne (tgt := 177) hx hb dX3_isMet_170 (by decide) (fun c_40 => ?_) (fun c_40 => ?_)
          · refine lv_iconst (v := 0) hx hb dX3_isMet_177 (by decide) ?_
            exact jn _ (Or.inl rfl)
          · refine lv_iconst (v := 1) hx hb dX3_isMet_173 (by decide) ?_
            refine lv_goto (tgt := 178) hx hb dX3_isMet_174 (by decide) ?_
            exact jn _ (Or.inr rfl)
        refine lv_if_eq (tgt := 168) hx hb dX3_isMet_161 (by decide) (fun c_37 => ?_) (fun c_37 => ?_)
        · refine lv_iconst (v := 0) hx hb dX3_isMet_168 (by decide) ?_
          exact jn _ (Or.inl rfl)
        · refine lv_iconst (v := 1) hx hb dX3_isMet_164 (by decide) ?_
          refine lv_goto (tgt := 169) hx hb dX3_isMet_165 (by decide) ?_
          exact jn _ (Or.inr rfl)
    by_cases hs_43 : (k >>> (1 &&& 31)) = 6
    · refine q_toc (y := 6) hs_43 ?_
      refine lv_tableIn (off := 164) (tgt := 179) hx hb dX3_isMet_15 (by decide) (by decide) (by decide) (by decide) ?_
      refine lv_aload_n hx hb dX3_isMet_179 rfl (lv_at hl 1 rfl) ?_
      refine va_get (D := (dC, dI)) (ci := 3) (v := .ref aF) (C := RX3) (T := TX3) (N := 2) hx hb hts (by decide +kernel) hown hK hP 0 rfl rfl 1 (by decide) (hts (.fieldLink RX3 12 "WordGuest$Processor" "conditions" "LWordGuest$Flags;") (by decide +kernel)) (fun _ h9 => h9) rfl dX3_isMet_180 ?_
      refine va_getN (D := (dC, dI)) (ci := 0) (v := .int fv) (C := RX0) (T := TX0) (N := 4) hx hb hts (by decide +kernel) hown hK hP 1 rfl rfl 2 (by decide) ((va_Nw.use rfl (hN _ (List.mem_of_getElem? (i := 6) rfl)))) (fun _ h9 => h9) rfl dX3_isMet_183 ?_
      refine lv_iload_n hx hb dX3_isMet_186 rfl (lv_at hl 0 rfl) ?_
      refine q_bool (ls := ls) 195 [] (fun b_45 hb_46 => ?_) (fun jn => ?_)
      · have hP9 := hP.sub (ws' := [(aP, .inr (3, [.ref aR, .ref aF])), (aF, .inr (0, [.int fn, .int fz, .int fv, .int fc]))]) [0, 1] rfl
        have hD9 := hD.sub (ws' := [(aP, .inr (3, [.ref aR, .ref aF])), (aF, .inr (0, [.int fn, .int fz, .int fv, .int fc]))]) [0, 1] (by decide) rfl
        have hK9 := hK.sub (tys' := []) [] rfl
        exact W.zret (v := b_45) (ty := .boolean) hx hb hr (q_nz hb_46) (fun t ht hW => ⟨⟨b_45, (), rfl, hb_46, by rw [ht]; exact hP9, va_K.moved hW.alike hK9, hD9⟩, hS.F ht⟩) hS.2.2 dX3_isMet_195
      refine lv_icmp_ne (tgt := 194) hx hb dX3_isMet_187 (by decide) (fun c_44 => ?_) (fun c_44 => ?_)
      · refine lv_iconst (v := 0) hx hb dX3_isMet_194 (by decide) ?_
        exact jn _ (Or.inl rfl)
      · refine lv_iconst (v := 1) hx hb dX3_isMet_190 (by decide) ?_
        refine lv_goto (tgt := 195) hx hb dX3_isMet_191 (by decide) ?_
        exact jn _ (Or.inr rfl)
    refine lv_tableOut (tgt := 196) hx hb dX3_isMet_15 (by have n0 := lv_neT hs_4 (show (0 : Int32).toInt = 0 from rfl); have n1 := lv_neT hs_5 (show (1 : Int32).toInt = 1 from rfl); have n2 := lv_neT hs_9 (show (2 : Int32).toInt = 2 from rfl); have n3 := lv_neT hs_15 (show (3 : Int32).toInt = 3 from rfl); have n4 := lv_neT hs_28 (show (4 : Int32).toInt = 4 from rfl); have n5 := lv_neT hs_32 (show (5 : Int32).toInt = 5 from rfl); have n6 := lv_neT hs_43 (show (6 : Int32).toInt = 6 from rfl); omega) (by decide) ?_
    refine lv_aload_n hx hb dX3_isMet_196 rfl (lv_at hl 1 rfl) ?_
    refine va_get (D := (dC, dI)) (ci := 3) (v := .ref aF) (C := RX3) (T := TX3) (N := 2) hx hb hts (by decide +kernel) hown hK hP 0 rfl rfl 1 (by decide) (hts (.fieldLink RX3 12 "WordGuest$Processor" "conditions" "LWordGuest$Flags;") (by decide +kernel)) (fun _ h9 => h9) rfl dX3_isMet_197 ?_
    refine va_getN (D := (dC, dI)) (ci := 0) (v := .int fc) (C := RX0) (T := TX0) (N := 4) hx hb hts (by decide +kernel) hown hK hP 1 rfl rfl 3 (by decide) ((va_Nw.use rfl (hN _ (List.mem_of_getElem? (i := 7) rfl)))) (fun _ h9 => h9) rfl dX3_isMet_200 ?_
    refine lv_iload_n hx hb dX3_isMet_203 rfl (lv_at hl 0 rfl) ?_
    refine q_bool (ls := ls) 212 [] (fun b_48 hb_49 => ?_) (fun jn => ?_)
    · have hP9 := hP.sub (ws' := [(aP, .inr (3, [.ref aR, .ref aF])), (aF, .inr (0, [.int fn, .int fz, .int fv, .int fc]))]) [0, 1] rfl
      have hD9 := hD.sub (ws' := [(aP, .inr (3, [.ref aR, .ref aF])), (aF, .inr (0, [.int fn, .int fz, .int fv, .int fc]))]) [0, 1] (by decide) rfl
      have hK9 := hK.sub (tys' := []) [] rfl
      exact W.zret (v := b_48) (ty := .boolean) hx hb hr (q_nz hb_49) (fun t ht hW => ⟨⟨b_48, (), rfl, hb_49, by rw [ht]; exact hP9, va_K.moved hW.alike hK9, hD9⟩, hS.F ht⟩) hS.2.2 dX3_isMet_212
    refine lv_icmp_ne (tgt := 211) hx hb dX3_isMet_204 (by decide) (fun c_47 => ?_) (fun c_47 => ?_)
    · refine lv_iconst (v := 0) hx hb dX3_isMet_211 (by decide) ?_
      exact jn _ (Or.inl rfl)
    · refine lv_iconst (v := 1) hx hb dX3_isMet_207 (by decide) ?_
      refine lv_goto (tgt := 212) hx hb dX3_isMet_208 (by decide) ?_
      exact jn _ (Or.inr rfl)
  refine lv_if_eq (tgt := 10) hx hb dX3_isMet_3 (by decide) (fun c_1 => ?_) (fun c_1 => ?_)
  · refine lv_iconst (v := 0) hx hb dX3_isMet_10 (by decide) ?_
    exact jn _ (Or.inl rfl)
  · refine lv_iconst (v := 1) hx hb dX3_isMet_6 (by decide) ?_
    refine lv_goto (tgt := 11) hx hb dX3_isMet_7 (by decide) ?_
    exact jn _ (Or.inr rfl)
set_option maxHeartbeats 4000000 in
set_option maxRecDepth 100000 in
theorem s_X3_refuse (l : Launch) (dC : Nat → ClassId) (dI : Nat → Nat → Nat) (sz : Nat) (aP : Nat) (aR : Nat) (aF : Nat) (aM : Nat) (aA : Nat) (aB : Nat) (fault : Int32)  : Met l yX3_refuse wsX3_refuse ({ frames := 0, cells := 0, slots := 0, locals := 0 }) (va_Pc [.ref aP] (q_pre dC dI sz [(aP, .inr (3, [.ref aR, .ref aF])), (aR, .inr (2, [.ref aM, .ref aA, .ref aB, .int fault]))] [])) (va_Qv (fun (u9 : Int32) => True) (q_at dC dI (va_A [(aP, .inr (3, [.ref aR, .ref aF])), (aR, .inr (2, [.ref aM, .ref aA, .ref aB, .int fault]))] sz) (fun (u9 : Int32) => []) (fun (u9 : Int32) => [(aP, .inr (3, [.ref aR, .ref aF])), (aR, .inr (2, [.ref aM, .ref aA, .ref aB, .int u9]))])) (va_A [(aP, .inr (3, [.ref aR, .ref aF])), (aR, .inr (2, [.ref aM, .ref aA, .ref aB, .int fault]))] sz)) 0 0 (va_A [(aP, .inr (3, [.ref aR, .ref aF])), (aR, .inr (2, [.ref aM, .ref aA, .ref aB, .int fault]))] sz) := by
  refine Met.ofW (cc := cX3_refuse) (maxL := 1) (ret := none) (by decide) rfl ?_
  intro p e s m args below meth c s₁ B hml hv
  obtain ⟨rfl, hsz, hP, hK, hD0, hN⟩ := hv
  have hx := B.exec
  have hb := B.bytes
  have hr := B.returns
  have hts := atoms_spec (ws := wsX3_refuse) B.pre
  have hown : s.vm.findClass RX3 = some m.cls := findClass_of_methodNamed B.named
  have hlocks := B.notSynchronized
  subst hsz
  have hD := hD0.self (sz := s.heap.size)
  generalize hAe : va_A [(aP, .inr (3, [.ref aR, .ref aF])), (aR, .inr (2, [.ref aM, .ref aA, .ref aB, .int fault]))] s.heap.size = A at hD ⊢
  have hA : ∀ q : Nat, s.heap.size ≤ q → A q := fun q h => by rw [← hAe]; exact Or.inr h
  have hS : va_S A s.heap s.heap [] := va_S.rf
  have hP : va_P (dC, dI) vwCl [(aP, .inr (3, [.ref aR, .ref aF])), (aR, .inr (2, [.ref aM, .ref aA, .ref aB, .int fault]))] s.heap := hP
  have hl := lv_entry ([.ref aP]) (n := 1) (Nat.le_of_ble_eq_true rfl)
  rw [lg_entry_eq]
  generalize (lg_sl ([.ref aP]) ++ List.replicate (1 - (lg_sl ([.ref aP])).length) Slot.unset).toArray = ls at hl ⊢
  have hl : lv_has ls 1 [(0, .ref aP)] := hl
  refine lv_aload_n hx hb dX3_refuse_0 rfl (lv_at hl 0 rfl) ?_
  refine va_get (D := (dC, dI)) (ci := 3) (v := .ref aR) (C := RX3) (T := TX3) (N := 2) hx hb hts (by decide +kernel) hown hK hP 0 rfl rfl 0 (by decide) (hts (.fieldLink RX3 23 "WordGuest$Processor" "parts" "LWordGuest$Parts;") (by decide +kernel)) (fun _ h9 => h9) rfl dX3_refuse_1 ?_
  refine lv_iconst (v := 4) hx hb dX3_refuse_4 (by decide) ?_
  refine va_putN (D := (dC, dI)) (ci := 2) (v := .int 4) (ty := .int) (C := RX2) (T := TX2) (N := 4) hx hb hts (by decide +kernel) tyX2 tyX2_ok nmX2 hown hK hP hD hS 1 rfl rfl 3 (by decide) ((va_Nw.use rfl (hN _ (List.mem_of_getElem? (i := 10) rfl)))) (fun _ h9 => h9) rfl (by decide +kernel) rfl rfl (Nat.le_of_ble_eq_true rfl) dX3_refuse_5 (fun H locs hP hD hS => ?_)
  have hP : va_P (dC, dI) vwCl [(aP, .inr (3, [.ref aR, .ref aF])), (aR, .inr (2, [.ref aM, .ref aA, .ref aB, .int 4]))] H := hP
  have hD : va_D A [(aP, .inr (3, [.ref aR, .ref aF])), (aR, .inr (2, [.ref aM, .ref aA, .ref aB, .int 4]))] := hD
  have hP9 := hP.sub (ws' := [(aP, .inr (3, [.ref aR, .ref aF])), (aR, .inr (2, [.ref aM, .ref aA, .ref aB, .int 4]))]) [0, 1] rfl
  have hD9 := hD.sub (ws' := [(aP, .inr (3, [.ref aR, .ref aF])), (aR, .inr (2, [.ref aM, .ref aA, .ref aB, .int 4]))]) [0, 1] (by decide) rfl
  have hK9 := hK.sub (tys' := []) [] rfl
  exact W.vret hx hb hr (fun t ht hW => ⟨⟨4, rfl, trivial, by rw [ht]; exact hP9, va_K.moved hW.alike hK9, hD9⟩, hS.F ht⟩) hS.2.2 dX3_refuse_8
