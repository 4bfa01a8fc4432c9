set_option maxHeartbeats 4000000 in
set_option maxRecDepth 100000 in
theorem s_X0_number (l : Launch) (dC : Nat → ClassId) (dI : Nat → Nat → Nat) (sz : Nat) (aF : Nat) (fn : Int32) (fz : Int32) (fv : Int32) (fc : Int32)  : Met l yX0_number wsX0_number ({ frames := 0, cells := 0, slots := 0, locals := 0 }) (va_Pc [.ref aF] (q_pre dC dI sz [(aF, .inr (0, [.int fn, .int fz, .int fv, .int fc]))] [])) (va_Qi (fun (r : Int32) (u9 : Unit) => True) (q_at dC dI (va_A [(aF, .inr (0, [.int fn, .int fz, .int fv, .int fc]))] sz) (fun (u9 : Unit) => []) (fun (u9 : Unit) => [(aF, .inr (0, [.int fn, .int fz, .int fv, .int fc]))])) (va_A [(aF, .inr (0, [.int fn, .int fz, .int fv, .int fc]))] sz)) 0 0 (va_A [(aF, .inr (0, [.int fn, .int fz, .int fv, .int fc]))] sz) := by
  refine Met.ofW (cc := cX0_number) (maxL := 1) (ret := (some .int)) (by decide) rfl ?_
  intro p e s m args below meth c s₁ B hml hv
  obtain ⟨rfl, hsz, hP, hK, hD0, hN⟩ := hv
  have hx := B.exec
  have hb := B.bytes
  have hr := B.returns
  have hts := atoms_spec (ws := wsX0_number) B.pre
  have hown : s.vm.findClass RX0 = some m.cls := findClass_of_methodNamed B.named
  have hlocks := B.notSynchronized
  subst hsz
  have hD := hD0.self (sz := s.heap.size)
  generalize hAe : va_A [(aF, .inr (0, [.int fn, .int fz, .int fv, .int fc]))] s.heap.size = A at hD ⊢
  have hA : ∀ q : Nat, s.heap.size ≤ q → A q := fun q h => by rw [← hAe]; exact Or.inr h
  have hS : va_S A s.heap s.heap [] := va_S.rf
  have hP : va_P (dC, dI) vwCl [(aF, .inr (0, [.int fn, .int fz, .int fv, .int fc]))] s.heap := hP
  have hl := lv_entry ([.ref aF]) (n := 1) (Nat.le_of_ble_eq_true rfl)
  rw [lg_entry_eq]
  generalize (lg_sl ([.ref aF]) ++ List.replicate (1 - (lg_sl ([.ref aF])).length) Slot.unset).toArray = ls at hl ⊢
  have hl : lv_has ls 1 [(0, .ref aF)] := hl
  refine lv_aload_n hx hb dX0_number_0 rfl (lv_at hl 0 rfl) ?_
  refine va_get (D := (dC, dI)) (ci := 0) (v := .int fn) (C := RX0) (T := TX0) (N := 4) hx hb hts (by decide +kernel) hown hK hP 0 rfl rfl 0 (by decide) (hts (.fieldLink RX0 7 "WordGuest$Flags" "n" "Z") (by decide +kernel)) (fun _ h9 => h9) rfl dX0_number_1 ?_
  refine q_any (ls := ls) 13 [] (fun b_2 => ?_) (fun jn => ?_)
  · refine lv_aload_n hx hb dX0_number_13 rfl (lv_at hl 0 rfl) ?_
    refine va_get (D := (dC, dI)) (ci := 0) (v := .int fz) (C := RX0) (T := TX0) (N := 4) hx hb hts (by decide +kernel) hown hK hP 0 rfl rfl 1 (by decide) (hts (.fieldLink RX0 13 "WordGuest$Flags" "z" "Z") (by decide +kernel)) (fun _ h9 => h9) rfl dX0_number_14 ?_
    refine q_any (ls := ls) 25 [.int b_2] (fun b_5 => ?_) (fun jn => ?_)
    · refine lv_ior hx hb dX0_number_25 ?_
      refine lv_aload_n hx hb dX0_number_26 rfl (lv_at hl 0 rfl) ?_
      refine va_get (D := (dC, dI)) (ci := 0) (v := .int fv) (C := RX0) (T := TX0) (N := 4) hx hb hts (by decide +kernel) hown hK hP 0 rfl rfl 2 (by decide) (hts (.fieldLink RX0 16 "WordGuest$Flags" "v" "Z") (by decide +kernel)) (fun _ h9 => h9) rfl dX0_number_27 ?_
      refine q_any (ls := ls) 38 [.int (b_2 ||| b_5)] (fun b_8 => ?_) (fun jn => ?_)
      · refine lv_ior hx hb dX0_number_38 ?_
        refine lv_aload_n hx hb dX0_number_39 rfl (lv_at hl 0 rfl) ?_
        refine va_get (D := (dC, dI)) (ci := 0) (v := .int fc) (C := RX0) (T := TX0) (N := 4) hx hb hts (by decide +kernel) hown hK hP 0 rfl rfl 3 (by decide) (hts (.fieldLink RX0 19 "WordGuest$Flags" "c" "Z") (by decide +kernel)) (fun _ h9 => h9) rfl dX0_number_40 ?_
        refine q_bool (ls := ls) 51 [.int ((b_2 ||| b_5) ||| b_8)] (fun b_11 hb_12 => ?_) (fun jn => ?_)
        · refine lv_ior hx hb dX0_number_51 ?_
          have hP9 := hP.sub (ws' := [(aF, .inr (0, [.int fn, .int fz, .int fv, .int fc]))]) [0] rfl
          have hD9 := hD.sub (ws' := [(aF, .inr (0, [.int fn, .int fz, .int fv, .int fc]))]) [0] (by decide) rfl
          have hK9 := hK.sub (tys' := []) [] rfl
          exact W.iret (v := ((b_2 ||| b_5) ||| b_8) ||| b_11) hx hb hr (fun t ht hW => ⟨⟨((b_2 ||| b_5) ||| b_8) ||| b_11, (), rfl, trivial, by rw [ht]; exact hP9, va_K.moved hW.alike hK9, hD9⟩, hS.F ht⟩) hS.2.2 dX0_number_52
        refine lv_if_eq (tgt := 50) hx hb dX0_number_43 (by decide) (fun c_10 => ?_) (fun c_10 => ?_)
        · refine lv_iconst (v := 0) hx hb dX0_number_50 (by decide) ?_
          exact jn _ (Or.inl rfl)
        · refine lv_iconst (v := 1) hx hb dX0_number_46 (by decide) ?_
          refine lv_goto (tgt := 51) hx hb dX0_number_47 (by decide) ?_
          exact jn _ (Or.inr rfl)
      refine lv_if_eq (tgt := 37) hx hb dX0_number_30 (by decide) (fun c_7 => ?_) (fun c_7 => ?_)
      · refine lv_iconst (v := 0) hx hb dX0_number_37 (by decide) ?_
        exact jn _
      · refine lv_iconst (v := 2) hx hb dX0_number_33 (by decide) ?_
        refine lv_goto (tgt := 38) hx hb dX0_number_34 (by decide) ?_
        exact jn _
    refine lv_if_eq (tgt := 24) hx hb dX0_number_17 (by decide) (fun c_4 => ?_) (fun c_4 => ?_)
    · refine lv_iconst (v := 0) hx hb dX0_number_24 (by decide) ?_
      exact jn _
    · refine lv_iconst (v := 4) hx hb dX0_number_20 (by decide) ?_
      refine lv_goto (tgt := 25) hx hb dX0_number_21 (by decide) ?_
      exact jn _
  refine lv_if_eq (tgt := 12) hx hb dX0_number_4 (by decide) (fun c_1 => ?_) (fun c_1 => ?_)
  · refine lv_iconst (v := 0) hx hb dX0_number_12 (by decide) ?_
    exact jn _
  · refine lv_bipush (v := 8) hx hb dX0_number_7 (by decide) ?_
    refine lv_goto (tgt := 13) hx hb dX0_number_9 (by decide) ?_
    exact jn _
set_option maxHeartbeats 4000000 in
set_option maxRecDepth 100000 in
theorem s_X0_become (l : Launch) (dC : Nat → ClassId) (dI : Nat → Nat → Nat) (sz : Nat) (aF : Nat) (k : Int32) (fn : Int32) (fz : Int32) (fv : Int32) (fc : Int32)  : Met l yX0_become wsX0_become ({ frames := 0, cells := 0, slots := 0, locals := 0 }) (va_Pc [.ref aF, .int k] (q_pre dC dI sz [(aF, .inr (0, [.int fn, .int fz, .int fv, .int fc]))] [])) (va_Qv (fun (u9 : Int32 × Int32 × Int32 × Int32) => True) (q_at dC dI (va_A [(aF, .inr (0, [.int fn, .int fz, .int fv, .int fc]))] sz) (fun (u9 : Int32 × Int32 × Int32 × Int32) => []) (fun (u9 : Int32 × Int32 × Int32 × Int32) => [(aF, .inr (0, [.int u9.1, .int u9.2.1, .int u9.2.2.1, .int u9.2.2.2]))])) (va_A [(aF, .inr (0, [.int fn, .int fz, .int fv, .int fc]))] sz)) 0 0 (va_A [(aF, .inr (0, [.int fn, .int fz, .int fv, .int fc]))] sz) := by
  refine Met.ofW (cc := cX0_become) (maxL := 2) (ret := none) (by decide) rfl ?_
  intro p e s m args below meth c s₁ B hml hv
  obtain ⟨rfl, hsz, hP, hK, hD0, hN⟩ := hv
  have hx := B.exec
  have hb := B.bytes
  have hr := B.returns
  have hts := atoms_spec (ws := wsX0_become) B.pre
  have hown : s.vm.findClass RX0 = some m.cls := findClass_of_methodNamed B.named
  have hlocks := B.notSynchronized
  subst hsz
  have hD := hD0.self (sz := s.heap.size)
  generalize hAe : va_A [(aF, .inr (0, [.int fn, .int fz, .int fv, .int fc]))] s.heap.size = A at hD ⊢
  have hA : ∀ q : Nat, s.heap.size ≤ q → A q := fun q h => by rw [← hAe]; exact Or.inr h
  have hS : va_S A s.heap s.heap [] := va_S.rf
  have hP : va_P (dC, dI) vwCl [(aF, .inr (0, [.int fn, .int fz, .int fv, .int fc]))] s.heap := hP
  have hl := lv_entry ([.ref aF, .int k]) (n := 2) (Nat.le_of_ble_eq_true rfl)
  rw [lg_entry_eq]
  generalize (lg_sl ([.ref aF, .int k]) ++ List.replicate (2 - (lg_sl ([.ref aF, .int k])).length) Slot.unset).toArray = ls at hl ⊢
  have hl : lv_has ls 2 [(0, .ref aF), (1, .int k)] := hl
  refine lv_aload_n hx hb dX0_become_0 rfl (lv_at hl 0 rfl) ?_
  refine lv_iload_n hx hb dX0_become_1 rfl (lv_at hl 1 rfl) ?_
  refine lv_bipush (v := 8) hx hb dX0_become_2 (by decide) ?_
  refine lv_iand hx hb dX0_become_4 ?_
  refine q_bool (ls := ls) 13 [.ref aF] (fun b_2 hb_3 => ?_) (fun jn => ?_)
  · refine va_put (D := (dC, dI)) (ci := 0) (v := .int b_2) (ty := .boolean) (C := RX0) (T := TX0) (N := 4) hx hb hts (by decide +kernel) tyX0 tyX0_ok nmX0 hown hK hP hD hS 0 rfl rfl 0 (by decide) (hts (.fieldLink RX0 7 "WordGuest$Flags" "n" "Z") (by decide +kernel)) (fun _ h9 => h9) rfl (by decide +kernel) (q_nz hb_3) (q_fz hb_3) (Nat.le_of_ble_eq_true rfl) dX0_become_13 (fun H locs hP hD hS => ?_)
    have hP : va_P (dC, dI) vwCl [(aF, .inr (0, [.int b_2, .int fz, .int fv, .int fc]))] H := hP
    have hD : va_D A [(aF, .inr (0, [.int b_2, .int fz, .int fv, .int fc]))] := hD
    refine lv_aload_n hx hb dX0_become_16 rfl (lv_at hl 0 rfl) ?_
    refine lv_iload_n hx hb dX0_become_17 rfl (lv_at hl 1 rfl) ?_
    refine lv_iconst (v := 4) hx hb dX0_become_18 (by decide) ?_
    refine lv_iand hx hb dX0_become_19 ?_
    refine q_bool (ls := ls) 28 [.ref aF] (fun b_5 hb_6 => ?_) (fun jn => ?_)
    · refine va_put (D := (dC, dI)) (ci := 0) (v := .int b_5) (ty := .boolean) (C := RX0) (T := TX0) (N := 4) hx hb hts (by decide +kernel) tyX0 tyX0_ok nmX0 hown hK hP hD hS 0 rfl rfl 1 (by decide) (hts (.fieldLink RX0 13 "WordGuest$Flags" "z" "Z") (by decide +kernel)) (fun _ h9 => h9) rfl (by decide +kernel) (q_nz hb_6) (q_fz hb_6) (Nat.le_of_ble_eq_true rfl) dX0_become_28 (fun H locs hP hD hS => ?_)
      have hP : va_P (dC, dI) vwCl [(aF, .inr (0, [.int b_2, .int b_5, .int fv, .int fc]))] H := hP
      have hD : va_D A [(aF, .inr (0, [.int b_2, .int b_5, .int fv, .int fc]))] := hD
      refine lv_aload_n hx hb dX0_become_31 rfl (lv_at hl 0 rfl) ?_
      refine lv_iload_n hx hb dX0_become_32 rfl (lv_at hl 1 rfl) ?_
      refine lv_iconst (v := 2) hx hb dX0_become_33 (by decide) ?_
      refine lv_iand hx hb dX0_become_34 ?_
      refine q_bool (ls := ls) 43 [.ref aF] (fun b_8 hb_9 => ?_) (fun jn => ?_)
      · refine va_put (D := (dC, dI)) (ci := 0) (v := .int b_8) (ty := .boolean) (C := RX0) (T := TX0) (N := 4) hx hb hts (by decide +kernel) tyX0 tyX0_ok nmX0 hown hK hP hD hS 0 rfl rfl 2 (by decide) (hts (.fieldLink RX0 16 "WordGuest$Flags" "v" "Z") (by decide +kernel)) (fun _ h9 => h9) rfl (by decide +kernel) (q_nz hb_9) (q_fz hb_9) (Nat.le_of_ble_eq_true rfl) dX0_become_43 (fun H locs hP hD hS => ?_)
        have hP : va_P (dC, dI) vwCl [(aF, .inr (0, [.int b_2, .int b_5, .int b_8, .int fc]))] H := hP
        have hD : va_D A [(aF, .inr (0, [.int b_2, .int b_5, .int b_8, .int fc]))] := hD
        refine lv_aload_n hx hb dX0_become_46 rfl (lv_at hl 0 rfl) ?_
        refine lv_iload_n hx hb dX0_become_47 rfl (lv_at hl 1 rfl) ?_
        refine lv_iconst (v := 1) hx hb dX0_become_48 (by decide) ?_
        refine lv_iand hx hb dX0_become_49 ?_
        refine q_bool (ls := ls) 58 [.ref aF] (fun b_11 hb_12 => ?_) (fun jn => ?_)
        · refine va_put (D := (dC, dI)) (ci := 0) (v := .int b_11) (ty := .boolean) (C := RX0) (T := TX0) (N := 4) hx hb hts (by decide +kernel) tyX0 tyX0_ok nmX0 hown hK hP hD hS 0 rfl rfl 3 (by decide) (hts (.fieldLink RX0 19 "WordGuest$Flags" "c" "Z") (by decide +kernel)) (fun _ h9 => h9) rfl (by decide +kernel) (q_nz hb_12) (q_fz hb_12) (Nat.le_of_ble_eq_true rfl) dX0_become_58 (fun H locs hP hD hS => ?_)
          have hP : va_P (dC, dI) vwCl [(aF, .inr (0, [.int b_2, .int b_5, .int b_8, .int b_11]))] H := hP
          have hD : va_D A [(aF, .inr (0, [.int b_2, .int b_5, .int b_8, .int b_11]))] := hD
          have hP9 := hP.sub (ws' := [(aF, .inr (0, [.int b_2, .int b_5, .int b_8, .int b_11]))]) [0] rfl
          have hD9 := hD.sub (ws' := [(aF, .inr (0, [.int b_2, .int b_5, .int b_8, .int b_11]))]) [0] (by decide) rfl
          have hK9 := hK.sub (tys' := []) [] rfl
          exact W.vret hx hb hr (fun t ht hW => ⟨⟨(b_2, b_5, b_8, b_11), rfl, trivial, by rw [ht]; exact hP9, va_K.moved hW.alike hK9, hD9⟩, hS.F ht⟩) hS.2.2 dX0_become_61
        refine lv_if_eq (tgt := 57) hx hb dX0_become_50 (by decide) (fun c_10 => ?_) (fun c_10 => ?_)
        · refine lv_iconst (v := 0) hx hb dX0_become_57 (by decide) ?_
          exact jn _ (Or.inl rfl)
        · refine lv_iconst (v := 1) hx hb dX0_become_53 (by decide) ?_
          refine lv_goto (tgt := 58) hx hb dX0_become_54 (by decide) ?_
          exact jn _ (Or.inr rfl)
      refine lv_if_eq (tgt := 42) hx hb dX0_become_35 (by decide) (fun c_7 => ?_) (fun c_7 => ?_)
      · refine lv_iconst (v := 0) hx hb dX0_become_42 (by decide) ?_
        exact jn _ (Or.inl rfl)
      · refine lv_iconst (v := 1) hx hb dX0_become_38 (by decide) ?_
        refine lv_goto (tgt := 43) hx hb dX0_become_39 (by decide) ?_
        exact jn _ (Or.inr rfl)
    refine lv_if_eq (tgt := 27) hx hb dX0_become_20 (by decide) (fun c_4 => ?_) (fun c_4 => ?_)
    · refine lv_iconst (v := 0) hx hb dX0_become_27 (by decide) ?_
      exact jn _ (Or.inl rfl)
    · refine lv_iconst (v := 1) hx hb dX0_become_23 (by decide) ?_
      refine lv_goto (tgt := 28) hx hb dX0_become_24 (by decide) ?_
      exact jn _ (Or.inr rfl)
  refine lv_if_eq (tgt := 12) hx hb dX0_become_5 (by decide) (fun c_1 => ?_) (fun c_1 => ?_)
  · refine lv_iconst (v := 0) hx hb dX0_become_12 (by decide) ?_
    exact jn _ (Or.inl rfl)
  · refine lv_iconst (v := 1) hx hb dX0_become_8 (by decide) ?_
    refine lv_goto (tgt := 13) hx hb dX0_become_9 (by decide) ?_
    exact jn _ (Or.inr rfl)
set_option maxHeartbeats 4000000 in
set_option maxRecDepth 100000 in
theorem s_X0_setByResult (l : Launch) (dC : Nat → ClassId) (dI : Nat → Nat → Nat) (sz : Nat) (aF : Nat) (v : Int32) (k : Int32) (fn : Int32) (fz : Int32) (fv : Int32) (fc : Int32)  : Met l yX0_setByResult wsX0_setByResult ({ frames := 1, cells := 0, slots := 0, locals := 20 }) (va_Pc [.ref aF, .int v, .int k] (q_pre dC dI sz [(aF, .inr (0, [.int fn, .int fz, .int fv, .int fc]))] [])) (va_Qv (fun (u9 : Int32 × Int32) => True) (q_at dC dI (va_A [(aF, .inr (0, [.int fn, .int fz, .int fv, .int fc]))] sz) (fun (u9 : Int32 × Int32) => []) (fun (u9 : Int32 × Int32) => [(aF, .inr (0, [.int u9.1, .int u9.2, .int fv, .int fc]))])) (va_A [(aF, .inr (0, [.int fn, .int fz, .int fv, .int fc]))] sz)) 0 0 (va_A [(aF, .inr (0, [.int fn, .int fz, .int fv, .int fc]))] sz) := by
  refine Met.ofW (cc := cX0_setByResult) (maxL := 3) (ret := none) (by decide) rfl ?_
  intro p e s m args below meth c s₁ B hml hv
  obtain ⟨rfl, hsz, hP, hK, hD0, hN⟩ := hv
  have hx := B.exec
  have hb := B.bytes
  have hr := B.returns
  have hts := atoms_spec (ws := wsX0_setByResult) B.pre
  have hown : s.vm.findClass RX0 = some m.cls := findClass_of_methodNamed B.named
  have hlocks := B.notSynchronized
  subst hsz
  have hD := hD0.self (sz := s.heap.size)
  generalize hAe : va_A [(aF, .inr (0, [.int fn, .int fz, .int fv, .int fc]))] s.heap.size = A at hD ⊢
  have hA : ∀ q : Nat, s.heap.size ≤ q → A q := fun q h => by rw [← hAe]; exact Or.inr h
  have hS : va_S A s.heap s.heap [] := va_S.rf
  have hP : va_P (dC, dI) vwCl [(aF, .inr (0, [.int fn, .int fz, .int fv, .int fc]))] s.heap := hP
  have hl := lv_entry ([.ref aF, .int v, .int k]) (n := 3) (Nat.le_of_ble_eq_true rfl)
  rw [lg_entry_eq]
  generalize (lg_sl ([.ref aF, .int v, .int k]) ++ List.replicate (3 - (lg_sl ([.ref aF, .int v, .int k])).length) Slot.unset).toArray = ls at hl ⊢
  have hl : lv_has ls 3 [(0, .ref aF), (1, .int v), (2, .int k)] := hl
  refine lv_aload_n hx hb dX0_setByResult_0 rfl (lv_at hl 0 rfl) ?_
  refine lv_iload_n hx hb dX0_setByResult_1 rfl (lv_at hl 1 rfl) ?_
  refine lv_iload_n hx hb dX0_setByResult_2 rfl (lv_at hl 2 rfl) ?_
  have hPc := hP.sub (ws' := []) [] rfl
  have hDc := hD.sub (ws' := []) [] (by decide) rfl
  have hKc := hK.sub (tys' := []) [] rfl
  have hFc := va_free (wc := []) hD hS hA [] rfl
  refine va_calli (va_runSN (As := [.int k]) (rest := [.int v, .ref aF]) ⟨hx, hb, hml, hown, hts⟩ (s_X4_signOf l dC dI s.heap.size k) ⟨va_cnB 1 hts gX0_setByResult_X4_signOf_n22 rfl rfl rfl (hN _ (List.mem_of_getElem? (i := 14) rfl)) (hts (.initialized RX4) (by decide +kernel)) (by decide +kernel) ⟨Nat.le_of_ble_eq_true rfl, Nat.le_of_ble_eq_true rfl⟩, hts (.static yX4_signOf) (by decide +kernel), trivial⟩ ⟨q_blind, fun U hU hW => ⟨rfl, q_pay hU hW hPc hKc hDc hN⟩⟩ rfl rfl hl.1 rfl (lv_room (Nat.le_of_ble_eq_true rfl)) dX0_setByResult_3 ⟨show 0 + 0 ≤ 0 from by omega, show 0 + 0 ≤ 0 from by omega⟩) hS (fun q _ h => hFc q h) hFc (fun r_1 u9 t H locs ht hvm hw_2 hB hz1 hk1 hS => ?_)
  obtain ⟨hP1, hK1, hD1⟩ := hB
  rw [ht] at hP1
  obtain ⟨hP, hD⟩ := va_join (wr := [(aF, .inr (0, [.int fn, .int fz, .int fv, .int fc]))]) (w1 := []) hP hD [] [0] rfl rfl (by decide) (by decide) hk1 hFc hP1 hD1
  have hP : va_P (dC, dI) vwCl [(aF, .inr (0, [.int fn, .int fz, .int fv, .int fc]))] H := hP
  have hD : va_D A [(aF, .inr (0, [.int fn, .int fz, .int fv, .int fc]))] := hD
  refine W.widen (k := 0) (n := 0) (by omega) (by omega) ?_
  try dsimp only at hw_2
  refine lv_iand hx hb dX0_setByResult_6 ?_
  refine q_bool (ls := ls) 15 [.ref aF] (fun b_4 hb_5 => ?_) (fun jn => ?_)
  · refine va_put (D := (dC, dI)) (ci := 0) (v := .int b_4) (ty := .boolean) (C := RX0) (T := TX0) (N := 4) hx hb hts (by decide +kernel) tyX0 tyX0_ok nmX0 hown hK hP hD hS 0 rfl rfl 0 (by decide) (hts (.fieldLink RX0 7 "WordGuest$Flags" "n" "Z") (by decide +kernel)) (fun _ h9 => h9) rfl (by decide +kernel) (q_nz hb_5) (q_fz hb_5) (Nat.le_of_ble_eq_true rfl) dX0_setByResult_15 (fun H locs hP hD hS => ?_)
    have hP : va_P (dC, dI) vwCl [(aF, .inr (0, [.int b_4, .int fz, .int fv, .int fc]))] H := hP
    have hD : va_D A [(aF, .inr (0, [.int b_4, .int fz, .int fv, .int fc]))] := hD
    refine lv_aload_n hx hb dX0_setByResult_18 rfl (lv_at hl 0 rfl) ?_
    refine lv_iload_n hx hb dX0_setByResult_19 rfl (lv_at hl 1 rfl) ?_
    refine lv_iload_n hx hb dX0_setByResult_20 rfl (lv_at hl 2 rfl) ?_
    refine lv_iand hx hb dX0_setByResult_21 ?_
    refine q_bool (ls := ls) 30 [.ref aF] (fun b_7 hb_8 => ?_) (fun jn => ?_)
    · refine va_put (D := (dC, dI)) (ci := 0) (v := .int b_7) (ty := .boolean) (C := RX0) (T := TX0) (N := 4) hx hb hts (by decide +kernel) tyX0 tyX0_ok nmX0 hown hK hP hD hS 0 rfl rfl 1 (by decide) (hts (.fieldLink RX0 13 "WordGuest$Flags" "z" "Z") (by decide +kernel)) (fun _ h9 => h9) rfl (by decide +kernel) (q_nz hb_8) (q_fz hb_8) (Nat.le_of_ble_eq_true rfl) dX0_setByResult_30 (fun H locs hP hD hS => ?_)
      have hP : va_P (dC, dI) vwCl [(aF, .inr (0, [.int b_4, .int b_7, .int fv, .int fc]))] H := hP
      have hD : va_D A [(aF, .inr (0, [.int b_4, .int b_7, .int fv, .int fc]))] := hD
      have hP9 := hP.sub (ws' := [(aF, .inr (0, [.int b_4, .int b_7, .int fv, .int fc]))]) [0] rfl
      have hD9 := hD.sub (ws' := [(aF, .inr (0, [.int b_4, .int b_7, .int fv, .int fc]))]) [0] (by decide) rfl
      have hK9 := hK.sub (tys' := []) [] rfl
      exact W.vret hx hb hr (fun t ht hW => ⟨⟨(b_4, b_7), rfl, trivial, by rw [ht]; exact hP9, va_K.moved hW.alike hK9, hD9⟩, hS.F ht⟩) hS.2.2 dX0_setByResult_33
    refine lv_if_ne (tgt := 29) hx hb dX0_setByResult_22 (by decide) (fun c_6 => ?_) (fun c_6 => ?_)
    · refine lv_iconst (v := 0) hx hb dX0_setByResult_29 (by decide) ?_
      exact jn _ (Or.inl rfl)
    · refine lv_iconst (v := 1) hx hb dX0_setByResult_25 (by decide) ?_
      refine lv_goto (tgt := 30) hx hb dX0_setByResult_26 (by decide) ?_
      exact jn _ (Or.inr rfl)
  refine lv_if_eq (tgt := 14) hx hb dX0_setByResult_7 (by decide) (fun c_3 => ?_) (fun c_3 => ?_)
  · refine lv_iconst (v := 0) hx hb dX0_setByResult_14 (by decide) ?_
    exact jn _ (Or.inl rfl)
  · refine lv_iconst (v := 1) hx hb dX0_setByResult_10 (by decide) ?_
    refine lv_goto (tgt := 15) hx hb dX0_setByResult_11 (by decide) ?_
    exact jn _ (Or.inr rfl)
set_option maxHeartbeats 4000000 in
set_option maxRecDepth 100000 in
theorem s_X0_below (l : Launch) (dC : Nat → ClassId) (dI : Nat → Nat → Nat) (sz : Nat) (aF : Nat) (fn : Int32) (fz : Int32) (fv : Int32) (fc : Int32)  : Met l yX0_below wsX0_below ({ frames := 0, cells := 0, slots := 0, locals := 0 }) (va_Pc [.ref aF] (q_pre dC dI sz [(aF, .inr (0, [.int fn, .int fz, .int fv, .int fc]))] [])) (va_Qi (fun (r : Int32) (u9 : Unit) => r = 0 ∨ r = 1) (q_at dC dI (va_A [(aF, .inr (0, [.int fn, .int fz, .int fv, .int fc]))] sz) (fun (u9 : Unit) => []) (fun (u9 : Unit) => [(aF, .inr (0, [.int fn, .int fz, .int fv, .int fc]))])) (va_A [(aF, .inr (0, [.int fn, .int fz, .int fv, .int fc]))] sz)) 0 0 (va_A [(aF, .inr (0, [.int fn, .int fz, .int fv, .int fc]))] sz) := by
  refine Met.ofW (cc := cX0_below) (maxL := 1) (ret := (some .boolean)) (by decide) rfl ?_
  intro p e s m args below meth c s₁ B hml hv
  obtain ⟨rfl, hsz, hP, hK, hD0, hN⟩ := hv
  have hx := B.exec
  have hb := B.bytes
  have hr := B.returns
  have hts := atoms_spec (ws := wsX0_below) B.pre
  have hown : s.vm.findClass RX0 = some m.cls := findClass_of_methodNamed B.named
  have hlocks := B.notSynchronized
  subst hsz
  have hD := hD0.self (sz := s.heap.size)
  generalize hAe : va_A [(aF, .inr (0, [.int fn, .int fz, .int fv, .int fc]))] s.heap.size = A at hD ⊢
  have hA : ∀ q : Nat, s.heap.size ≤ q → A q := fun q h => by rw [← hAe]; exact Or.inr h
  have hS : va_S A s.heap s.heap [] := va_S.rf
  have hP : va_P (dC, dI) vwCl [(aF, .inr (0, [.int fn, .int fz, .int fv, .int fc]))] s.heap := hP
  have hl := lv_entry ([.ref aF]) (n := 1) (Nat.le_of_ble_eq_true rfl)
  rw [lg_entry_eq]
  generalize (lg_sl ([.ref aF]) ++ List.replicate (1 - (lg_sl ([.ref aF])).length) Slot.unset).toArray = ls at hl ⊢
  have hl : lv_has ls 1 [(0, .ref aF)] := hl
  refine lv_aload_n hx hb dX0_below_0 rfl (lv_at hl 0 rfl) ?_
  refine va_get (D := (dC, dI)) (ci := 0) (v := .int fn) (C := RX0) (T := TX0) (N := 4) hx hb hts (by decide +kernel) hown hK hP 0 rfl rfl 0 (by decide) (hts (.fieldLink RX0 7 "WordGuest$Flags" "n" "Z") (by decide +kernel)) (fun _ h9 => h9) rfl dX0_below_1 ?_
  refine lv_aload_n hx hb dX0_below_4 rfl (lv_at hl 0 rfl) ?_
  refine va_get (D := (dC, dI)) (ci := 0) (v := .int fv) (C := RX0) (T := TX0) (N := 4) hx hb hts (by decide +kernel) hown hK hP 0 rfl rfl 2 (by decide) (hts (.fieldLink RX0 16 "WordGuest$Flags" "v" "Z") (by decide +kernel)) (fun _ h9 => h9) rfl dX0_below_5 ?_
  refine q_bool (ls := ls) 16 [] (fun b_2 hb_3 => ?_) (fun jn => ?_)
  · have hP9 := hP.sub (ws' := [(aF, .inr (0, [.int fn, .int fz, .int fv, .int fc]))]) [0] rfl
    have hD9 := hD.sub (ws' := [(aF, .inr (0, [.int fn, .int fz, .int fv, .int fc]))]) [0] (by decide) rfl
    have hK9 := hK.sub (tys' := []) [] rfl
    exact W.zret (v := b_2) (ty := .boolean) hx hb hr (q_nz hb_3) (fun t ht hW => ⟨⟨b_2, (), rfl, hb_3, by rw [ht]; exact hP9, va_K.moved hW.alike hK9, hD9⟩, hS.F ht⟩) hS.2.2 dX0_below_16
  refine lv_icmp_eq (tgt := 15) hx hb dX0_below_8 (by decide) (fun c_1 => ?_) (fun c_1 => ?_)
  · refine lv_iconst (v := 0) hx hb dX0_below_15 (by decide) ?_
    exact jn _ (Or.inl rfl)
  · refine lv_iconst (v := 1) hx hb dX0_below_11 (by decide) ?_
    refine lv_goto (tgt := 16) hx hb dX0_below_12 (by decide) ?_
    exact jn _ (Or.inr rfl)
