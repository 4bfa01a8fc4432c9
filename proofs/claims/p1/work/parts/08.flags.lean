set_option maxHeartbeats 4000000 in
set_option maxRecDepth 100000 in
theorem c_X0_init (l : Launch) (dC : Nat → ClassId) (dI : Nat → Nat → Nat) (sz : Nat) (aF : Nat)  : Met l yX0_init wsX0_init ({ frames := 1, cells := 0, slots := 0, locals := 12 }) (va_Pc [.ref aF] (q_pre dC dI sz [(aF, .inr (0, [.int 0, .int 0, .int 0, .int 0]))] [])) (va_Qv (fun (u9 : Unit) => True) (q_at dC dI (va_A [(aF, .inr (0, [.int 0, .int 0, .int 0, .int 0]))] sz) (fun (u9 : Unit) => []) (fun (u9 : Unit) => [(aF, .inr (0, [.int 0, .int 0, .int 0, .int 0]))])) (va_A [(aF, .inr (0, [.int 0, .int 0, .int 0, .int 0]))] sz)) 0 0 (va_A [(aF, .inr (0, [.int 0, .int 0, .int 0, .int 0]))] sz) := by
  refine Met.ofW (cc := cX0_init) (maxL := 1) (ret := none) (by decide) rfl ?_
  intro p e s m args below meth c s₁ B hml hv
  obtain ⟨rfl, hsz, hP, hK, hD0, hN⟩ := hv
  have hx := B.exec
  have hb := B.bytes
  have hr := B.returns
  have hts := atoms_spec (ws := wsX0_init) B.pre
  have hown : s.vm.findClass RX0 = some m.cls := findClass_of_methodNamed B.named
  have hlocks := B.notSynchronized
  have hin : meth.name = "<init>" := (name_of_methodNamed B.named B.method).1
  subst hsz
  have hD := hD0.self (sz := s.heap.size)
  generalize hAe : va_A [(aF, .inr (0, [.int 0, .int 0, .int 0, .int 0]))] s.heap.size = A at hD ⊢
  have hA : ∀ q : Nat, s.heap.size ≤ q → A q := fun q h => by rw [← hAe]; exact Or.inr h
  have hS : va_S A s.heap s.heap [] := va_S.rf
  have hP : va_P (dC, dI) vwCl [(aF, .inr (0, [.int 0, .int 0, .int 0, .int 0]))] s.heap := hP
  have hl := lv_entry ([.ref aF]) (n := 1) (Nat.le_of_ble_eq_true rfl)
  rw [lg_entry_eq]
  generalize (lg_sl ([.ref aF]) ++ List.replicate (1 - (lg_sl ([.ref aF])).length) Slot.unset).toArray = ls at hl ⊢
  have hl : lv_has ls 1 [(0, .ref aF)] := hl
  refine lv_aload_n hx hb dX0_init_0 rfl (lv_at hl 0 rfl) ?_
  refine W.objInit hx hb hown (hts (.methodLink RX0 1 objectInit) (by decide +kernel)) (hts (.instanceMethod objectInit) (by decide +kernel)) (hts (.code objectInit ⟨#[0xb1]⟩ 1 none) (by decide +kernel)) rfl (by rw [hml]; exact hl.1) rfl dX0_init_1 (Nat.le_of_ble_eq_true rfl) (Nat.le_of_ble_eq_true rfl) ?_
  refine W.eq (g2 := F0 m 4 ls []) rfl ?_
  have hP9 := hP.sub (ws' := [(aF, .inr (0, [.int 0, .int 0, .int 0, .int 0]))]) [0] rfl
  have hD9 := hD.sub (ws' := [(aF, .inr (0, [.int 0, .int 0, .int 0, .int 0]))]) [0] (by decide) rfl
  have hK9 := hK.sub (tys' := []) [] rfl
  exact W.vret hx hb hr (fun t ht hW => ⟨⟨(), rfl, trivial, by rw [ht]; exact hP9, va_K.moved hW.alike hK9, hD9⟩, hS.F ht⟩) hS.2.2 dX0_init_4
set_option maxHeartbeats 4000000 in
set_option maxRecDepth 100000 in
theorem c_X0_number (l : Launch) (dC : Nat → ClassId) (dI : Nat → Nat → Nat) (sz : Nat) (aF : Nat)  : Met l yX0_number wsX0_number ({ frames := 0, cells := 0, slots := 0, locals := 0 }) (va_Pc [.ref aF] (q_pre dC dI sz [(aF, .inr (0, [.int 0, .int 0, .int 0, .int 0]))] [])) (va_Qi (fun (r : Int32) (u9 : Unit) => r = 0) (q_at dC dI (va_A [(aF, .inr (0, [.int 0, .int 0, .int 0, .int 0]))] sz) (fun (u9 : Unit) => []) (fun (u9 : Unit) => [(aF, .inr (0, [.int 0, .int 0, .int 0, .int 0]))])) (va_A [(aF, .inr (0, [.int 0, .int 0, .int 0, .int 0]))] sz)) 0 0 (va_A [(aF, .inr (0, [.int 0, .int 0, .int 0, .int 0]))] sz) := by
  refine Met.ofW (cc := cX0_number) (maxL := 1) (ret := (some .int)) (by decide) rfl ?_
  intro p e s m args below meth c s₁ B hml hv
  obtain ⟨rfl, hsz, hP, hK, hD0, hN⟩ := hv
  have hx := B.exec
  have hb := B.bytes
  have hr := B.returns
  have hts := atoms_spec (ws := wsX0_number) B.pre
  have hown : s.vm.findClass RX0 = some m.cls := findClass_of_methodNamed B.named
  have hlocks := B.notSynchronized
  subst hsz
  have hD := hD0.self (sz := s.heap.size)
  generalize hAe : va_A [(aF, .inr (0, [.int 0, .int 0, .int 0, .int 0]))] s.heap.size = A at hD ⊢
  have hA : ∀ q : Nat, s.heap.size ≤ q → A q := fun q h => by rw [← hAe]; exact Or.inr h
  have hS : va_S A s.heap s.heap [] := va_S.rf
  have hP : va_P (dC, dI) vwCl [(aF, .inr (0, [.int 0, .int 0, .int 0, .int 0]))] s.heap := hP
  have hl := lv_entry ([.ref aF]) (n := 1) (Nat.le_of_ble_eq_true rfl)
  rw [lg_entry_eq]
  generalize (lg_sl ([.ref aF]) ++ List.replicate (1 - (lg_sl ([.ref aF])).length) Slot.unset).toArray = ls at hl ⊢
  have hl : lv_has ls 1 [(0, .ref aF)] := hl
  refine lv_aload_n hx hb dX0_number_0 rfl (lv_at hl 0 rfl) ?_
  refine va_get (D := (dC, dI)) (ci := 0) (v := .int 0) (C := RX0) (T := TX0) (N := 4) hx hb hts (by decide +kernel) hown hK hP 0 rfl rfl 0 (by decide) (hts (.fieldLink RX0 7 "WordGuest$Flags" "n" "Z") (by decide +kernel)) (fun _ h9 => h9) rfl dX0_number_1 ?_
  refine lv_if_eq (tgt := 12) hx hb dX0_number_4 (by decide) (fun c_1 => ?_) (fun c9 => absurd (by decide) c9)
  refine lv_iconst (v := 0) hx hb dX0_number_12 (by decide) ?_
  refine lv_aload_n hx hb dX0_number_13 rfl (lv_at hl 0 rfl) ?_
  refine va_get (D := (dC, dI)) (ci := 0) (v := .int 0) (C := RX0) (T := TX0) (N := 4) hx hb hts (by decide +kernel) hown hK hP 0 rfl rfl 1 (by decide) (hts (.fieldLink RX0 13 "WordGuest$Flags" "z" "Z") (by decide +kernel)) (fun _ h9 => h9) rfl dX0_number_14 ?_
  refine lv_if_eq (tgt := 24) hx hb dX0_number_17 (by decide) (fun c_2 => ?_) (fun c9 => absurd (by decide) c9)
  refine lv_iconst (v := 0) hx hb dX0_number_24 (by decide) ?_
  refine lv_ior hx hb dX0_number_25 ?_
  refine q_toc (y := 0) (by decide) ?_
  refine lv_aload_n hx hb dX0_number_26 rfl (lv_at hl 0 rfl) ?_
  refine va_get (D := (dC, dI)) (ci := 0) (v := .int 0) (C := RX0) (T := TX0) (N := 4) hx hb hts (by decide +kernel) hown hK hP 0 rfl rfl 2 (by decide) (hts (.fieldLink RX0 16 "WordGuest$Flags" "v" "Z") (by decide +kernel)) (fun _ h9 => h9) rfl dX0_number_27 ?_
  refine lv_if_eq (tgt := 37) hx hb dX0_number_30 (by decide) (fun c_3 => ?_) (fun c9 => absurd (by decide) c9)
  refine lv_iconst (v := 0) hx hb dX0_number_37 (by decide) ?_
  refine lv_ior hx hb dX0_number_38 ?_
  refine q_toc (y := 0) (by decide) ?_
  refine lv_aload_n hx hb dX0_number_39 rfl (lv_at hl 0 rfl) ?_
  refine va_get (D := (dC, dI)) (ci := 0) (v := .int 0) (C := RX0) (T := TX0) (N := 4) hx hb hts (by decide +kernel) hown hK hP 0 rfl rfl 3 (by decide) (hts (.fieldLink RX0 19 "WordGuest$Flags" "c" "Z") (by decide +kernel)) (fun _ h9 => h9) rfl dX0_number_40 ?_
  refine lv_if_eq (tgt := 50) hx hb dX0_number_43 (by decide) (fun c_4 => ?_) (fun c9 => absurd (by decide) c9)
  refine lv_iconst (v := 0) hx hb dX0_number_50 (by decide) ?_
  refine lv_ior hx hb dX0_number_51 ?_
  refine q_toc (y := 0) (by decide) ?_
  have hP9 := hP.sub (ws' := [(aF, .inr (0, [.int 0, .int 0, .int 0, .int 0]))]) [0] rfl
  have hD9 := hD.sub (ws' := [(aF, .inr (0, [.int 0, .int 0, .int 0, .int 0]))]) [0] (by decide) rfl
  have hK9 := hK.sub (tys' := []) [] rfl
  exact W.iret (v := 0) hx hb hr (fun t ht hW => ⟨⟨0, (), rfl, rfl, by rw [ht]; exact hP9, va_K.moved hW.alike hK9, hD9⟩, hS.F ht⟩) hS.2.2 dX0_number_52
set_option maxHeartbeats 4000000 in
set_option maxRecDepth 100000 in
theorem c_X0_become (l : Launch) (dC : Nat → ClassId) (dI : Nat → Nat → Nat) (sz : Nat) (aF : Nat) (n : Int32) (z : Int32) (v : Int32) (c9 : Int32) (k : Int32)  : Met l yX0_become wsX0_become ({ frames := 0, cells := 0, slots := 0, locals := 0 }) (va_Pc [.ref aF, .int k] (q_pre dC dI sz [(aF, .inr (0, [.int n, .int z, .int v, .int c9]))] [])) (va_Qv (fun (u9 : Int32 × Int32 × Int32 × Int32) => True) (q_at dC dI (va_A [(aF, .inr (0, [.int n, .int z, .int v, .int c9]))] sz) (fun (u9 : Int32 × Int32 × Int32 × Int32) => []) (fun (u9 : Int32 × Int32 × Int32 × Int32) => [(aF, .inr (0, [.int u9.1, .int u9.2.1, .int u9.2.2.1, .int u9.2.2.2]))])) (va_A [(aF, .inr (0, [.int n, .int z, .int v, .int c9]))] sz)) 0 0 (va_A [(aF, .inr (0, [.int n, .int z, .int v, .int c9]))] sz) := by
  refine Met.ofW (cc := cX0_become) (maxL := 2) (ret := none) (by decide) rfl ?_
  intro p e s m args below meth c s₁ B hml hv
  obtain ⟨rfl, hsz, hP, hK, hD0, hN⟩ := hv
  have hx := B.exec
  have hb := B.bytes
  have hr := B.returns
  have hts := atoms_spec (ws := wsX0_become) B.pre
  have hown : s.vm.findClass RX0 = some m.cls := findClass_of_methodNamed B.named
  have hlocks := B.notSynchronized
  subst hsz
  have hD := hD0.self (sz := s.heap.size)
  generalize hAe : va_A [(aF, .inr (0, [.int n, .int z, .int v, .int c9]))] s.heap.size = A at hD ⊢
  have hA : ∀ q : Nat, s.heap.size ≤ q → A q := fun q h => by rw [← hAe]; exact Or.inr h
  have hS : va_S A s.heap s.heap [] := va_S.rf
  have hP : va_P (dC, dI) vwCl [(aF, .inr (0, [.int n, .int z, .int v, .int c9]))] s.heap := hP
  have hl := lv_entry ([.ref aF, .int k]) (n := 2) (Nat.le_of_ble_eq_true rfl)
  rw [lg_entry_eq]
  generalize (lg_sl ([.ref aF, .int k]) ++ List.replicate (2 - (lg_sl ([.ref aF, .int k])).length) Slot.unset).toArray = ls at hl ⊢
  have hl : lv_has ls 2 [(0, .ref aF), (1, .int k)] := hl
  refine lv_aload_n hx hb dX0_become_0 rfl (lv_at hl 0 rfl) ?_
  refine lv_iload_n hx hb dX0_become_1 rfl (lv_at hl 1 rfl) ?_
  refine lv_bipush (v := 8) hx hb dX0_become_2 (by decide) ?_
  refine lv_iand hx hb dX0_become_4 ?_
  refine q_bool (ls := ls) 13 [.ref aF] (fun b_2 hb_3 => ?_) (fun jn => ?_)
  · refine va_put (D := (dC, dI)) (ci := 0) (v := .int b_2) (ty := .boolean) (C := RX0) (T := TX0) (N := 4) hx hb hts (by decide +kernel) tyX0 tyX0_ok nmX0 hown hK hP hD hS 0 rfl rfl 0 (by decide) (hts (.fieldLink RX0 7 "WordGuest$Flags" "n" "Z") (by decide +kernel)) (fun _ h9 => h9) rfl (by decide +kernel) (q_nz hb_3) (q_fz hb_3) (Nat.le_of_ble_eq_true rfl) dX0_become_13 (fun H locs hP hD hS => ?_)
    have hP : va_P (dC, dI) vwCl [(aF, .inr (0, [.int b_2, .int z, .int v, .int c9]))] H := hP
    have hD : va_D A [(aF, .inr (0, [.int b_2, .int z, .int v, .int c9]))] := hD
    refine lv_aload_n hx hb dX0_become_16 rfl (lv_at hl 0 rfl) ?_
    refine lv_iload_n hx hb dX0_become_17 rfl (lv_at hl 1 rfl) ?_
    refine lv_iconst (v := 4) hx hb dX0_become_18 (by decide) ?_
    refine lv_iand hx hb dX0_become_19 ?_
    refine q_bool (ls := ls) 28 [.ref aF] (fun b_5 hb_6 => ?_) (fun jn => ?_)
    · refine va_put (D := (dC, dI)) (ci := 0) (v := .int b_5) (ty := .boolean) (C := RX0) (T := TX0) (N := 4) hx hb hts (by decide +kernel) tyX0 tyX0_ok nmX0 hown hK hP hD hS 0 rfl rfl 1 (by decide) (hts (.fieldLink RX0 13 "WordGuest$Flags" "z" "Z") (by decide +kernel)) (fun _ h9 => h9) rfl (by decide +kernel) (q_nz hb_6) (q_fz hb_6) (Nat.le_of_ble_eq_true rfl) dX0_become_28 (fun H locs hP hD hS => ?_)
      have hP : va_P (dC, dI) vwCl [(aF, .inr (0, [.int b_2, .int b_5, .int v, .int c9]))] H := hP
      have hD : va_D A [(aF, .inr (0, [.int b_2, .int b_5, .int v, .int c9]))] := hD
      refine lv_aload_n hx hb dX0_become_31 rfl (lv_at hl 0 rfl) ?_
      refine lv_iload_n hx hb dX0_become_32 rfl (lv_at hl 1 rfl) ?_
      refine lv_iconst (v := 2) hx hb dX0_become_33 (by decide) ?_
      refine lv_iand hx hb dX0_become_34 ?_
      refine q_bool (ls := ls) 43 [.ref aF] (fun b_8 hb_9 => ?_) (fun jn => ?_)
      · refine va_put (D := (dC, dI)) (ci := 0) (v := .int b_8) (ty := .boolean) (C := RX0) (T := TX0) (N := 4) hx hb hts (by decide +kernel) tyX0 tyX0_ok nmX0 hown hK hP hD hS 0 rfl rfl 2 (by decide) (hts (.fieldLink RX0 16 "WordGuest$Flags" "v" "Z") (by decide +kernel)) (fun _ h9 => h9) rfl (by decide +kernel) (q_nz hb_9) (q_fz hb_9) (Nat.le_of_ble_eq_true rfl) dX0_become_43 (fun H locs hP hD hS => ?_)
        have hP : va_P (dC, dI) vwCl [(aF, .inr (0, [.int b_2, .int b_5, .int b_8, .int c9]))] H := hP
        have hD : va_D A [(aF, .inr (0, [.int b_2, .int b_5, .int b_8, .int c9]))] := hD
        refine lv_aload_n hx hb dX0_become_46 rfl (lv_at hl 0 rfl) ?_
        refine lv_iload_n hx hb dX0_become_47 rfl (lv_at hl 1 rfl) ?_
        refine lv_iconst (v := 1) hx hb dX0_become_48 (by decide) ?_
        refine lv_iand hx hb dX0_become_49 ?_
        refine q_bool (ls := ls) 58 [.ref aF] (fun b_11 hb_12 => ?_) (fun jn => ?_)
        · refine va_put (D := (dC, dI)) (ci := 0) (v := .int b_11) (ty := .boolean) (C := RX0) (T := TX0) (N := 4) hx hb hts (by decide +kernel) tyX0 tyX0_ok nmX0 hown hK hP hD hS 0 rfl rfl 3 (by decide) (hts (.fieldLink RX0 19 "WordGuest$Flags" "c" "Z") (by decide +kernel)) (fun _ h9 => h9) rfl (by decide +kernel) (q_nz hb_12) (q_fz hb_12) (Nat.le_of_ble_eq_true rfl) dX0_become_58 (fun H locs hP hD hS => ?_)
          have hP : va_P (dC, dI) vwCl [(aF, .inr (0, [.int b_2, .int b_5, .int b_8, .int b_11]))] H := hP
          have hD : va_D A [(aF, .inr (0, [.int b_2, .int b_5, .int b_8, .int b_11]))] := hD
          have hP9 := hP.sub (ws' := [(aF, .inr (0, [.int b_2, .int b_5, .int b_8, .int b_11]))]) [0] rfl
          have hD9 := hD.sub (ws' := [(aF, .inr (0, [.int b_2, .int b_5, .int b_8, .int b_11]))]) [0] (by decide) rfl
          have hK9 := hK.sub (tys' := []) [] rfl
          exact W.vret hx hb hr (fun t ht hW => ⟨⟨(b_2, b_5, b_8, b_11), rfl, trivial, by rw [ht]; exact hP9, va_K.moved hW.alike hK9, hD9⟩, hS.F ht⟩) hS.2.2 dX0_become_61
        refine lv_if_eq (tgt := 57) hx hb dX0_become_50 (by decide) (fun c_10 => ?_) (fun c_10 => ?_)
        · refine lv_iconst (v := 0) hx hb dX0_become_57 (by decide) ?_
          exact jn 0 (Or.inl rfl)
        · refine lv_iconst (v := 1) hx hb dX0_become_53 (by decide) ?_
          refine lv_goto (tgt := 58) hx hb dX0_become_54 (by decide) ?_
          exact jn 1 (Or.inr rfl)
      refine lv_if_eq (tgt := 42) hx hb dX0_become_35 (by decide) (fun c_7 => ?_) (fun c_7 => ?_)
      · refine lv_iconst (v := 0) hx hb dX0_become_42 (by decide) ?_
        exact jn 0 (Or.inl rfl)
      · refine lv_iconst (v := 1) hx hb dX0_become_38 (by decide) ?_
        refine lv_goto (tgt := 43) hx hb dX0_become_39 (by decide) ?_
        exact jn 1 (Or.inr rfl)
    refine lv_if_eq (tgt := 27) hx hb dX0_become_20 (by decide) (fun c_4 => ?_) (fun c_4 => ?_)
    · refine lv_iconst (v := 0) hx hb dX0_become_27 (by decide) ?_
      exact jn 0 (Or.inl rfl)
    · refine lv_iconst (v := 1) hx hb dX0_become_23 (by decide) ?_
      refine lv_goto (tgt := 28) hx hb dX0_become_24 (by decide) ?_
      exact jn 1 (Or.inr rfl)
  refine lv_if_eq (tgt := 12) hx hb dX0_become_5 (by decide) (fun c_1 => ?_) (fun c_1 => ?_)
  · refine lv_iconst (v := 0) hx hb dX0_become_12 (by decide) ?_
    exact jn 0 (Or.inl rfl)
  · refine lv_iconst (v := 1) hx hb dX0_become_8 (by decide) ?_
    refine lv_goto (tgt := 13) hx hb dX0_become_9 (by decide) ?_
    exact jn 1 (Or.inr rfl)
