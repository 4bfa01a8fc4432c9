set_option maxHeartbeats 4000000 in
set_option maxRecDepth 100000 in
theorem c_X5_load (l : Launch) (dC : Nat → ClassId) (dI : Nat → Nat → Nat) (sz : Nat) (m0 : Nat) (mB : Nat) (mR : Nat) (mO : Nat) (mN : Nat) (cY : ClassId) (bf : Nat → Int32) (pl : Int32) (a0 : Int32) (a1 : Int32) (a2 : Int32) (a3 : Int32) (a4 : Int32)  : Met l yX5_load wsX5_load ({ frames := 1, cells := 0, slots := 0, locals := 22 }) (va_Pc [.ref m0, .int pl, .int a0, .int a1, .int a2, .int a3, .int a4] (q_pre dC dI sz [(m0, .inr (5, [.int 0, .ref mB, .ref mR, .int 0, .ref mO, .int 0, .int 0, .ref mN, .int 0, .int 0, .int 0, .int 0, .int 0, .int 0, .int 0, .int 0, .int 0])), (mB, .inl (cY, 4096, .inl bf))] [(cY, .int)])) (va_Qi (fun (r : Int32) (u9 : Int32 × (Nat → Int32)) => (¬ iw pl = 0 ∧ u9.1 = 0 ∧ r = ((((((((((0 + dn (pl + 0)) + dn (pl + 2)) + dn (pl + 4)) + dn (pl + 6)) + dn (pl + 8)) + dn (pl + 10)) + dn (pl + 12)) + dn (pl + 14)) + dn (pl + 16)) + dn (pl + 18))) ∨ (iw pl = 0 ∧ u9.1 = 1 ∧ r = 0)) (q_at dC dI (va_A [(m0, .inr (5, [.int 0, .ref mB, .ref mR, .int 0, .ref mO, .int 0, .int 0, .ref mN, .int 0, .int 0, .int 0, .int 0, .int 0, .int 0, .int 0, .int 0, .int 0])), (mB, .inl (cY, 4096, .inl bf))] sz) (fun (u9 : Int32 × (Nat → Int32)) => [(cY, .int)]) (fun (u9 : Int32 × (Nat → Int32)) => [(m0, .inr (5, [.int u9.1, .ref mB, .ref mR, .int 0, .ref mO, .int 0, .int 0, .ref mN, .int 0, .int 0, .int 0, .int 0, .int 0, .int 0, .int 0, .int 0, .int 0])), (mB, .inl (cY, 4096, .inl u9.2))])) (va_A [(m0, .inr (5, [.int 0, .ref mB, .ref mR, .int 0, .ref mO, .int 0, .int 0, .ref mN, .int 0, .int 0, .int 0, .int 0, .int 0, .int 0, .int 0, .int 0, .int 0])), (mB, .inl (cY, 4096, .inl bf))] sz)) 0 0 (va_A [(m0, .inr (5, [.int 0, .ref mB, .ref mR, .int 0, .ref mO, .int 0, .int 0, .ref mN, .int 0, .int 0, .int 0, .int 0, .int 0, .int 0, .int 0, .int 0, .int 0])), (mB, .inl (cY, 4096, .inl bf))] sz) := by
  refine Met.ofW (cc := cX5_load) (maxL := 10) (ret := (some .int)) (by decide) rfl ?_
  intro p e s m args below meth c s₁ B hml hv
  obtain ⟨rfl, hsz, hP, hK, hD0, hN⟩ := hv
  have hx := B.exec
  have hb := B.bytes
  have hr := B.returns
  have hts := atoms_spec (ws := wsX5_load) B.pre
  have hown : s.vm.findClass RX5 = some m.cls := findClass_of_methodNamed B.named
  have hlocks := B.notSynchronized
  subst hsz
  have hD := hD0.self (sz := s.heap.size)
  generalize hAe : va_A [(m0, .inr (5, [.int 0, .ref mB, .ref mR, .int 0, .ref mO, .int 0, .int 0, .ref mN, .int 0, .int 0, .int 0, .int 0, .int 0, .int 0, .int 0, .int 0, .int 0])), (mB, .inl (cY, 4096, .inl bf))] s.heap.size = A at hD ⊢
  have hA : ∀ q : Nat, s.heap.size ≤ q → A q := fun q h => by rw [← hAe]; exact Or.inr h
  have hS : va_S A s.heap s.heap [] := va_S.rf
  have hP : va_P (dC, dI) vwCl [(m0, .inr (5, [.int 0, .ref mB, .ref mR, .int 0, .ref mO, .int 0, .int 0, .ref mN, .int 0, .int 0, .int 0, .int 0, .int 0, .int 0, .int 0, .int 0, .int 0])), (mB, .inl (cY, 4096, .inl bf))] s.heap := hP
  have hl := lv_entry ([.ref m0, .int pl, .int a0, .int a1, .int a2, .int a3, .int a4]) (n := 10) (Nat.le_of_ble_eq_true rfl)
  rw [lg_entry_eq]
  generalize (lg_sl ([.ref m0, .int pl, .int a0, .int a1, .int a2, .int a3, .int a4]) ++ List.replicate (10 - (lg_sl ([.ref m0, .int pl, .int a0, .int a1, .int a2, .int a3, .int a4])).length) Slot.unset).toArray = ls at hl ⊢
  have hl : lv_has ls 10 [(0, .ref m0), (1, .int pl), (2, .int a0), (3, .int a1), (4, .int a2), (5, .int a3), (6, .int a4)] := hl
  refine lv_aload_n hx hb dX5_load_0 rfl (lv_at hl 0 rfl) ?_
  refine lv_iload_n hx hb dX5_load_1 rfl (lv_at hl 1 rfl) ?_
  have hPc := hP.sub (ws' := []) [] rfl
  have hDc := hD.sub (ws' := []) [] (by decide) rfl
  have hKc := hK.sub (tys' := []) [] rfl
  have hFc := va_free (wc := []) hD hS hA [] rfl
  refine va_calli (va_runS (As := [.int pl]) (rest := [.ref m0]) ⟨hx, hb, hml, hown, hts⟩ (c_X5_isWord l dC dI s.heap.size pl) (va_cwS 1 hts gX5_load_X5_isWord rfl rfl rfl (by decide +kernel) ⟨Nat.le_of_ble_eq_true rfl, Nat.le_of_ble_eq_true rfl⟩) ⟨q_blind, fun U hU hW => ⟨rfl, q_pay hU hW hPc hKc hDc hN⟩⟩ rfl rfl hl.1 rfl (lv_room (Nat.le_of_ble_eq_true rfl)) dX5_load_2 ⟨show 0 + 0 ≤ 0 from by omega, show 0 + 0 ≤ 0 from by omega⟩) hS (fun q _ h => hFc q h) hFc (fun r_1 u9 t H locs ht hvm hw_2 hB hz1 hk1 hS => ?_)
  obtain ⟨hP1, hK1, hD1⟩ := hB
  rw [ht] at hP1
  obtain ⟨hP, hD⟩ := va_join (wr := [(m0, .inr (5, [.int 0, .ref mB, .ref mR, .int 0, .ref mO, .int 0, .int 0, .ref mN, .int 0, .int 0, .int 0, .int 0, .int 0, .int 0, .int 0, .int 0, .int 0])), (mB, .inl (cY, 4096, .inl bf))]) (w1 := []) hP hD [] [0, 1] rfl rfl (by decide) (by decide) hk1 hFc hP1 hD1
  have hP : va_P (dC, dI) vwCl [(m0, .inr (5, [.int 0, .ref mB, .ref mR, .int 0, .ref mO, .int 0, .int 0, .ref mN, .int 0, .int 0, .int 0, .int 0, .int 0, .int 0, .int 0, .int 0, .int 0])), (mB, .inl (cY, 4096, .inl bf))] H := hP
  have hD : va_D A [(m0, .inr (5, [.int 0, .ref mB, .ref mR, .int 0, .ref mO, .int 0, .int 0, .ref mN, .int 0, .int 0, .int 0, .int 0, .int 0, .int 0, .int 0, .int 0, .int 0])), (mB, .inl (cY, 4096, .inl bf))] := hD
  refine W.widen (k := 0) (n := 0) (by omega) (by omega) ?_
  try dsimp only at hw_2
  obtain rfl := hw_2
  refine lv_if_eq (tgt := 12) hx hb dX5_load_5 (by decide) (fun c_3 => ?_) (fun c_3 => ?_)
  · refine lv_iconst (v := 1) hx hb dX5_load_12 (by decide) ?_
    refine va_put (D := (dC, dI)) (ci := 5) (v := .int 1) (ty := .int) (C := RX5) (T := TX5) (N := 17) hx hb hts (by decide +kernel) tyX5 tyX5_ok nmX5 hown hK hP hD hS 0 rfl rfl 0 (by decide) (hts (.fieldLink RX5 22 "WordGuestModel" "thrown" "I") (by decide +kernel)) (fun _ h9 => h9) rfl (by decide +kernel) rfl rfl (Nat.le_of_ble_eq_true rfl) dX5_load_13 (fun H locs hP hD hS => ?_)
    have hP : va_P (dC, dI) vwCl [(m0, .inr (5, [.int 1, .ref mB, .ref mR, .int 0, .ref mO, .int 0, .int 0, .ref mN, .int 0, .int 0, .int 0, .int 0, .int 0, .int 0, .int 0, .int 0, .int 0])), (mB, .inl (cY, 4096, .inl bf))] H := hP
    have hD : va_D A [(m0, .inr (5, [.int 1, .ref mB, .ref mR, .int 0, .ref mO, .int 0, .int 0, .ref mN, .int 0, .int 0, .int 0, .int 0, .int 0, .int 0, .int 0, .int 0, .int 0])), (mB, .inl (cY, 4096, .inl bf))] := hD
    refine lv_iconst (v := 0) hx hb dX5_load_16 (by decide) ?_
    refine lv_istore (lv' := [(7, .int 0), (0, .ref m0), (1, .int pl), (2, .int a0), (3, .int a1), (4, .int a2), (5, .int a3), (6, .int a4)]) hx hb dX5_load_17 hl (by decide) rfl (fun ls hl => ?_)
    refine lv_iconst (v := 0) hx hb dX5_load_19 (by decide) ?_
    refine lv_istore (lv' := [(8, .int 0), (7, .int 0), (0, .ref m0), (1, .int pl), (2, .int a0), (3, .int a1), (4, .int a2), (5, .int a3), (6, .int a4)]) hx hb dX5_load_20 hl (by decide) rfl (fun ls hl => ?_)
    refine lv_iload hx hb dX5_load_22 (lv_at hl 0 rfl) ?_
    refine lv_bipush (v := 10) hx hb dX5_load_24 (by decide) ?_
    refine lv_icmp_ge (tgt := 135) hx hb dX5_load_26 (by decide) (fun c9 => absurd c9 (by decide)) (fun c_4 => ?_)
    refine lv_aload_n hx hb dX5_load_29 rfl (lv_at hl 2 rfl) ?_
    refine va_get (D := (dC, dI)) (ci := 5) (v := .int 1) (C := RX5) (T := TX5) (N := 17) hx hb hts (by decide +kernel) hown hK hP 0 rfl rfl 0 (by decide) (hts (.fieldLink RX5 22 "WordGuestModel" "thrown" "I") (by decide +kernel)) (fun _ h9 => h9) rfl dX5_load_30 ?_
    refine lv_if_ne (tgt := 135) hx hb dX5_load_33 (by decide) (fun c_5 => ?_) (fun c9 => absurd c9 (by decide))
    refine lv_iload hx hb dX5_load_135 (lv_at hl 1 rfl) ?_
    have hP9 := hP.sub (ws' := [(m0, .inr (5, [.int 1, .ref mB, .ref mR, .int 0, .ref mO, .int 0, .int 0, .ref mN, .int 0, .int 0, .int 0, .int 0, .int 0, .int 0, .int 0, .int 0, .int 0])), (mB, .inl (cY, 4096, .inl bf))]) [0, 1] rfl
    have hD9 := hD.sub (ws' := [(m0, .inr (5, [.int 1, .ref mB, .ref mR, .int 0, .ref mO, .int 0, .int 0, .ref mN, .int 0, .int 0, .int 0, .int 0, .int 0, .int 0, .int 0, .int 0, .int 0])), (mB, .inl (cY, 4096, .inl bf))]) [0, 1] (by decide) rfl
    have hK9 := hK.sub (tys' := [(cY, .int)]) [0] rfl
    exact W.iret (v := 0) hx hb hr (fun t ht hW => ⟨⟨0, (1, bf), rfl, Or.inr ⟨c_3, rfl, rfl⟩, by rw [ht]; exact hP9, va_K.moved hW.alike hK9, hD9⟩, hS.F ht⟩) hS.2.2 dX5_load_137
  · refine lv_iconst (v := 0) hx hb dX5_load_8 (by decide) ?_
    refine lv_goto (tgt := 13) hx hb dX5_load_9 (by decide) ?_
    refine va_put (D := (dC, dI)) (ci := 5) (v := .int 0) (ty := .int) (C := RX5) (T := TX5) (N := 17) hx hb hts (by decide +kernel) tyX5 tyX5_ok nmX5 hown hK hP hD hS 0 rfl rfl 0 (by decide) (hts (.fieldLink RX5 22 "WordGuestModel" "thrown" "I") (by decide +kernel)) (fun _ h9 => h9) rfl (by decide +kernel) rfl rfl (Nat.le_of_ble_eq_true rfl) dX5_load_13 (fun H locs hP hD hS => ?_)
    have hP : va_P (dC, dI) vwCl [(m0, .inr (5, [.int 0, .ref mB, .ref mR, .int 0, .ref mO, .int 0, .int 0, .ref mN, .int 0, .int 0, .int 0, .int 0, .int 0, .int 0, .int 0, .int 0, .int 0])), (mB, .inl (cY, 4096, .inl bf))] H := hP
    have hD : va_D A [(m0, .inr (5, [.int 0, .ref mB, .ref mR, .int 0, .ref mO, .int 0, .int 0, .ref mN, .int 0, .int 0, .int 0, .int 0, .int 0, .int 0, .int 0, .int 0, .int 0])), (mB, .inl (cY, 4096, .inl bf))] := hD
    refine lv_iconst (v := 0) hx hb dX5_load_16 (by decide) ?_
    refine lv_istore (lv' := [(7, .int 0), (0, .ref m0), (1, .int pl), (2, .int a0), (3, .int a1), (4, .int a2), (5, .int a3), (6, .int a4)]) hx hb dX5_load_17 hl (by decide) rfl (fun ls hl => ?_)
    refine lv_iconst (v := 0) hx hb dX5_load_19 (by decide) ?_
    refine lv_istore (lv' := [(8, .int 0), (7, .int 0), (0, .ref m0), (1, .int pl), (2, .int a0), (3, .int a1), (4, .int a2), (5, .int a3), (6, .int a4)]) hx hb dX5_load_20 hl (by decide) rfl (fun ls hl => ?_)
    refine lv_iload hx hb dX5_load_22 (lv_at hl 0 rfl) ?_
    refine lv_bipush (v := 10) hx hb dX5_load_24 (by decide) ?_
    refine lv_icmp_ge (tgt := 135) hx hb dX5_load_26 (by decide) (fun c9 => absurd c9 (by decide)) (fun c_6 => ?_)
    refine lv_aload_n hx hb dX5_load_29 rfl (lv_at hl 2 rfl) ?_
    refine va_get (D := (dC, dI)) (ci := 5) (v := .int 0) (C := RX5) (T := TX5) (N := 17) hx hb hts (by decide +kernel) hown hK hP 0 rfl rfl 0 (by decide) (hts (.fieldLink RX5 22 "WordGuestModel" "thrown" "I") (by decide +kernel)) (fun _ h9 => h9) rfl dX5_load_30 ?_
    refine lv_if_ne (tgt := 135) hx hb dX5_load_33 (by decide) (fun c9 => absurd (by decide) c9) (fun c_7 => ?_)
    refine lv_iload hx hb dX5_load_36 (lv_at hl 0 rfl) ?_
    refine lv_iconst (v := 2) hx hb dX5_load_38 (by decide) ?_
    refine lv_icmp_ge (tgt := 46) hx hb dX5_load_39 (by decide) (fun c9 => absurd c9 (by decide)) (fun c_8 => ?_)
    refine lv_iload_n hx hb dX5_load_42 rfl (lv_at hl 4 rfl) ?_
    refine lv_goto (tgt := 82) hx hb dX5_load_43 (by decide) ?_
    refine lv_istore (lv' := [(9, .int a0), (8, .int 0), (7, .int 0), (0, .ref m0), (1, .int pl), (2, .int a0), (3, .int a1), (4, .int a2), (5, .int a3), (6, .int a4)]) hx hb dX5_load_82 hl (by decide) rfl (fun ls hl => ?_)
    refine lv_iload_n hx hb dX5_load_84 rfl (lv_at hl 4 rfl) ?_
    refine lv_iconst (v := 2) hx hb dX5_load_85 (by decide) ?_
    refine lv_iload hx hb dX5_load_86 (lv_at hl 1 rfl) ?_
    refine lv_imul hx hb dX5_load_88 ?_
    refine q_toc (y := 0) (by decide) ?_
    refine lv_iadd hx hb dX5_load_89 ?_
    refine lv_sipush (v := 4096) hx hb dX5_load_90 (by decide) ?_
    refine q_meet (fun H locs ls => ∃ (n9 : Int32) (f9 : Nat → Int32), n9 = 0 + dn (pl + 0) ∧ va_P (dC, dI) vwCl [(m0, .inr (5, [.int 0, .ref mB, .ref mR, .int 0, .ref mO, .int 0, .int 0, .ref mN, .int 0, .int 0, .int 0, .int 0, .int 0, .int 0, .int 0, .int 0, .int 0])), (mB, .inl (cY, 4096, .inl f9))] H ∧ va_D A [(m0, .inr (5, [.int 0, .ref mB, .ref mR, .int 0, .ref mO, .int 0, .int 0, .ref mN, .int 0, .int 0, .int 0, .int 0, .int 0, .int 0, .int 0, .int 0, .int 0])), (mB, .inl (cY, 4096, .inl f9))] ∧ va_S A s.heap H locs ∧ lv_has ls 10 [(9, .int a0), (8, .int 0), (7, .int n9), (0, .ref m0), (1, .int pl), (2, .int a0), (3, .int a1), (4, .int a2), (5, .int a3), (6, .int a4)]) 129 [] (fun H locs ls hJ => ?_) (fun jn => ?_)
    · obtain ⟨nv_10, f_11, hn_12, hP, hD, hS, hl⟩ := hJ
      refine lv_iinc (v := 1) (lv' := [(8, .int 1), (9, .int a0), (7, .int nv_10), (0, .ref m0), (1, .int pl), (2, .int a0), (3, .int a1), (4, .int a2), (5, .int a3), (6, .int a4)]) hx hb dX5_load_129 hl (k := 1) rfl (by decide) (by decide) rfl (fun ls hl => ?_)
      refine lv_goto (tgt := 22) hx hb dX5_load_132 (by decide) ?_
      refine lv_iload hx hb dX5_load_22 (lv_at hl 0 rfl) ?_
      refine lv_bipush (v := 10) hx hb dX5_load_24 (by decide) ?_
      refine lv_icmp_ge (tgt := 135) hx hb dX5_load_26 (by decide) (fun c9 => absurd c9 (by decide)) (fun c_13 => ?_)
      refine lv_aload_n hx hb dX5_load_29 rfl (lv_at hl 3 rfl) ?_
      refine va_get (D := (dC, dI)) (ci := 5) (v := .int 0) (C := RX5) (T := TX5) (N := 17) hx hb hts (by decide +kernel) hown hK hP 0 rfl rfl 0 (by decide) (hts (.fieldLink RX5 22 "WordGuestModel" "thrown" "I") (by decide +kernel)) (fun _ h9 => h9) rfl dX5_load_30 ?_
      refine lv_if_ne (tgt := 135) hx hb dX5_load_33 (by decide) (fun c9 => absurd (by decide) c9) (fun c_14 => ?_)
      refine lv_iload hx hb dX5_load_36 (lv_at hl 0 rfl) ?_
      refine lv_iconst (v := 2) hx hb dX5_load_38 (by decide) ?_
      refine lv_icmp_ge (tgt := 46) hx hb dX5_load_39 (by decide) (fun c9 => absurd c9 (by decide)) (fun c_15 => ?_)
      refine lv_iload_n hx hb dX5_load_42 rfl (lv_at hl 5 rfl) ?_
      refine lv_goto (tgt := 82) hx hb dX5_load_43 (by decide) ?_
      refine lv_istore (lv' := [(9, .int a0), (8, .int 1), (7, .int nv_10), (0, .ref m0), (1, .int pl), (2, .int a0), (3, .int a1), (4, .int a2), (5, .int a3), (6, .int a4)]) hx hb dX5_load_82 hl (by decide) rfl (fun ls hl => ?_)
      refine lv_iload_n hx hb dX5_load_84 rfl (lv_at hl 4 rfl) ?_
      refine lv_iconst (v := 2) hx hb dX5_load_85 (by decide) ?_
      refine lv_iload hx hb dX5_load_86 (lv_at hl 1 rfl) ?_
      refine lv_imul hx hb dX5_load_88 ?_
      refine q_toc (y := 2) (by decide) ?_
      refine lv_iadd hx hb dX5_load_89 ?_
      refine lv_sipush (v := 4096) hx hb dX5_load_90 (by decide) ?_
      refine q_meet (fun H locs ls => ∃ (n9 : Int32) (f9 : Nat → Int32), n9 = nv_10 + dn (pl + 2) ∧ va_P (dC, dI) vwCl [(m0, .inr (5, [.int 0, .ref mB, .ref mR, .int 0, .ref mO, .int 0, .int 0, .ref mN, .int 0, .int 0, .int 0, .int 0, .int 0, .int 0, .int 0, .int 0, .int 0])), (mB, .inl (cY, 4096, .inl f9))] H ∧ va_D A [(m0, .inr (5, [.int 0, .ref mB, .ref mR, .int 0, .ref mO, .int 0, .int 0, .ref mN, .int 0, .int 0, .int 0, .int 0, .int 0, .int 0, .int 0, .int 0, .int 0])), (mB, .inl (cY, 4096, .inl f9))] ∧ va_S A s.heap H locs ∧ lv_has ls 10 [(9, .int a0), (8, .int 1), (7, .int n9), (0, .ref m0), (1, .int pl), (2, .int a0), (3, .int a1), (4, .int a2), (5, .int a3), (6, .int a4)]) 129 [] (fun H locs ls hJ => ?_) (fun jn => ?_)
      · obtain ⟨nv_17, f_18, hn_19, hP, hD, hS, hl⟩ := hJ
        refine lv_iinc (v := 2) (lv' := [(8, .int 2), (9, .int a0), (7, .int nv_17), (0, .ref m0), (1, .int pl), (2, .int a0), (3, .int a1), (4, .int a2), (5, .int a3), (6, .int a4)]) hx hb dX5_load_129 hl (k := 1) rfl (by decide) (by decide) rfl (fun ls hl => ?_)
        refine lv_goto (tgt := 22) hx hb dX5_load_132 (by decide) ?_
        refine lv_iload hx hb dX5_load_22 (lv_at hl 0 rfl) ?_
        refine lv_bipush (v := 10) hx hb dX5_load_24 (by decide) ?_
        refine lv_icmp_ge (tgt := 135) hx hb dX5_load_26 (by decide) (fun c9 => absurd c9 (by decide)) (fun c_20 => ?_)
        refine lv_aload_n hx hb dX5_load_29 rfl (lv_at hl 3 rfl) ?_
        refine va_get (D := (dC, dI)) (ci := 5) (v := .int 0) (C := RX5) (T := TX5) (N := 17) hx hb hts (by decide +kernel) hown hK hP 0 rfl rfl 0 (by decide) (hts (.fieldLink RX5 22 "WordGuestModel" "thrown" "I") (by decide +kernel)) (fun _ h9 => h9) rfl dX5_load_30 ?_
        refine lv_if_ne (tgt := 135) hx hb dX5_load_33 (by decide) (fun c9 => absurd (by decide) c9) (fun c_21 => ?_)
        refine lv_iload hx hb dX5_load_36 (lv_at hl 0 rfl) ?_
        refine lv_iconst (v := 2) hx hb dX5_load_38 (by decide) ?_
        refine lv_icmp_ge (tgt := 46) hx hb dX5_load_39 (by decide) (fun c_22 => ?_) (fun c9 => absurd (by decide) c9)
        refine lv_iload hx hb dX5_load_46 (lv_at hl 0 rfl) ?_
        refine lv_iconst (v := 4) hx hb dX5_load_48 (by decide) ?_
        refine lv_icmp_ge (tgt := 56) hx hb dX5_load_49 (by decide) (fun c9 => absurd c9 (by decide)) (fun c_23 => ?_)
        refine lv_iload_n hx hb dX5_load_52 rfl (lv_at hl 6 rfl) ?_
        refine lv_goto (tgt := 82) hx hb dX5_load_53 (by decide) ?_
        refine lv_istore (lv' := [(9, .int a1), (8, .int 2), (7, .int nv_17), (0, .ref m0), (1, .int pl), (2, .int a0), (3, .int a1), (4, .int a2), (5, .int a3), (6, .int a4)]) hx hb dX5_load_82 hl (by decide) rfl (fun ls hl => ?_)
        refine lv_iload_n hx hb dX5_load_84 rfl (lv_at hl 4 rfl) ?_
        refine lv_iconst (v := 2) hx hb dX5_load_85 (by decide) ?_
        refine lv_iload hx hb dX5_load_86 (lv_at hl 1 rfl) ?_
        refine lv_imul hx hb dX5_load_88 ?_
        refine q_toc (y := 4) (by decide) ?_
        refine lv_iadd hx hb dX5_load_89 ?_
        refine lv_sipush (v := 4096) hx hb dX5_load_90 (by decide) ?_
        refine q_meet (fun H locs ls => ∃ (n9 : Int32) (f9 : Nat → Int32), n9 = nv_17 + dn (pl + 4) ∧ va_P (dC, dI) vwCl [(m0, .inr (5, [.int 0, .ref mB, .ref mR, .int 0, .ref mO, .int 0, .int 0, .ref mN, .int 0, .int 0, .int 0, .int 0, .int 0, .int 0, .int 0, .int 0, .int 0])), (mB, .inl (cY, 4096, .inl f9))] H ∧ va_D A [(m0, .inr (5, [.int 0, .ref mB, .ref mR, .int 0, .ref mO, .int 0, .int 0, .ref mN, .int 0, .int 0, .int 0, .int 0, .int 0, .int 0, .int 0, .int 0, .int 0])), (mB, .inl (cY, 4096, .inl f9))] ∧ va_S A s.heap H locs ∧ lv_has ls 10 [(9, .int a1), (8, .int 2), (7, .int n9), (0, .ref m0), (1, .int pl), (2, .int a0), (3, .int a1), (4, .int a2), (5, .int a3), (6, .int a4)]) 129 [] (fun H locs ls hJ => ?_) (fun jn => ?_)
        · obtain ⟨nv_25, f_26, hn_27, hP, hD, hS, hl⟩ := hJ
          refine lv_iinc (v := 3) (lv' := [(8, .int 3), (9, .int a1), (7, .int nv_25), (0, .ref m0), (1, .int pl), (2, .int a0), (3, .int a1), (4, .int a2), (5, .int a3), (6, .int a4)]) hx hb dX5_load_129 hl (k := 1) rfl (by decide) (by decide) rfl (fun ls hl => ?_)
          refine lv_goto (tgt := 22) hx hb dX5_load_132 (by decide) ?_
          refine lv_iload hx hb dX5_load_22 (lv_at hl 0 rfl) ?_
          refine lv_bipush (v := 10) hx hb dX5_load_24 (by decide) ?_
          refine lv_icmp_ge (tgt := 135) hx hb dX5_load_26 (by decide) (fun c9 => absurd c9 (by decide)) (fun c_28 => ?_)
          refine lv_aload_n hx hb dX5_load_29 rfl (lv_at hl 3 rfl) ?_
          refine va_get (D := (dC, dI)) (ci := 5) (v := .int 0) (C := RX5) (T := TX5) (N := 17) hx hb hts (by decide +kernel) hown hK hP 0 rfl rfl 0 (by decide) (hts (.fieldLink RX5 22 "WordGuestModel" "thrown" "I") (by decide +kernel)) (fun _ h9 => h9) rfl dX5_load_30 ?_
          refine lv_if_ne (tgt := 135) hx hb dX5_load_33 (by decide) (fun c9 => absurd (by decide) c9) (fun c_29 => ?_)
          refine lv_iload hx hb dX5_load_36 (lv_at hl 0 rfl) ?_
          refine lv_iconst (v := 2) hx hb dX5_load_38 (by decide) ?_
          refine lv_icmp_ge (tgt := 46) hx hb dX5_load_39 (by decide) (fun c_30 => ?_) (fun c9 => absurd (by decide) c9)
          refine lv_iload hx hb dX5_load_46 (lv_at hl 0 rfl) ?_
          refine lv_iconst (v := 4) hx hb dX5_load_48 (by decide) ?_
          refine lv_icmp_ge (tgt := 56) hx hb dX5_load_49 (by decide) (fun c9 => absurd c9 (by decide)) (fun c_31 => ?_)
          refine lv_iload_n hx hb dX5_load_52 rfl (lv_at hl 6 rfl) ?_
          refine lv_goto (tgt := 82) hx hb dX5_load_53 (by decide) ?_
          refine lv_istore (lv' := [(9, .int a1), (8, .int 3), (7, .int nv_25), (0, .ref m0), (1, .int pl), (2, .int a0), (3, .int a1), (4, .int a2), (5, .int a3), (6, .int a4)]) hx hb dX5_load_82 hl (by decide) rfl (fun ls hl => ?_)
          refine lv_iload_n hx hb dX5_load_84 rfl (lv_at hl 4 rfl) ?_
          refine lv_iconst (v := 2) hx hb dX5_load_85 (by decide) ?_
          refine lv_iload hx hb dX5_load_86 (lv_at hl 1 rfl) ?_
          refine lv_imul hx hb dX5_load_88 ?_
          refine q_toc (y := 6) (by decide) ?_
          refine lv_iadd hx hb dX5_load_89 ?_
          refine lv_sipush (v := 4096) hx hb dX5_load_90 (by decide) ?_
          refine q_meet (fun H locs ls => ∃ (n9 : Int32) (f9 : Nat → Int32), n9 = nv_25 + dn (pl + 6) ∧ va_P (dC, dI) vwCl [(m0, .inr (5, [.int 0, .ref mB, .ref mR, .int 0, .ref mO, .int 0, .int 0, .ref mN, .int 0, .int 0, .int 0, .int 0, .int 0, .int 0, .int 0, .int 0, .int 0])), (mB, .inl (cY, 4096, .inl f9))] H ∧ va_D A [(m0, .inr (5, [.int 0, .ref mB, .ref mR, .int 0, .ref mO, .int 0, .int 0, .ref mN, .int 0, .int 0, .int 0, .int 0, .int 0, .int 0, .int 0, .int 0, .int 0])), (mB, .inl (cY, 4096, .inl f9))] ∧ va_S A s.heap H locs ∧ lv_has ls 10 [(9, .int a1), (8, .int 3), (7, .int n9), (0, .ref m0), (1, .int pl), (2, .int a0), (3, .int a1), (4, .int a2), (5, .int a3), (6, .int a4)]) 129 [] (fun H locs ls hJ => ?_) (fun jn => ?_)
          · obtain ⟨nv_33, f_34, hn_35, hP, hD, hS, hl⟩ := hJ
            refine lv_iinc (v := 4) (lv' := [(8, .int 4), (9, .int a1), (7, .int nv_33), (0, .ref m0), (1, .int pl), (2, .int a0), (3, .int a1), (4, .int a2), (5, .int a3), (6, .int a4)]) hx hb dX5_load_129 hl (k := 1) rfl (by decide) (by decide) rfl (fun ls hl => ?_)
            refine lv_goto (tgt := 22) hx hb dX5_load_132 (by decide) ?_
            refine lv_iload hx hb dX5_load_22 (lv_at hl 0 rfl) ?_
            refine lv_bipush (v := 10) hx hb dX5_load_24 (by decide) ?_
            refine lv_icmp_ge (tgt := 135) hx hb dX5_load_26 (by decide) (fun c9 => absurd c9 (by decide)) (fun c_36 => ?_)
            refine lv_aload_n hx hb dX5_load_29 rfl (lv_at hl 3 rfl) ?_
            refine va_get (D := (dC, dI)) (ci := 5) (v := .int 0) (C := RX5) (T := TX5) (N := 17) hx hb hts (by decide +kernel) hown hK hP 0 rfl rfl 0 (by decide) (hts (.fieldLink RX5 22 "WordGuestModel" "thrown" "I") (by decide +kernel)) (fun _ h9 => h9) rfl dX5_load_30 ?_
            refine lv_if_ne (tgt := 135) hx hb dX5_load_33 (by decide) (fun c9 => absurd (by decide) c9) (fun c_37 => ?_)
            refine lv_iload hx hb dX5_load_36 (lv_at hl 0 rfl) ?_
            refine lv_iconst (v := 2) hx hb dX5_load_38 (by decide) ?_
            refine lv_icmp_ge (tgt := 46) hx hb dX5_load_39 (by decide) (fun c_38 => ?_) (fun c9 => absurd (by decide) c9)
            refine lv_iload hx hb dX5_load_46 (lv_at hl 0 rfl) ?_
            refine lv_iconst (v := 4) hx hb dX5_load_48 (by decide) ?_
            refine lv_icmp_ge (tgt := 56) hx hb dX5_load_49 (by decide) (fun c_39 => ?_) (fun c9 => absurd (by decide) c9)
            refine lv_iload hx hb dX5_load_56 (lv_at hl 0 rfl) ?_
            refine lv_bipush (v := 6) hx hb dX5_load_58 (by decide) ?_
            refine lv_icmp_ge (tgt := 68) hx hb dX5_load_60 (by decide) (fun c9 => absurd c9 (by decide)) (fun c_40 => ?_)
            refine lv_iload hx hb dX5_load_63 (lv_at hl 7 rfl) ?_
            refine lv_goto (tgt := 82) hx hb dX5_load_65 (by decide) ?_
            refine lv_istore (lv' := [(9, .int a2), (8, .int 4), (7, .int nv_33), (0, .ref m0), (1, .int pl), (2, .int a0), (3, .int a1), (4, .int a2), (5, .int a3), (6, .int a4)]) hx hb dX5_load_82 hl (by decide) rfl (fun ls hl => ?_)
            refine lv_iload_n hx hb dX5_load_84 rfl (lv_at hl 4 rfl) ?_
            refine lv_iconst (v := 2) hx hb dX5_load_85 (by decide) ?_
            refine lv_iload hx hb dX5_load_86 (lv_at hl 1 rfl) ?_
            refine lv_imul hx hb dX5_load_88 ?_
            refine q_toc (y := 8) (by decide) ?_
            refine lv_iadd hx hb dX5_load_89 ?_
            refine lv_sipush (v := 4096) hx hb dX5_load_90 (by decide) ?_
            refine q_meet (fun H locs ls => ∃ (n9 : Int32) (f9 : Nat → Int32), n9 = nv_33 + dn (pl + 8) ∧ va_P (dC, dI) vwCl [(m0, .inr (5, [.int 0, .ref mB, .ref mR, .int 0, .ref mO, .int 0, .int 0, .ref mN, .int 0, .int 0, .int 0, .int 0, .int 0, .int 0, .int 0, .int 0, .int 0])), (mB, .inl (cY, 4096, .inl f9))] H ∧ va_D A [(m0, .inr (5, [.int 0, .ref mB, .ref mR, .int 0, .ref mO, .int 0, .int 0, .ref mN, .int 0, .int 0, .int 0, .int 0, .int 0, .int 0, .int 0, .int 0, .int 0])), (mB, .inl (cY, 4096, .inl f9))] ∧ va_S A s.heap H locs ∧ lv_has ls 10 [(9, .int a2), (8, .int 4), (7, .int n9), (0, .ref m0), (1, .int pl), (2, .int a0), (3, .int a1), (4, .int a2), (5, .int a3), (6, .int a4)]) 129 [] (fun H locs ls hJ => ?_) (fun jn => ?_)
            · obtain ⟨nv_42, f_43, hn_44, hP, hD, hS, hl⟩ := hJ
              refine lv_iinc (v := 5) (lv' := [(8, .int 5), (9, .int a2), (7, .int nv_42), (0, .ref m0), (1, .int pl), (2, .int a0), (3, .int a1), (4, .int a2), (5, .int a3), (6, .int a4)]) hx hb dX5_load_129 hl (k := 1) rfl (by decide) (by decide) rfl (fun ls hl => ?_)
              refine lv_goto (tgt := 22) hx hb dX5_load_132 (by decide) ?_
              refine lv_iload hx hb dX5_load_22 (lv_at hl 0 rfl) ?_
              refine lv_bipush (v := 10) hx hb dX5_load_24 (by decide) ?_
              refine lv_icmp_ge (tgt := 135) hx hb dX5_load_26 (by decide) (fun c9 => absurd c9 (by decide)) (fun c_45 => ?_)
              refine lv_aload_n hx hb dX5_load_29 rfl (lv_at hl 3 rfl) ?_
              refine va_get (D := (dC, dI)) (ci := 5) (v := .int 0) (C := RX5) (T := TX5) (N := 17) hx hb hts (by decide +kernel) hown hK hP 0 rfl rfl 0 (by decide) (hts (.fieldLink RX5 22 "WordGuestModel" "thrown" "I") (by decide +kernel)) (fun _ h9 => h9) rfl dX5_load_30 ?_
              refine lv_if_ne (tgt := 135) hx hb dX5_load_33 (by decide) (fun c9 => absurd (by decide) c9) (fun c_46 => ?_)
              refine lv_iload hx hb dX5_load_36 (lv_at hl 0 rfl) ?_
              refine lv_iconst (v := 2) hx hb dX5_load_38 (by decide) ?_
              refine lv_icmp_ge (tgt := 46) hx hb dX5_load_39 (by decide) (fun c_47 => ?_) (fun c9 => absurd (by decide) c9)
              refine lv_iload hx hb dX5_load_46 (lv_at hl 0 rfl) ?_
              refine lv_iconst (v := 4) hx hb dX5_load_48 (by decide) ?_
              refine lv_icmp_ge (tgt := 56) hx hb dX5_load_49 (by decide) (fun c_48 => ?_) (fun c9 => absurd (by decide) c9)
              refine lv_iload hx hb dX5_load_56 (lv_at hl 0 rfl) ?_
              refine lv_bipush (v := 6) hx hb dX5_load_58 (by decide) ?_
              refine lv_icmp_ge (tgt := 68) hx hb dX5_load_60 (by decide) (fun c9 => absurd c9 (by decide)) (fun c_49 => ?_)
              refine lv_iload hx hb dX5_load_63 (lv_at hl 7 rfl) ?_
              refine lv_goto (tgt := 82) hx hb dX5_load_65 (by decide) ?_
              refine lv_istore (lv' := [(9, .int a2), (8, .int 5), (7, .int nv_42), (0, .ref m0), (1, .int pl), (2, .int a0), (3, .int a1), (4, .int a2), (5, .int a3), (6, .int a4)]) hx hb dX5_load_82 hl (by decide) rfl (fun ls hl => ?_)
              refine lv_iload_n hx hb dX5_load_84 rfl (lv_at hl 4 rfl) ?_
              refine lv_iconst (v := 2) hx hb dX5_load_85 (by decide) ?_
              refine lv_iload hx hb dX5_load_86 (lv_at hl 1 rfl) ?_
              refine lv_imul hx hb dX5_load_88 ?_
              refine q_toc (y := 10) (by decide) ?_
              refine lv_iadd hx hb dX5_load_89 ?_
              refine lv_sipush (v := 4096) hx hb dX5_load_90 (by decide) ?_
              refine q_meet (fun H locs ls => ∃ (n9 : Int32) (f9 : Nat → Int32), n9 = nv_42 + dn (pl + 10) ∧ va_P (dC, dI) vwCl [(m0, .inr (5, [.int 0, .ref mB, .ref mR, .int 0, .ref mO, .int 0, .int 0, .ref mN, .int 0, .int 0, .int 0, .int 0, .int 0, .int 0, .int 0, .int 0, .int 0])), (mB, .inl (cY, 4096, .inl f9))] H ∧ va_D A [(m0, .inr (5, [.int 0, .ref mB, .ref mR, .int 0, .ref mO, .int 0, .int 0, .ref mN, .int 0, .int 0, .int 0, .int 0, .int 0, .int 0, .int 0, .int 0, .int 0])), (mB, .inl (cY, 4096, .inl f9))] ∧ va_S A s.heap H locs ∧ lv_has ls 10 [(9, .int a2), (8, .int 5), (7, .int n9), (0, .ref m0), (1, .int pl), (2, .int a0), (3, .int a1), (4, .int a2), (5, .int a3), (6, .int a4)]) 129 [] (fun H locs ls hJ => ?_) (fun jn => ?_)
              · obtain ⟨nv_51, f_52, hn_53, hP, hD, hS, hl⟩ := hJ
                refine lv_iinc (v := 6) (lv' := [(8, .int 6), (9, .int a2), (7, .int nv_51), (0, .ref m0), (1, .int pl), (2, .int a0), (3, .int a1), (4, .int a2), (5, .int a3), (6, .int a4)]) hx hb dX5_load_129 hl (k := 1) rfl (by decide) (by decide) rfl (fun ls hl => ?_)
                refine lv_goto (tgt := 22) hx hb dX5_load_132 (by decide) ?_
                refine lv_iload hx hb dX5_load_22 (lv_at hl 0 rfl) ?_
                refine lv_bipush (v := 10) hx hb dX5_load_24 (by decide) ?_
                refine lv_icmp_ge (tgt := 135) hx hb dX5_load_26 (by decide) (fun c9 => absurd c9 (by decide)) (fun c_54 => ?_)
                refine lv_aload_n hx hb dX5_load_29 rfl (lv_at hl 3 rfl) ?_
                refine va_get (D := (dC, dI)) (ci := 5) (v := .int 0) (C := RX5) (T := TX5) (N := 17) hx hb hts (by decide +kernel) hown hK hP 0 rfl rfl 0 (by decide) (hts (.fieldLink RX5 22 "WordGuestModel" "thrown" "I") (by decide +kernel)) (fun _ h9 => h9) rfl dX5_load_30 ?_
                refine lv_if_ne (tgt := 135) hx hb dX5_load_33 (by decide) (fun c9 => absurd (by decide) c9) (fun c_55 => ?_)
                refine lv_iload hx hb dX5_load_36 (lv_at hl 0 rfl) ?_
                refine lv_iconst (v := 2) hx hb dX5_load_38 (by decide) ?_
                refine lv_icmp_ge (tgt := 46) hx hb dX5_load_39 (by decide) (fun c_56 => ?_) (fun c9 => absurd (by decide) c9)
                refine lv_iload hx hb dX5_load_46 (lv_at hl 0 rfl) ?_
                refine lv_iconst (v := 4) hx hb dX5_load_48 (by decide) ?_
                refine lv_icmp_ge (tgt := 56) hx hb dX5_load_49 (by decide) (fun c_57 => ?_) (fun c9 => absurd (by decide) c9)
                refine lv_iload hx hb dX5_load_56 (lv_at hl 0 rfl) ?_
                refine lv_bipush (v := 6) hx hb dX5_load_58 (by decide) ?_
                refine lv_icmp_ge (tgt := 68) hx hb dX5_load_60 (by decide) (fun c_58 => ?_) (fun c9 => absurd (by decide) c9)
                refine lv_iload hx hb dX5_load_68 (lv_at hl 0 rfl) ?_
                refine lv_bipush (v := 8) hx hb dX5_load_70 (by decide) ?_
                refine lv_icmp_ge (tgt := 80) hx hb dX5_load_72 (by decide) (fun c9 => absurd c9 (by decide)) (fun c_59 => ?_)
                refine lv_iload hx hb dX5_load_75 (lv_at hl 8 rfl) ?_
                refine lv_goto (tgt := 82) hx hb dX5_load_77 (by decide) ?_
                refine lv_istore (lv' := [(9, .int a3), (8, .int 6), (7, .int nv_51), (0, .ref m0), (1, .int pl), (2, .int a0), (3, .int a1), (4, .int a2), (5, .int a3), (6, .int a4)]) hx hb dX5_load_82 hl (by decide) rfl (fun ls hl => ?_)
                refine lv_iload_n hx hb dX5_load_84 rfl (lv_at hl 4 rfl) ?_
                refine lv_iconst (v := 2) hx hb dX5_load_85 (by decide) ?_
                refine lv_iload hx hb dX5_load_86 (lv_at hl 1 rfl) ?_
                refine lv_imul hx hb dX5_load_88 ?_
                refine q_toc (y := 12) (by decide) ?_
                refine lv_iadd hx hb dX5_load_89 ?_
                refine lv_sipush (v := 4096) hx hb dX5_load_90 (by decide) ?_
                refine q_meet (fun H locs ls => ∃ (n9 : Int32) (f9 : Nat → Int32), n9 = nv_51 + dn (pl + 12) ∧ va_P (dC, dI) vwCl [(m0, .inr (5, [.int 0, .ref mB, .ref mR, .int 0, .ref mO, .int 0, .int 0, .ref mN, .int 0, .int 0, .int 0, .int 0, .int 0, .int 0, .int 0, .int 0, .int 0])), (mB, .inl (cY, 4096, .inl f9))] H ∧ va_D A [(m0, .inr (5, [.int 0, .ref mB, .ref mR, .int 0, .ref mO, .int 0, .int 0, .ref mN, .int 0, .int 0, .int 0, .int 0, .int 0, .int 0, .int 0, .int 0, .int 0])), (mB, .inl (cY, 4096, .inl f9))] ∧ va_S A s.heap H locs ∧ lv_has ls 10 [(9, .int a3), (8, .int 6), (7, .int n9), (0, .ref m0), (1, .int pl), (2, .int a0), (3, .int a1), (4, .int a2), (5, .int a3), (6, .int a4)]) 129 [] (fun H locs ls hJ => ?_) (fun jn => ?_)
                · obtain ⟨nv_61, f_62, hn_63, hP, hD, hS, hl⟩ := hJ
                  refine lv_iinc (v := 7) (lv' := [(8, .int 7), (9, .int a3), (7, .int nv_61), (0, .ref m0), (1, .int pl), (2, .int a0), (3, .int a1), (4, .int a2), (5, .int a3), (6, .int a4)]) hx hb dX5_load_129 hl (k := 1) rfl (by decide) (by decide) rfl (fun ls hl => ?_)
                  refine lv_goto (tgt := 22) hx hb dX5_load_132 (by decide) ?_
                  refine lv_iload hx hb dX5_load_22 (lv_at hl 0 rfl) ?_
                  refine lv_bipush (v := 10) hx hb dX5_load_24 (by decide) ?_
                  refine lv_icmp_ge (tgt := 135) hx hb dX5_load_26 (by decide) (fun c9 => absurd c9 (by decide)) (fun c_64 => ?_)
                  refine lv_aload_n hx hb dX5_load_29 rfl (lv_at hl 3 rfl) ?_
                  refine va_get (D := (dC, dI)) (ci := 5) (v := .int 0) (C := RX5) (T := TX5) (N := 17) hx hb hts (by decide +kernel) hown hK hP 0 rfl rfl 0 (by decide) (hts (.fieldLink RX5 22 "WordGuestModel" "thrown" "I") (by decide +kernel)) (fun _ h9 => h9) rfl dX5_load_30 ?_
                  refine lv_if_ne (tgt := 135) hx hb dX5_load_33 (by decide) (fun c9 => absurd (by decide) c9) (fun c_65 => ?_)
                  refine lv_iload hx hb dX5_load_36 (lv_at hl 0 rfl) ?_
                  refine lv_iconst (v := 2) hx hb dX5_load_38 (by decide) ?_
                  refine lv_icmp_ge (tgt := 46) hx hb dX5_load_39 (by decide) (fun c_66 => ?_) (fun c9 => absurd (by decide) c9)
                  refine lv_iload hx hb dX5_load_46 (lv_at hl 0 rfl) ?_
                  refine lv_iconst (v := 4) hx hb dX5_load_48 (by decide) ?_
                  refine lv_icmp_ge (tgt := 56) hx hb dX5_load_49 (by decide) (fun c_67 => ?_) (fun c9 => absurd (by decide) c9)
                  refine lv_iload hx hb dX5_load_56 (lv_at hl 0 rfl) ?_
                  refine lv_bipush (v := 6) hx hb dX5_load_58 (by decide) ?_
                  refine lv_icmp_ge (tgt := 68) hx hb dX5_load_60 (by decide) (fun c_68 => ?_) (fun c9 => absurd (by decide) c9)
                  refine lv_iload hx hb dX5_load_68 (lv_at hl 0 rfl) ?_
                  refine lv_bipush (v := 8) hx hb dX5_load_70 (by decide) ?_
                  refine lv_icmp_ge (tgt := 80) hx hb dX5_load_72 (by decide) (fun c9 => absurd c9 (by decide)) (fun c_69 => ?_)
                  refine lv_iload hx hb dX5_load_75 (lv_at hl 8 rfl) ?_
                  refine lv_goto (tgt := 82) hx hb dX5_load_77 (by decide) ?_
                  refine lv_istore (lv' := [(9, .int a3), (8, .int 7), (7, .int nv_61), (0, .ref m0), (1, .int pl), (2, .int a0), (3, .int a1), (4, .int a2), (5, .int a3), (6, .int a4)]) hx hb dX5_load_82 hl (by decide) rfl (fun ls hl => ?_)
                  refine lv_iload_n hx hb dX5_load_84 rfl (lv_at hl 4 rfl) ?_
                  refine lv_iconst (v := 2) hx hb dX5_load_85 (by decide) ?_
                  refine lv_iload hx hb dX5_load_86 (lv_at hl 1 rfl) ?_
                  refine lv_imul hx hb dX5_load_88 ?_
                  refine q_toc (y := 14) (by decide) ?_
                  refine lv_iadd hx hb dX5_load_89 ?_
                  refine lv_sipush (v := 4096) hx hb dX5_load_90 (by decide) ?_
                  refine q_meet (fun H locs ls => ∃ (n9 : Int32) (f9 : Nat → Int32), n9 = nv_61 + dn (pl + 14) ∧ va_P (dC, dI) vwCl [(m0, .inr (5, [.int 0, .ref mB, .ref mR, .int 0, .ref mO, .int 0, .int 0, .ref mN, .int 0, .int 0, .int 0, .int 0, .int 0, .int 0, .int 0, .int 0, .int 0])), (mB, .inl (cY, 4096, .inl f9))] H ∧ va_D A [(m0, .inr (5, [.int 0, .ref mB, .ref mR, .int 0, .ref mO, .int 0, .int 0, .ref mN, .int 0, .int 0, .int 0, .int 0, .int 0, .int 0, .int 0, .int 0, .int 0])), (mB, .inl (cY, 4096, .inl f9))] ∧ va_S A s.heap H locs ∧ lv_has ls 10 [(9, .int a3), (8, .int 7), (7, .int n9), (0, .ref m0), (1, .int pl), (2, .int a0), (3, .int a1), (4, .int a2), (5, .int a3), (6, .int a4)]) 129 [] (fun H locs ls hJ => ?_) (fun jn => ?_)
                  · obtain ⟨nv_71, f_72, hn_73, hP, hD, hS, hl⟩ := hJ
                    refine lv_iinc (v := 8) (lv' := [(8, .int 8), (9, .int a3), (7, .int nv_71), (0, .ref m0), (1, .int pl), (2, .int a0), (3, .int a1), (4, .int a2), (5, .int a3), (6, .int a4)]) hx hb dX5_load_129 hl (k := 1) rfl (by decide) (by decide) rfl (fun ls hl => ?_)
                    refine lv_goto (tgt := 22) hx hb dX5_load_132 (by decide) ?_
                    refine lv_iload hx hb dX5_load_22 (lv_at hl 0 rfl) ?_
                    refine lv_bipush (v := 10) hx hb dX5_load_24 (by decide) ?_
                    refine lv_icmp_ge (tgt := 135) hx hb dX5_load_26 (by decide) (fun c9 => absurd c9 (by decide)) (fun c_74 => ?_)
                    refine lv_aload_n hx hb dX5_load_29 rfl (lv_at hl 3 rfl) ?_
                    refine va_get (D := (dC, dI)) (ci := 5) (v := .int 0) (C := RX5) (T := TX5) (N := 17) hx hb hts (by decide +kernel) hown hK hP 0 rfl rfl 0 (by decide) (hts (.fieldLink RX5 22 "WordGuestModel" "thrown" "I") (by decide +kernel)) (fun _ h9 => h9) rfl dX5_load_30 ?_
                    refine lv_if_ne (tgt := 135) hx hb dX5_load_33 (by decide) (fun c9 => absurd (by decide) c9) (fun c_75 => ?_)
                    refine lv_iload hx hb dX5_load_36 (lv_at hl 0 rfl) ?_
                    refine lv_iconst (v := 2) hx hb dX5_load_38 (by decide) ?_
                    refine lv_icmp_ge (tgt := 46) hx hb dX5_load_39 (by decide) (fun c_76 => ?_) (fun c9 => absurd (by decide) c9)
                    refine lv_iload hx hb dX5_load_46 (lv_at hl 0 rfl) ?_
                    refine lv_iconst (v := 4) hx hb dX5_load_48 (by decide) ?_
                    refine lv_icmp_ge (tgt := 56) hx hb dX5_load_49 (by decide) (fun c_77 => ?_) (fun c9 => absurd (by decide) c9)
                    refine lv_iload hx hb dX5_load_56 (lv_at hl 0 rfl) ?_
                    refine lv_bipush (v := 6) hx hb dX5_load_58 (by decide) ?_
                    refine lv_icmp_ge (tgt := 68) hx hb dX5_load_60 (by decide) (fun c_78 => ?_) (fun c9 => absurd (by decide) c9)
                    refine lv_iload hx hb dX5_load_68 (lv_at hl 0 rfl) ?_
                    refine lv_bipush (v := 8) hx hb dX5_load_70 (by decide) ?_
                    refine lv_icmp_ge (tgt := 80) hx hb dX5_load_72 (by decide) (fun c_79 => ?_) (fun c9 => absurd (by decide) c9)
                    refine lv_iload hx hb dX5_load_80 (lv_at hl 9 rfl) ?_
                    refine lv_istore (lv' := [(9, .int a4), (8, .int 8), (7, .int nv_71), (0, .ref m0), (1, .int pl), (2, .int a0), (3, .int a1), (4, .int a2), (5, .int a3), (6, .int a4)]) hx hb dX5_load_82 hl (by decide) rfl (fun ls hl => ?_)
                    refine lv_iload_n hx hb dX5_load_84 rfl (lv_at hl 4 rfl) ?_
                    refine lv_iconst (v := 2) hx hb dX5_load_85 (by decide) ?_
                    refine lv_iload hx hb dX5_load_86 (lv_at hl 1 rfl) ?_
                    refine lv_imul hx hb dX5_load_88 ?_
                    refine q_toc (y := 16) (by decide) ?_
                    refine lv_iadd hx hb dX5_load_89 ?_
                    refine lv_sipush (v := 4096) hx hb dX5_load_90 (by decide) ?_
                    refine q_meet (fun H locs ls => ∃ (n9 : Int32) (f9 : Nat → Int32), n9 = nv_71 + dn (pl + 16) ∧ va_P (dC, dI) vwCl [(m0, .inr (5, [.int 0, .ref mB, .ref mR, .int 0, .ref mO, .int 0, .int 0, .ref mN, .int 0, .int 0, .int 0, .int 0, .int 0, .int 0, .int 0, .int 0, .int 0])), (mB, .inl (cY, 4096, .inl f9))] H ∧ va_D A [(m0, .inr (5, [.int 0, .ref mB, .ref mR, .int 0, .ref mO, .int 0, .int 0, .ref mN, .int 0, .int 0, .int 0, .int 0, .int 0, .int 0, .int 0, .int 0, .int 0])), (mB, .inl (cY, 4096, .inl f9))] ∧ va_S A s.heap H locs ∧ lv_has ls 10 [(9, .int a4), (8, .int 8), (7, .int n9), (0, .ref m0), (1, .int pl), (2, .int a0), (3, .int a1), (4, .int a2), (5, .int a3), (6, .int a4)]) 129 [] (fun H locs ls hJ => ?_) (fun jn => ?_)
                    · obtain ⟨nv_81, f_82, hn_83, hP, hD, hS, hl⟩ := hJ
                      refine lv_iinc (v := 9) (lv' := [(8, .int 9), (9, .int a4), (7, .int nv_81), (0, .ref m0), (1, .int pl), (2, .int a0), (3, .int a1), (4, .int a2), (5, .int a3), (6, .int a4)]) hx hb dX5_load_129 hl (k := 1) rfl (by decide) (by decide) rfl (fun ls hl => ?_)
                      refine lv_goto (tgt := 22) hx hb dX5_load_132 (by decide) ?_
                      refine lv_iload hx hb dX5_load_22 (lv_at hl 0 rfl) ?_
                      refine lv_bipush (v := 10) hx hb dX5_load_24 (by decide) ?_
                      refine lv_icmp_ge (tgt := 135) hx hb dX5_load_26 (by decide) (fun c9 => absurd c9 (by decide)) (fun c_84 => ?_)
                      refine lv_aload_n hx hb dX5_load_29 rfl (lv_at hl 3 rfl) ?_
                      refine va_get (D := (dC, dI)) (ci := 5) (v := .int 0) (C := RX5) (T := TX5) (N := 17) hx hb hts (by decide +kernel) hown hK hP 0 rfl rfl 0 (by decide) (hts (.fieldLink RX5 22 "WordGuestModel" "thrown" "I") (by decide +kernel)) (fun _ h9 => h9) rfl dX5_load_30 ?_
                      refine lv_if_ne (tgt := 135) hx hb dX5_load_33 (by decide) (fun c9 => absurd (by decide) c9) (fun c_85 => ?_)
                      refine lv_iload hx hb dX5_load_36 (lv_at hl 0 rfl) ?_
                      refine lv_iconst (v := 2) hx hb dX5_load_38 (by decide) ?_
                      refine lv_icmp_ge (tgt := 46) hx hb dX5_load_39 (by decide) (fun c_86 => ?_) (fun c9 => absurd (by decide) c9)
                      refine lv_iload hx hb dX5_load_46 (lv_at hl 0 rfl) ?_
                      refine lv_iconst (v := 4) hx hb dX5_load_48 (by decide) ?_
                      refine lv_icmp_ge (tgt := 56) hx hb dX5_load_49 (by decide) (fun c_87 => ?_) (fun c9 => absurd (by decide) c9)
                      refine lv_iload hx hb dX5_load_56 (lv_at hl 0 rfl) ?_
                      refine lv_bipush (v := 6) hx hb dX5_load_58 (by decide) ?_
                      refine lv_icmp_ge (tgt := 68) hx hb dX5_load_60 (by decide) (fun c_88 => ?_) (fun c9 => absurd (by decide) c9)
                      refine lv_iload hx hb dX5_load_68 (lv_at hl 0 rfl) ?_
                      refine lv_bipush (v := 8) hx hb dX5_load_70 (by decide) ?_
                      refine lv_icmp_ge (tgt := 80) hx hb dX5_load_72 (by decide) (fun c_89 => ?_) (fun c9 => absurd (by decide) c9)
                      refine lv_iload hx hb dX5_load_80 (lv_at hl 9 rfl) ?_
                      refine lv_istore (lv' := [(9, .int a4), (8, .int 9), (7, .int nv_81), (0, .ref m0), (1, .int pl), (2, .int a0), (3, .int a1), (4, .int a2), (5, .int a3), (6, .int a4)]) hx hb dX5_load_82 hl (by decide) rfl (fun ls hl => ?_)
                      refine lv_iload_n hx hb dX5_load_84 rfl (lv_at hl 4 rfl) ?_
                      refine lv_iconst (v := 2) hx hb dX5_load_85 (by decide) ?_
                      refine lv_iload hx hb dX5_load_86 (lv_at hl 1 rfl) ?_
                      refine lv_imul hx hb dX5_load_88 ?_
                      refine q_toc (y := 18) (by decide) ?_
                      refine lv_iadd hx hb dX5_load_89 ?_
                      refine lv_sipush (v := 4096) hx hb dX5_load_90 (by decide) ?_
                      refine q_meet (fun H locs ls => ∃ (n9 : Int32) (f9 : Nat → Int32), n9 = nv_81 + dn (pl + 18) ∧ va_P (dC, dI) vwCl [(m0, .inr (5, [.int 0, .ref mB, .ref mR, .int 0, .ref mO, .int 0, .int 0, .ref mN, .int 0, .int 0, .int 0, .int 0, .int 0, .int 0, .int 0, .int 0, .int 0])), (mB, .inl (cY, 4096, .inl f9))] H ∧ va_D A [(m0, .inr (5, [.int 0, .ref mB, .ref mR, .int 0, .ref mO, .int 0, .int 0, .ref mN, .int 0, .int 0, .int 0, .int 0, .int 0, .int 0, .int 0, .int 0, .int 0])), (mB, .inl (cY, 4096, .inl f9))] ∧ va_S A s.heap H locs ∧ lv_has ls 10 [(9, .int a4), (8, .int 9), (7, .int n9), (0, .ref m0), (1, .int pl), (2, .int a0), (3, .int a1), (4, .int a2), (5, .int a3), (6, .int a4)]) 129 [] (fun H locs ls hJ => ?_) (fun jn => ?_)
                      · obtain ⟨nv_91, f_92, hn_93, hP, hD, hS, hl⟩ := hJ
                        refine lv_iinc (v := 10) (lv' := [(8, .int 10), (9, .int a4), (7, .int nv_91), (0, .ref m0), (1, .int pl), (2, .int a0), (3, .int a1), (4, .int a2), (5, .int a3), (6, .int a4)]) hx hb dX5_load_129 hl (k := 1) rfl (by decide) (by decide) rfl (fun ls hl => ?_)
                        refine lv_goto (tgt := 22) hx hb dX5_load_132 (by decide) ?_
                        refine lv_iload hx hb dX5_load_22 (lv_at hl 0 rfl) ?_
                        refine lv_bipush (v := 10) hx hb dX5_load_24 (by decide) ?_
                        refine lv_icmp_ge (tgt := 135) hx hb dX5_load_26 (by decide) (fun c_94 => ?_) (fun c9 => absurd (by decide) c9)
                        refine lv_iload hx hb dX5_load_135 (lv_at hl 2 rfl) ?_
                        have hP9 := hP.sub (ws' := [(m0, .inr (5, [.int 0, .ref mB, .ref mR, .int 0, .ref mO, .int 0, .int 0, .ref mN, .int 0, .int 0, .int 0, .int 0, .int 0, .int 0, .int 0, .int 0, .int 0])), (mB, .inl (cY, 4096, .inl f_92))]) [0, 1] rfl
                        have hD9 := hD.sub (ws' := [(m0, .inr (5, [.int 0, .ref mB, .ref mR, .int 0, .ref mO, .int 0, .int 0, .ref mN, .int 0, .int 0, .int 0, .int 0, .int 0, .int 0, .int 0, .int 0, .int 0])), (mB, .inl (cY, 4096, .inl f_92))]) [0, 1] (by decide) rfl
                        have hK9 := hK.sub (tys' := [(cY, .int)]) [0] rfl
                        exact W.iret (v := nv_91) hx hb hr (fun t ht hW => ⟨⟨nv_91, (0, f_92), rfl, Or.inl ⟨c_3, rfl, by rw [hn_93, hn_83, hn_73, hn_63, hn_53, hn_44, hn_35, hn_27, hn_19, hn_12]⟩, by rw [ht]; exact hP9, va_K.moved hW.alike hK9, hD9⟩, hS.F ht⟩) hS.2.2 dX5_load_137
                      refine lv_icmp_ge (tgt := 129) hx hb dX5_load_93 (by decide) (fun c_90 => ?_) (fun c_90 => ?_)
                      · exact jn _ _ _ ⟨nv_81, f_82, (by unfold dn; rw [if_pos c_90] <;> first | decide | exact (Int32.add_zero _).symm), hP, hD, hS, hl⟩
                      · refine lv_aload_n hx hb dX5_load_96 rfl (lv_at hl 3 rfl) ?_
                        refine lv_iload_n hx hb dX5_load_97 rfl (lv_at hl 4 rfl) ?_
                        refine lv_iconst (v := 2) hx hb dX5_load_98 (by decide) ?_
                        refine lv_iload hx hb dX5_load_99 (lv_at hl 1 rfl) ?_
                        refine lv_imul hx hb dX5_load_101 ?_
                        refine q_toc (y := 18) (by decide) ?_
                        refine lv_iadd hx hb dX5_load_102 ?_
                        refine lv_iload hx hb dX5_load_103 (lv_at hl 1 rfl) ?_
                        refine lv_iconst (v := 2) hx hb dX5_load_105 (by decide) ?_
                        refine lv_irem hx hb dX5_load_106 (by decide) ?_
                        refine q_toc (y := 1) (by decide) ?_
                        refine lv_if_ne (tgt := 118) hx hb dX5_load_107 (by decide) (fun c_95 => ?_) (fun c9 => absurd c9 (by decide))
                        refine lv_iload hx hb dX5_load_118 (lv_at hl 0 rfl) ?_
                        refine lv_ldc (v := 65535) hx hb hown (hts (.constant RX5 30 (65535)) (by decide +kernel)) dX5_load_120 ?_
                        refine lv_iand hx hb dX5_load_122 ?_
                        have hPc := hP.sub (ws' := [(m0, .inr (5, [.int 0, .ref mB, .ref mR, .int 0, .ref mO, .int 0, .int 0, .ref mN, .int 0, .int 0, .int 0, .int 0, .int 0, .int 0, .int 0, .int 0, .int 0])), (mB, .inl (cY, 4096, .inl f_82))]) [0, 1] rfl
                        have hDc := hD.sub (ws' := [(m0, .inr (5, [.int 0, .ref mB, .ref mR, .int 0, .ref mO, .int 0, .int 0, .ref mN, .int 0, .int 0, .int 0, .int 0, .int 0, .int 0, .int 0, .int 0, .int 0])), (mB, .inl (cY, 4096, .inl f_82))]) [0, 1] (by decide) rfl
                        have hKc := hK.sub (tys' := [(cY, .int)]) [0] rfl
                        have hFc := va_free (wc := [(m0, .inr (5, [.int 0, .ref mB, .ref mR, .int 0, .ref mO, .int 0, .int 0, .ref mN, .int 0, .int 0, .int 0, .int 0, .int 0, .int 0, .int 0, .int 0, .int 0])), (mB, .inl (cY, 4096, .inl f_82))]) hD hS hA [0, 1] rfl
                        refine va_callv (va_runV (C := RX5) (b := m0) (As := [.int (pl + 18), .int (a4 &&& 65535)]) (rest := []) ⟨hx, hb, hml, hown, hts⟩ (c_X5_setWord l dC dI H.size m0 mB mR mO mN cY f_82 (pl + 18) (a4 &&& 65535) ((iw_ink (k := 18) (by decide) (by decide) (by decide) (by decide) c_3 c_90).1) ((iw_ink (k := 18) (by decide) (by decide) (by decide) (by decide) c_3 c_90).2)) (cwV 2 hts gX5_load_X5_setWord rfl rfl rfl (by decide +kernel) ⟨Nat.le_of_ble_eq_true rfl, Nat.le_of_ble_eq_true rfl⟩) ⟨q_blind, va_recv hK hP (ci := 5) (q0 := 0) rfl rfl, fun U hU hW => ⟨rfl, q_pay hU hW hPc hKc hDc hN⟩⟩ rfl rfl hl.1 rfl (lv_room (Nat.le_of_ble_eq_true rfl)) dX5_load_123 ⟨show 0 + 0 ≤ 0 from by omega, show 0 + 0 ≤ 0 from by omega⟩) hS (fun q _ h => hFc q h) hFc (fun u9 t H locs ht hvm hw_97 hB hz1 hk1 hS => ?_)
                        obtain ⟨bf2_98, rfl⟩ : ∃ z, z = u9 := ⟨_, rfl⟩
                        obtain ⟨hP1, hK1, hD1⟩ := hB
                        rw [ht] at hP1
                        obtain ⟨hP, hD⟩ := va_join (wr := []) (w1 := [(m0, .inr (5, [.int 0, .ref mB, .ref mR, .int 0, .ref mO, .int 0, .int 0, .ref mN, .int 0, .int 0, .int 0, .int 0, .int 0, .int 0, .int 0, .int 0, .int 0])), (mB, .inl (cY, 4096, .inl bf2_98))]) hP hD [0, 1] [] rfl rfl (by decide) (by decide) hk1 hFc hP1 hD1
                        have hP : va_P (dC, dI) vwCl [(m0, .inr (5, [.int 0, .ref mB, .ref mR, .int 0, .ref mO, .int 0, .int 0, .ref mN, .int 0, .int 0, .int 0, .int 0, .int 0, .int 0, .int 0, .int 0, .int 0])), (mB, .inl (cY, 4096, .inl bf2_98))] H := hP
                        have hD : va_D A [(m0, .inr (5, [.int 0, .ref mB, .ref mR, .int 0, .ref mO, .int 0, .int 0, .ref mN, .int 0, .int 0, .int 0, .int 0, .int 0, .int 0, .int 0, .int 0, .int 0])), (mB, .inl (cY, 4096, .inl bf2_98))] := hD
                        refine W.widen (k := 0) (n := 0) (by omega) (by omega) ?_
                        try dsimp only at hw_97
                        refine lv_iinc (v := nv_81 + 1) (lv' := [(7, .int (nv_81 + 1)), (9, .int a4), (8, .int 9), (0, .ref m0), (1, .int pl), (2, .int a0), (3, .int a1), (4, .int a2), (5, .int a3), (6, .int a4)]) hx hb dX5_load_126 hl (k := 2) rfl (by rfl) (by decide) rfl (fun ls hl => ?_)
                        exact jn _ _ _ ⟨nv_81 + 1, _, (by unfold dn; rw [if_neg c_90] <;> first | rfl | decide), hP, hD, hS, lv_sub hl [1, 2, 0, 3, 4, 5, 6, 7, 8, 9] rfl⟩
                    refine lv_icmp_ge (tgt := 129) hx hb dX5_load_93 (by decide) (fun c_80 => ?_) (fun c_80 => ?_)
                    · exact jn _ _ _ ⟨nv_71, f_72, (by unfold dn; rw [if_pos c_80] <;> first | decide | exact (Int32.add_zero _).symm), hP, hD, hS, hl⟩
                    · refine lv_aload_n hx hb dX5_load_96 rfl (lv_at hl 3 rfl) ?_
                      refine lv_iload_n hx hb dX5_load_97 rfl (lv_at hl 4 rfl) ?_
                      refine lv_iconst (v := 2) hx hb dX5_load_98 (by decide) ?_
                      refine lv_iload hx hb dX5_load_99 (lv_at hl 1 rfl) ?_
                      refine lv_imul hx hb dX5_load_101 ?_
                      refine q_toc (y := 16) (by decide) ?_
                      refine lv_iadd hx hb dX5_load_102 ?_
                      refine lv_iload hx hb dX5_load_103 (lv_at hl 1 rfl) ?_
                      refine lv_iconst (v := 2) hx hb dX5_load_105 (by decide) ?_
                      refine lv_irem hx hb dX5_load_106 (by decide) ?_
                      refine q_toc (y := 0) (by decide) ?_
                      refine lv_if_ne (tgt := 118) hx hb dX5_load_107 (by decide) (fun c9 => absurd (by decide) c9) (fun c_99 => ?_)
                      refine lv_iload hx hb dX5_load_110 (lv_at hl 0 rfl) ?_
                      refine lv_bipush (v := 16) hx hb dX5_load_112 (by decide) ?_
                      refine lv_iushr (v := (a4.toUInt32 >>> (Int32.toUInt32 16 &&& Int32.toUInt32 31)).toInt32) hx hb dX5_load_114 rfl ?_
                      refine lv_goto (tgt := 123) hx hb dX5_load_115 (by decide) ?_
                      have hPc := hP.sub (ws' := [(m0, .inr (5, [.int 0, .ref mB, .ref mR, .int 0, .ref mO, .int 0, .int 0, .ref mN, .int 0, .int 0, .int 0, .int 0, .int 0, .int 0, .int 0, .int 0, .int 0])), (mB, .inl (cY, 4096, .inl f_72))]) [0, 1] rfl
                      have hDc := hD.sub (ws' := [(m0, .inr (5, [.int 0, .ref mB, .ref mR, .int 0, .ref mO, .int 0, .int 0, .ref mN, .int 0, .int 0, .int 0, .int 0, .int 0, .int 0, .int 0, .int 0, .int 0])), (mB, .inl (cY, 4096, .inl f_72))]) [0, 1] (by decide) rfl
                      have hKc := hK.sub (tys' := [(cY, .int)]) [0] rfl
                      have hFc := va_free (wc := [(m0, .inr (5, [.int 0, .ref mB, .ref mR, .int 0, .ref mO, .int 0, .int 0, .ref mN, .int 0, .int 0, .int 0, .int 0, .int 0, .int 0, .int 0, .int 0, .int 0])), (mB, .inl (cY, 4096, .inl f_72))]) hD hS hA [0, 1] rfl
                      refine va_callv (va_runV (C := RX5) (b := m0) (As := [.int (pl + 16), .int ((a4.toUInt32 >>> (Int32.toUInt32 16 &&& Int32.toUInt32 31)).toInt32)]) (rest := []) ⟨hx, hb, hml, hown, hts⟩ (c_X5_setWord l dC dI H.size m0 mB mR mO mN cY f_72 (pl + 16) ((a4.toUInt32 >>> (Int32.toUInt32 16 &&& Int32.toUInt32 31)).toInt32) ((iw_ink (k := 16) (by decide) (by decide) (by decide) (by decide) c_3 c_80).1) ((iw_ink (k := 16) (by decide) (by decide) (by decide) (by decide) c_3 c_80).2)) (cwV 2 hts gX5_load_X5_setWord rfl rfl rfl (by decide +kernel) ⟨Nat.le_of_ble_eq_true rfl, Nat.le_of_ble_eq_true rfl⟩) ⟨q_blind, va_recv hK hP (ci := 5) (q0 := 0) rfl rfl, fun U hU hW => ⟨rfl, q_pay hU hW hPc hKc hDc hN⟩⟩ rfl rfl hl.1 rfl (lv_room (Nat.le_of_ble_eq_true rfl)) dX5_load_123 ⟨show 0 + 0 ≤ 0 from by omega, show 0 + 0 ≤ 0 from by omega⟩) hS (fun q _ h => hFc q h) hFc (fun u9 t H locs ht hvm hw_101 hB hz1 hk1 hS => ?_)
                      obtain ⟨bf2_102, rfl⟩ : ∃ z, z = u9 := ⟨_, rfl⟩
                      obtain ⟨hP1, hK1, hD1⟩ := hB
                      rw [ht] at hP1
                      obtain ⟨hP, hD⟩ := va_join (wr := []) (w1 := [(m0, .inr (5, [.int 0, .ref mB, .ref mR, .int 0, .ref mO, .int 0, .int 0, .ref mN, .int 0, .int 0, .int 0, .int 0, .int 0, .int 0, .int 0, .int 0, .int 0])), (mB, .inl (cY, 4096, .inl bf2_102))]) hP hD [0, 1] [] rfl rfl (by decide) (by decide) hk1 hFc hP1 hD1
                      have hP : va_P (dC, dI) vwCl [(m0, .inr (5, [.int 0, .ref mB, .ref mR, .int 0, .ref mO, .int 0, .int 0, .ref mN, .int 0, .int 0, .int 0, .int 0, .int 0, .int 0, .int 0, .int 0, .int 0])), (mB, .inl (cY, 4096, .inl bf2_102))] H := hP
                      have hD : va_D A [(m0, .inr (5, [.int 0, .ref mB, .ref mR, .int 0, .ref mO, .int 0, .int 0, .ref mN, .int 0, .int 0, .int 0, .int 0, .int 0, .int 0, .int 0, .int 0, .int 0])), (mB, .inl (cY, 4096, .inl bf2_102))] := hD
                      refine W.widen (k := 0) (n := 0) (by omega) (by omega) ?_
                      try dsimp only at hw_101
                      refine lv_iinc (v := nv_71 + 1) (lv' := [(7, .int (nv_71 + 1)), (9, .int a4), (8, .int 8), (0, .ref m0), (1, .int pl), (2, .int a0), (3, .int a1), (4, .int a2), (5, .int a3), (6, .int a4)]) hx hb dX5_load_126 hl (k := 2) rfl (by rfl) (by decide) rfl (fun ls hl => ?_)
                      exact jn _ _ _ ⟨nv_71 + 1, _, (by unfold dn; rw [if_neg c_80] <;> first | rfl | decide), hP, hD, hS, lv_sub hl [1, 2, 0, 3, 4, 5, 6, 7, 8, 9] rfl⟩
                  refine lv_icmp_ge (tgt := 129) hx hb dX5_load_93 (by decide) (fun c_70 => ?_) (fun c_70 => ?_)
                  · exact jn _ _ _ ⟨nv_61, f_62, (by unfold dn; rw [if_pos c_70] <;> first | decide | exact (Int32.add_zero _).symm), hP, hD, hS, hl⟩
                  · refine lv_aload_n hx hb dX5_load_96 rfl (lv_at hl 3 rfl) ?_
                    refine lv_iload_n hx hb dX5_load_97 rfl (lv_at hl 4 rfl) ?_
                    refine lv_iconst (v := 2) hx hb dX5_load_98 (by decide) ?_
                    refine lv_iload hx hb dX5_load_99 (lv_at hl 1 rfl) ?_
                    refine lv_imul hx hb dX5_load_101 ?_
                    refine q_toc (y := 14) (by decide) ?_
                    refine lv_iadd hx hb dX5_load_102 ?_
                    refine lv_iload hx hb dX5_load_103 (lv_at hl 1 rfl) ?_
                    refine lv_iconst (v := 2) hx hb dX5_load_105 (by decide) ?_
                    refine lv_irem hx hb dX5_load_106 (by decide) ?_
                    refine q_toc (y := 1) (by decide) ?_
                    refine lv_if_ne (tgt := 118) hx hb dX5_load_107 (by decide) (fun c_103 => ?_) (fun c9 => absurd c9 (by decide))
                    refine lv_iload hx hb dX5_load_118 (lv_at hl 0 rfl) ?_
                    refine lv_ldc (v := 65535) hx hb hown (hts (.constant RX5 30 (65535)) (by decide +kernel)) dX5_load_120 ?_
                    refine lv_iand hx hb dX5_load_122 ?_
                    have hPc := hP.sub (ws' := [(m0, .inr (5, [.int 0, .ref mB, .ref mR, .int 0, .ref mO, .int 0, .int 0, .ref mN, .int 0, .int 0, .int 0, .int 0, .int 0, .int 0, .int 0, .int 0, .int 0])), (mB, .inl (cY, 4096, .inl f_62))]) [0, 1] rfl
                    have hDc := hD.sub (ws' := [(m0, .inr (5, [.int 0, .ref mB, .ref mR, .int 0, .ref mO, .int 0, .int 0, .ref mN, .int 0, .int 0, .int 0, .int 0, .int 0, .int 0, .int 0, .int 0, .int 0])), (mB, .inl (cY, 4096, .inl f_62))]) [0, 1] (by decide) rfl
                    have hKc := hK.sub (tys' := [(cY, .int)]) [0] rfl
                    have hFc := va_free (wc := [(m0, .inr (5, [.int 0, .ref mB, .ref mR, .int 0, .ref mO, .int 0, .int 0, .ref mN, .int 0, .int 0, .int 0, .int 0, .int 0, .int 0, .int 0, .int 0, .int 0])), (mB, .inl (cY, 4096, .inl f_62))]) hD hS hA [0, 1] rfl
                    refine va_callv (va_runV (C := RX5) (b := m0) (As := [.int (pl + 14), .int (a3 &&& 65535)]) (rest := []) ⟨hx, hb, hml, hown, hts⟩ (c_X5_setWord l dC dI H.size m0 mB mR mO mN cY f_62 (pl + 14) (a3 &&& 65535) ((iw_ink (k := 14) (by decide) (by decide) (by decide) (by decide) c_3 c_70).1) ((iw_ink (k := 14) (by decide) (by decide) (by decide) (by decide) c_3 c_70).2)) (cwV 2 hts gX5_load_X5_setWord rfl rfl rfl (by decide +kernel) ⟨Nat.le_of_ble_eq_true rfl, Nat.le_of_ble_eq_true rfl⟩) ⟨q_blind, va_recv hK hP (ci := 5) (q0 := 0) rfl rfl, fun U hU hW => ⟨rfl, q_pay hU hW hPc hKc hDc hN⟩⟩ rfl rfl hl.1 rfl (lv_room (Nat.le_of_ble_eq_true rfl)) dX5_load_123 ⟨show 0 + 0 ≤ 0 from by omega, show 0 + 0 ≤ 0 from by omega⟩) hS (fun q _ h => hFc q h) hFc (fun u9 t H locs ht hvm hw_105 hB hz1 hk1 hS => ?_)
                    obtain ⟨bf2_106, rfl⟩ : ∃ z, z = u9 := ⟨_, rfl⟩
                    obtain ⟨hP1, hK1, hD1⟩ := hB
                    rw [ht] at hP1
                    obtain ⟨hP, hD⟩ := va_join (wr := []) (w1 := [(m0, .inr (5, [.int 0, .ref mB, .ref mR, .int 0, .ref mO, .int 0, .int 0, .ref mN, .int 0, .int 0, .int 0, .int 0, .int 0, .int 0, .int 0, .int 0, .int 0])), (mB, .inl (cY, 4096, .inl bf2_106))]) hP hD [0, 1] [] rfl rfl (by decide) (by decide) hk1 hFc hP1 hD1
                    have hP : va_P (dC, dI) vwCl [(m0, .inr (5, [.int 0, .ref mB, .ref mR, .int 0, .ref mO, .int 0, .int 0, .ref mN, .int 0, .int 0, .int 0, .int 0, .int 0, .int 0, .int 0, .int 0, .int 0])), (mB, .inl (cY, 4096, .inl bf2_106))] H := hP
                    have hD : va_D A [(m0, .inr (5, [.int 0, .ref mB, .ref mR, .int 0, .ref mO, .int 0, .int 0, .ref mN, .int 0, .int 0, .int 0, .int 0, .int 0, .int 0, .int 0, .int 0, .int 0])), (mB, .inl (cY, 4096, .inl bf2_106))] := hD
                    refine W.widen (k := 0) (n := 0) (by omega) (by omega) ?_
                    try dsimp only at hw_105
                    refine lv_iinc (v := nv_61 + 1) (lv' := [(7, .int (nv_61 + 1)), (9, .int a3), (8, .int 7), (0, .ref m0), (1, .int pl), (2, .int a0), (3, .int a1), (4, .int a2), (5, .int a3), (6, .int a4)]) hx hb dX5_load_126 hl (k := 2) rfl (by rfl) (by decide) rfl (fun ls hl => ?_)
                    exact jn _ _ _ ⟨nv_61 + 1, _, (by unfold dn; rw [if_neg c_70] <;> first | rfl | decide), hP, hD, hS, lv_sub hl [1, 2, 0, 3, 4, 5, 6, 7, 8, 9] rfl⟩
                refine lv_icmp_ge (tgt := 129) hx hb dX5_load_93 (by decide) (fun c_60 => ?_) (fun c_60 => ?_)
                · exact jn _ _ _ ⟨nv_51, f_52, (by unfold dn; rw [if_pos c_60] <;> first | decide | exact (Int32.add_zero _).symm), hP, hD, hS, hl⟩
                · refine lv_aload_n hx hb dX5_load_96 rfl (lv_at hl 3 rfl) ?_
                  refine lv_iload_n hx hb dX5_load_97 rfl (lv_at hl 4 rfl) ?_
                  refine lv_iconst (v := 2) hx hb dX5_load_98 (by decide) ?_
                  refine lv_iload hx hb dX5_load_99 (lv_at hl 1 rfl) ?_
                  refine lv_imul hx hb dX5_load_101 ?_
                  refine q_toc (y := 12) (by decide) ?_
                  refine lv_iadd hx hb dX5_load_102 ?_
                  refine lv_iload hx hb dX5_load_103 (lv_at hl 1 rfl) ?_
                  refine lv_iconst (v := 2) hx hb dX5_load_105 (by decide) ?_
                  refine lv_irem hx hb dX5_load_106 (by decide) ?_
                  refine q_toc (y := 0) (by decide) ?_
                  refine lv_if_ne (tgt := 118) hx hb dX5_load_107 (by decide) (fun c9 => absurd (by decide) c9) (fun c_107 => ?_)
                  refine lv_iload hx hb dX5_load_110 (lv_at hl 0 rfl) ?_
                  refine lv_bipush (v := 16) hx hb dX5_load_112 (by decide) ?_
                  refine lv_iushr (v := (a3.toUInt32 >>> (Int32.toUInt32 16 &&& Int32.toUInt32 31)).toInt32) hx hb dX5_load_114 rfl ?_
                  refine lv_goto (tgt := 123) hx hb dX5_load_115 (by decide) ?_
                  have hPc := hP.sub (ws' := [(m0, .inr (5, [.int 0, .ref mB, .ref mR, .int 0, .ref mO, .int 0, .int 0, .ref mN, .int 0, .int 0, .int 0, .int 0, .int 0, .int 0, .int 0, .int 0, .int 0])), (mB, .inl (cY, 4096, .inl f_52))]) [0, 1] rfl
                  have hDc := hD.sub (ws' := [(m0, .inr (5, [.int 0, .ref mB, .ref mR, .int 0, .ref mO, .int 0, .int 0, .ref mN, .int 0, .int 0, .int 0, .int 0, .int 0, .int 0, .int 0, .int 0, .int 0])), (mB, .inl (cY, 4096, .inl f_52))]) [0, 1] (by decide) rfl
                  have hKc := hK.sub (tys' := [(cY, .int)]) [0] rfl
                  have hFc := va_free (wc := [(m0, .inr (5, [.int 0, .ref mB, .ref mR, .int 0, .ref mO, .int 0, .int 0, .ref mN, .int 0, .int 0, .int 0, .int 0, .int 0, .int 0, .int 0, .int 0, .int 0])), (mB, .inl (cY, 4096, .inl f_52))]) hD hS hA [0, 1] rfl
                  refine va_callv (va_runV (C := RX5) (b := m0) (As := [.int (pl + 12), .int ((a3.toUInt32 >>> (Int32.toUInt32 16 &&& Int32.toUInt32 31)).toInt32)]) (rest := []) ⟨hx, hb, hml, hown, hts⟩ (c_X5_setWord l dC dI H.size m0 mB mR mO mN cY f_52 (pl + 12) ((a3.toUInt32 >>> (Int32.toUInt32 16 &&& Int32.toUInt32 31)).toInt32) ((iw_ink (k := 12) (by decide) (by decide) (by decide) (by decide) c_3 c_60).1) ((iw_ink (k := 12) (by decide) (by decide) (by decide) (by decide) c_3 c_60).2)) (cwV 2 hts gX5_load_X5_setWord rfl rfl rfl (by decide +kernel) ⟨Nat.le_of_ble_eq_true rfl, Nat.le_of_ble_eq_true rfl⟩) ⟨q_blind, va_recv hK hP (ci := 5) (q0 := 0) rfl rfl, fun U hU hW => ⟨rfl, q_pay hU hW hPc hKc hDc hN⟩⟩ rfl rfl hl.1 rfl (lv_room (Nat.le_of_ble_eq_true rfl)) dX5_load_123 ⟨show 0 + 0 ≤ 0 from by omega, show 0 + 0 ≤ 0 from by omega⟩) hS (fun q _ h => hFc q h) hFc (fun u9 t H locs ht hvm hw_109 hB hz1 hk1 hS => ?_)
                  obtain ⟨bf2_110, rfl⟩ : ∃ z, z = u9 := ⟨_, rfl⟩
                  obtain ⟨hP1, hK1, hD1⟩ := hB
                  rw [ht] at hP1
                  obtain ⟨hP, hD⟩ := va_join (wr := []) (w1 := [(m0, .inr (5, [.int 0, .ref mB, .ref mR, .int 0, .ref mO, .int 0, .int 0, .ref mN, .int 0, .int 0, .int 0, .int 0, .int 0, .int 0, .int 0, .int 0, .int 0])), (mB, .inl (cY, 4096, .inl bf2_110))]) hP hD [0, 1] [] rfl rfl (by decide) (by decide) hk1 hFc hP1 hD1
                  have hP : va_P (dC, dI) vwCl [(m0, .inr (5, [.int 0, .ref mB, .ref mR, .int 0, .ref mO, .int 0, .int 0, .ref mN, .int 0, .int 0, .int 0, .int 0, .int 0, .int 0, .int 0, .int 0, .int 0])), (mB, .inl (cY, 4096, .inl bf2_110))] H := hP
                  have hD : va_D A [(m0, .inr (5, [.int 0, .ref mB, .ref mR, .int 0, .ref mO, .int 0, .int 0, .ref mN, .int 0, .int 0, .int 0, .int 0, .int 0, .int 0, .int 0, .int 0, .int 0])), (mB, .inl (cY, 4096, .inl bf2_110))] := hD
                  refine W.widen (k := 0) (n := 0) (by omega) (by omega) ?_
                  try dsimp only at hw_109
                  refine lv_iinc (v := nv_51 + 1) (lv' := [(7, .int (nv_51 + 1)), (9, .int a3), (8, .int 6), (0, .ref m0), (1, .int pl), (2, .int a0), (3, .int a1), (4, .int a2), (5, .int a3), (6, .int a4)]) hx hb dX5_load_126 hl (k := 2) rfl (by rfl) (by decide) rfl (fun ls hl => ?_)
                  exact jn _ _ _ ⟨nv_51 + 1, _, (by unfold dn; rw [if_neg c_60] <;> first | rfl | decide), hP, hD, hS, lv_sub hl [1, 2, 0, 3, 4, 5, 6, 7, 8, 9] rfl⟩
              refine lv_icmp_ge (tgt := 129) hx hb dX5_load_93 (by decide) (fun c_50 => ?_) (fun c_50 => ?_)
              · exact jn _ _ _ ⟨nv_42, f_43, (by unfold dn; rw [if_pos c_50] <;> first | decide | exact (Int32.add_zero _).symm), hP, hD, hS, hl⟩
              · refine lv_aload_n hx hb dX5_load_96 rfl (lv_at hl 3 rfl) ?_
                refine lv_iload_n hx hb dX5_load_97 rfl (lv_at hl 4 rfl) ?_
                refine lv_iconst (v := 2) hx hb dX5_load_98 (by decide) ?_
                refine lv_iload hx hb dX5_load_99 (lv_at hl 1 rfl) ?_
                refine lv_imul hx hb dX5_load_101 ?_
                refine q_toc (y := 10) (by decide) ?_
                refine lv_iadd hx hb dX5_load_102 ?_
                refine lv_iload hx hb dX5_load_103 (lv_at hl 1 rfl) ?_
                refine lv_iconst (v := 2) hx hb dX5_load_105 (by decide) ?_
                refine lv_irem hx hb dX5_load_106 (by decide) ?_
                refine q_toc (y := 1) (by decide) ?_
                refine lv_if_ne (tgt := 118) hx hb dX5_load_107 (by decide) (fun c_111 => ?_) (fun c9 => absurd c9 (by decide))
                refine lv_iload hx hb dX5_load_118 (lv_at hl 0 rfl) ?_
                refine lv_ldc (v := 65535) hx hb hown (hts (.constant RX5 30 (65535)) (by decide +kernel)) dX5_load_120 ?_
                refine lv_iand hx hb dX5_load_122 ?_
                have hPc := hP.sub (ws' := [(m0, .inr (5, [.int 0, .ref mB, .ref mR, .int 0, .ref mO, .int 0, .int 0, .ref mN, .int 0, .int 0, .int 0, .int 0, .int 0, .int 0, .int 0, .int 0, .int 0])), (mB, .inl (cY, 4096, .inl f_43))]) [0, 1] rfl
                have hDc := hD.sub (ws' := [(m0, .inr (5, [.int 0, .ref mB, .ref mR, .int 0, .ref mO, .int 0, .int 0, .ref mN, .int 0, .int 0, .int 0, .int 0, .int 0, .int 0, .int 0, .int 0, .int 0])), (mB, .inl (cY, 4096, .inl f_43))]) [0, 1] (by decide) rfl
                have hKc := hK.sub (tys' := [(cY, .int)]) [0] rfl
                have hFc := va_free (wc := [(m0, .inr (5, [.int 0, .ref mB, .ref mR, .int 0, .ref mO, .int 0, .int 0, .ref mN, .int 0, .int 0, .int 0, .int 0, .int 0, .int 0, .int 0, .int 0, .int 0])), (mB, .inl (cY, 4096, .inl f_43))]) hD hS hA [0, 1] rfl
                refine va_callv (va_runV (C := RX5) (b := m0) (As := [.int (pl + 10), .int (a2 &&& 65535)]) (rest := []) ⟨hx, hb, hml, hown, hts⟩ (c_X5_setWord l dC dI H.size m0 mB mR mO mN cY f_43 (pl + 10) (a2 &&& 65535) ((iw_ink (k := 10) (by decide) (by decide) (by decide) (by decide) c_3 c_50).1) ((iw_ink (k := 10) (by decide) (by decide) (by decide) (by decide) c_3 c_50).2)) (cwV 2 hts gX5_load_X5_setWord rfl rfl rfl (by decide +kernel) ⟨Nat.le_of_ble_eq_true rfl, Nat.le_of_ble_eq_true rfl⟩) ⟨q_blind, va_recv hK hP (ci := 5) (q0 := 0) rfl rfl, fun U hU hW => ⟨rfl, q_pay hU hW hPc hKc hDc hN⟩⟩ rfl rfl hl.1 rfl (lv_room (Nat.le_of_ble_eq_true rfl)) dX5_load_123 ⟨show 0 + 0 ≤ 0 from by omega, show 0 + 0 ≤ 0 from by omega⟩) hS (fun q _ h => hFc q h) hFc (fun u9 t H locs ht hvm hw_113 hB hz1 hk1 hS => ?_)
                obtain ⟨bf2_114, rfl⟩ : ∃ z, z = u9 := ⟨_, rfl⟩
                obtain ⟨hP1, hK1, hD1⟩ := hB
                rw [ht] at hP1
                obtain ⟨hP, hD⟩ := va_join (wr := []) (w1 := [(m0, .inr (5, [.int 0, .ref mB, .ref mR, .int 0, .ref mO, .int 0, .int 0, .ref mN, .int 0, .int 0, .int 0, .int 0, .int 0, .int 0, .int 0, .int 0, .int 0])), (mB, .inl (cY, 4096, .inl bf2_114))]) hP hD [0, 1] [] rfl rfl (by decide) (by decide) hk1 hFc hP1 hD1
                have hP : va_P (dC, dI) vwCl [(m0, .inr (5, [.int 0, .ref mB, .ref mR, .int 0, .ref mO, .int 0, .int 0, .ref mN, .int 0, .int 0, .int 0, .int 0, .int 0, .int 0, .int 0, .int 0, .int 0])), (mB, .inl (cY, 4096, .inl bf2_114))] H := hP
                have hD : va_D A [(m0, .inr (5, [.int 0, .ref mB, .ref mR, .int 0, .ref mO, .int 0, .int 0, .ref mN, .int 0, .int 0, .int 0, .int 0, .int 0, .int 0, .int 0, .int 0, .int 0])), (mB, .inl (cY, 4096, .inl bf2_114))] := hD
                refine W.widen (k := 0) (n := 0) (by omega) (by omega) ?_
                try dsimp only at hw_113
                refine lv_iinc (v := nv_42 + 1) (lv' := [(7, .int (nv_42 + 1)), (9, .int a2), (8, .int 5), (0, .ref m0), (1, .int pl), (2, .int a0), (3, .int a1), (4, .int a2), (5, .int a3), (6, .int a4)]) hx hb dX5_load_126 hl (k := 2) rfl (by rfl) (by decide) rfl (fun ls hl => ?_)
                exact jn _ _ _ ⟨nv_42 + 1, _, (by unfold dn; rw [if_neg c_50] <;> first | rfl | decide), hP, hD, hS, lv_sub hl [1, 2, 0, 3, 4, 5, 6, 7, 8, 9] rfl⟩
            refine lv_icmp_ge (tgt := 129) hx hb dX5_load_93 (by decide) (fun c_41 => ?_) (fun c_41 => ?_)
            · exact jn _ _ _ ⟨nv_33, f_34, (by unfold dn; rw [if_pos c_41] <;> first | decide | exact (Int32.add_zero _).symm), hP, hD, hS, hl⟩
            · refine lv_aload_n hx hb dX5_load_96 rfl (lv_at hl 3 rfl) ?_
              refine lv_iload_n hx hb dX5_load_97 rfl (lv_at hl 4 rfl) ?_
              refine lv_iconst (v := 2) hx hb dX5_load_98 (by decide) ?_
              refine lv_iload hx hb dX5_load_99 (lv_at hl 1 rfl) ?_
              refine lv_imul hx hb dX5_load_101 ?_
              refine q_toc (y := 8) (by decide) ?_
              refine lv_iadd hx hb dX5_load_102 ?_
              refine lv_iload hx hb dX5_load_103 (lv_at hl 1 rfl) ?_
              refine lv_iconst (v := 2) hx hb dX5_load_105 (by decide) ?_
              refine lv_irem hx hb dX5_load_106 (by decide) ?_
              refine q_toc (y := 0) (by decide) ?_
              refine lv_if_ne (tgt := 118) hx hb dX5_load_107 (by decide) (fun c9 => absurd (by decide) c9) (fun c_115 => ?_)
              refine lv_iload hx hb dX5_load_110 (lv_at hl 0 rfl) ?_
              refine lv_bipush (v := 16) hx hb dX5_load_112 (by decide) ?_
              refine lv_iushr (v := (a2.toUInt32 >>> (Int32.toUInt32 16 &&& Int32.toUInt32 31)).toInt32) hx hb dX5_load_114 rfl ?_
              refine lv_goto (tgt := 123) hx hb dX5_load_115 (by decide) ?_
              have hPc := hP.sub (ws' := [(m0, .inr (5, [.int 0, .ref mB, .ref mR, .int 0, .ref mO, .int 0, .int 0, .ref mN, .int 0, .int 0, .int 0, .int 0, .int 0, .int 0, .int 0, .int 0, .int 0])), (mB, .inl (cY, 4096, .inl f_34))]) [0, 1] rfl
              have hDc := hD.sub (ws' := [(m0, .inr (5, [.int 0, .ref mB, .ref mR, .int 0, .ref mO, .int 0, .int 0, .ref mN, .int 0, .int 0, .int 0, .int 0, .int 0, .int 0, .int 0, .int 0, .int 0])), (mB, .inl (cY, 4096, .inl f_34))]) [0, 1] (by decide) rfl
              have hKc := hK.sub (tys' := [(cY, .int)]) [0] rfl
              have hFc := va_free (wc := [(m0, .inr (5, [.int 0, .ref mB, .ref mR, .int 0, .ref mO, .int 0, .int 0, .ref mN, .int 0, .int 0, .int 0, .int 0, .int 0, .int 0, .int 0, .int 0, .int 0])), (mB, .inl (cY, 4096, .inl f_34))]) hD hS hA [0, 1] rfl
              refine va_callv (va_runV (C := RX5) (b := m0) (As := [.int (pl + 8), .int ((a2.toUInt32 >>> (Int32.toUInt32 16 &&& Int32.toUInt32 31)).toInt32)]) (rest := []) ⟨hx, hb, hml, hown, hts⟩ (c_X5_setWord l dC dI H.size m0 mB mR mO mN cY f_34 (pl + 8) ((a2.toUInt32 >>> (Int32.toUInt32 16 &&& Int32.toUInt32 31)).toInt32) ((iw_ink (k := 8) (by decide) (by decide) (by decide) (by decide) c_3 c_41).1) ((iw_ink (k := 8) (by decide) (by decide) (by decide) (by decide) c_3 c_41).2)) (cwV 2 hts gX5_load_X5_setWord rfl rfl rfl (by decide +kernel) ⟨Nat.le_of_ble_eq_true rfl, Nat.le_of_ble_eq_true rfl⟩) ⟨q_blind, va_recv hK hP (ci := 5) (q0 := 0) rfl rfl, fun U hU hW => ⟨rfl, q_pay hU hW hPc hKc hDc hN⟩⟩ rfl rfl hl.1 rfl (lv_room (Nat.le_of_ble_eq_true rfl)) dX5_load_123 ⟨show 0 + 0 ≤ 0 from by omega, show 0 + 0 ≤ 0 from by omega⟩) hS (fun q _ h => hFc q h) hFc (fun u9 t H locs ht hvm hw_117 hB hz1 hk1 hS => ?_)
              obtain ⟨bf2_118, rfl⟩ : ∃ z, z = u9 := ⟨_, rfl⟩
              obtain ⟨hP1, hK1, hD1⟩ := hB
              rw [ht] at hP1
              obtain ⟨hP, hD⟩ := va_join (wr := []) (w1 := [(m0, .inr (5, [.int 0, .ref mB, .ref mR, .int 0, .ref mO, .int 0, .int 0, .ref mN, .int 0, .int 0, .int 0, .int 0, .int 0, .int 0, .int 0, .int 0, .int 0])), (mB, .inl (cY, 4096, .inl bf2_118))]) hP hD [0, 1] [] rfl rfl (by decide) (by decide) hk1 hFc hP1 hD1
              have hP : va_P (dC, dI) vwCl [(m0, .inr (5, [.int 0, .ref mB, .ref mR, .int 0, .ref mO, .int 0, .int 0, .ref mN, .int 0, .int 0, .int 0, .int 0, .int 0, .int 0, .int 0, .int 0, .int 0])), (mB, .inl (cY, 4096, .inl bf2_118))] H := hP
              have hD : va_D A [(m0, .inr (5, [.int 0, .ref mB, .ref mR, .int 0, .ref mO, .int 0, .int 0, .ref mN, .int 0, .int 0, .int 0, .int 0, .int 0, .int 0, .int 0, .int 0, .int 0])), (mB, .inl (cY, 4096, .inl bf2_118))] := hD
              refine W.widen (k := 0) (n := 0) (by omega) (by omega) ?_
              try dsimp only at hw_117
              refine lv_iinc (v := nv_33 + 1) (lv' := [(7, .int (nv_33 + 1)), (9, .int a2), (8, .int 4), (0, .ref m0), (1, .int pl), (2, .int a0), (3, .int a1), (4, .int a2), (5, .int a3), (6, .int a4)]) hx hb dX5_load_126 hl (k := 2) rfl (by rfl) (by decide) rfl (fun ls hl => ?_)
              exact jn _ _ _ ⟨nv_33 + 1, _, (by unfold dn; rw [if_neg c_41] <;> first | rfl | decide), hP, hD, hS, lv_sub hl [1, 2, 0, 3, 4, 5, 6, 7, 8, 9] rfl⟩
          refine lv_icmp_ge (tgt := 129) hx hb dX5_load_93 (by decide) (fun c_32 => ?_) (fun c_32 => ?_)
          · exact jn _ _ _ ⟨nv_25, f_26, (by unfold dn; rw [if_pos c_32] <;> first | decide | exact (Int32.add_zero _).symm), hP, hD, hS, hl⟩
          · refine lv_aload_n hx hb dX5_load_96 rfl (lv_at hl 3 rfl) ?_
            refine lv_iload_n hx hb dX5_load_97 rfl (lv_at hl 4 rfl) ?_
            refine lv_iconst (v := 2) hx hb dX5_load_98 (by decide) ?_
            refine lv_iload hx hb dX5_load_99 (lv_at hl 1 rfl) ?_
            refine lv_imul hx hb dX5_load_101 ?_
            refine q_toc (y := 6) (by decide) ?_
            refine lv_iadd hx hb dX5_load_102 ?_
            refine lv_iload hx hb dX5_load_103 (lv_at hl 1 rfl) ?_
            refine lv_iconst (v := 2) hx hb dX5_load_105 (by decide) ?_
            refine lv_irem hx hb dX5_load_106 (by decide) ?_
            refine q_toc (y := 1) (by decide) ?_
            refine lv_if_ne (tgt := 118) hx hb dX5_load_107 (by decide) (fun c_119 => ?_) (fun c9 => absurd c9 (by decide))
            refine lv_iload hx hb dX5_load_118 (lv_at hl 0 rfl) ?_
            refine lv_ldc (v := 65535) hx hb hown (hts (.constant RX5 30 (65535)) (by decide +kernel)) dX5_load_120 ?_
            refine lv_iand hx hb dX5_load_122 ?_
            have hPc := hP.sub (ws' := [(m0, .inr (5, [.int 0, .ref mB, .ref mR, .int 0, .ref mO, .int 0, .int 0, .ref mN, .int 0, .int 0, .int 0, .int 0, .int 0, .int 0, .int 0, .int 0, .int 0])), (mB, .inl (cY, 4096, .inl f_26))]) [0, 1] rfl
            have hDc := hD.sub (ws' := [(m0, .inr (5, [.int 0, .ref mB, .ref mR, .int 0, .ref mO, .int 0, .int 0, .ref mN, .int 0, .int 0, .int 0, .int 0, .int 0, .int 0, .int 0, .int 0, .int 0])), (mB, .inl (cY, 4096, .inl f_26))]) [0, 1] (by decide) rfl
            have hKc := hK.sub (tys' := [(cY, .int)]) [0] rfl
            have hFc := va_free (wc := [(m0, .inr (5, [.int 0, .ref mB, .ref mR, .int 0, .ref mO, .int 0, .int 0, .ref mN, .int 0, .int 0, .int 0, .int 0, .int 0, .int 0, .int 0, .int 0, .int 0])), (mB, .inl (cY, 4096, .inl f_26))]) hD hS hA [0, 1] rfl
            refine va_callv (va_runV (C := RX5) (b := m0) (As := [.int (pl + 6), .int (a1 &&& 65535)]) (rest := []) ⟨hx, hb, hml, hown, hts⟩ (c_X5_setWord l dC dI H.size m0 mB mR mO mN cY f_26 (pl + 6) (a1 &&& 65535) ((iw_ink (k := 6) (by decide) (by decide) (by decide) (by decide) c_3 c_32).1) ((iw_ink (k := 6) (by decide) (by decide) (by decide) (by decide) c_3 c_32).2)) (cwV 2 hts gX5_load_X5_setWord rfl rfl rfl (by decide +kernel) ⟨Nat.le_of_ble_eq_true rfl, Nat.le_of_ble_eq_true rfl⟩) ⟨q_blind, va_recv hK hP (ci := 5) (q0 := 0) rfl rfl, fun U hU hW => ⟨rfl, q_pay hU hW hPc hKc hDc hN⟩⟩ rfl rfl hl.1 rfl (lv_room (Nat.le_of_ble_eq_true rfl)) dX5_load_123 ⟨show 0 + 0 ≤ 0 from by omega, show 0 + 0 ≤ 0 from by omega⟩) hS (fun q _ h => hFc q h) hFc (fun u9 t H locs ht hvm hw_121 hB hz1 hk1 hS => ?_)
            obtain ⟨bf2_122, rfl⟩ : ∃ z, z = u9 := ⟨_, rfl⟩
            obtain ⟨hP1, hK1, hD1⟩ := hB
            rw [ht] at hP1
            obtain ⟨hP, hD⟩ := va_join (wr := []) (w1 := [(m0, .inr (5, [.int 0, .ref mB, .ref mR, .int 0, .ref mO, .int 0, .int 0, .ref mN, .int 0, .int 0, .int 0, .int 0, .int 0, .int 0, .int 0, .int 0, .int 0])), (mB, .inl (cY, 4096, .inl bf2_122))]) hP hD [0, 1] [] rfl rfl (by decide) (by decide) hk1 hFc hP1 hD1
            have hP : va_P (dC, dI) vwCl [(m0, .inr (5, [.int 0, .ref mB, .ref mR, .int 0, .ref mO, .int 0, .int 0, .ref mN, .int 0, .int 0, .int 0, .int 0, .int 0, .int 0, .int 0, .int 0, .int 0])), (mB, .inl (cY, 4096, .inl bf2_122))] H := hP
            have hD : va_D A [(m0, .inr (5, [.int 0, .ref mB, .ref mR, .int 0, .ref mO, .int 0, .int 0, .ref mN, .int 0, .int 0, .int 0, .int 0, .int 0, .int 0, .int 0, .int 0, .int 0])), (mB, .inl (cY, 4096, .inl bf2_122))] := hD
            refine W.widen (k := 0) (n := 0) (by omega) (by omega) ?_
            try dsimp only at hw_121
            refine lv_iinc (v := nv_25 + 1) (lv' := [(7, .int (nv_25 + 1)), (9, .int a1), (8, .int 3), (0, .ref m0), (1, .int pl), (2, .int a0), (3, .int a1), (4, .int a2), (5, .int a3), (6, .int a4)]) hx hb dX5_load_126 hl (k := 2) rfl (by rfl) (by decide) rfl (fun ls hl => ?_)
            exact jn _ _ _ ⟨nv_25 + 1, _, (by unfold dn; rw [if_neg c_32] <;> first | rfl | decide), hP, hD, hS, lv_sub hl [1, 2, 0, 3, 4, 5, 6, 7, 8, 9] rfl⟩
        refine lv_icmp_ge (tgt := 129) hx hb dX5_load_93 (by decide) (fun c_24 => ?_) (fun c_24 => ?_)
        · exact jn _ _ _ ⟨nv_17, f_18, (by unfold dn; rw [if_pos c_24] <;> first | decide | exact (Int32.add_zero _).symm), hP, hD, hS, hl⟩
        · refine lv_aload_n hx hb dX5_load_96 rfl (lv_at hl 3 rfl) ?_
          refine lv_iload_n hx hb dX5_load_97 rfl (lv_at hl 4 rfl) ?_
          refine lv_iconst (v := 2) hx hb dX5_load_98 (by decide) ?_
          refine lv_iload hx hb dX5_load_99 (lv_at hl 1 rfl) ?_
          refine lv_imul hx hb dX5_load_101 ?_
          refine q_toc (y := 4) (by decide) ?_
          refine lv_iadd hx hb dX5_load_102 ?_
          refine lv_iload hx hb dX5_load_103 (lv_at hl 1 rfl) ?_
          refine lv_iconst (v := 2) hx hb dX5_load_105 (by decide) ?_
          refine lv_irem hx hb dX5_load_106 (by decide) ?_
          refine q_toc (y := 0) (by decide) ?_
          refine lv_if_ne (tgt := 118) hx hb dX5_load_107 (by decide) (fun c9 => absurd (by decide) c9) (fun c_123 => ?_)
          refine lv_iload hx hb dX5_load_110 (lv_at hl 0 rfl) ?_
          refine lv_bipush (v := 16) hx hb dX5_load_112 (by decide) ?_
          refine lv_iushr (v := (a1.toUInt32 >>> (Int32.toUInt32 16 &&& Int32.toUInt32 31)).toInt32) hx hb dX5_load_114 rfl ?_
          refine lv_goto (tgt := 123) hx hb dX5_load_115 (by decide) ?_
          have hPc := hP.sub (ws' := [(m0, .inr (5, [.int 0, .ref mB, .ref mR, .int 0, .ref mO, .int 0, .int 0, .ref mN, .int 0, .int 0, .int 0, .int 0, .int 0, .int 0, .int 0, .int 0, .int 0])), (mB, .inl (cY, 4096, .inl f_18))]) [0, 1] rfl
          have hDc := hD.sub (ws' := [(m0, .inr (5, [.int 0, .ref mB, .ref mR, .int 0, .ref mO, .int 0, .int 0, .ref mN, .int 0, .int 0, .int 0, .int 0, .int 0, .int 0, .int 0, .int 0, .int 0])), (mB, .inl (cY, 4096, .inl f_18))]) [0, 1] (by decide) rfl
          have hKc := hK.sub (tys' := [(cY, .int)]) [0] rfl
          have hFc := va_free (wc := [(m0, .inr (5, [.int 0, .ref mB, .ref mR, .int 0, .ref mO, .int 0, .int 0, .ref mN, .int 0, .int 0, .int 0, .int 0, .int 0, .int 0, .int 0, .int 0, .int 0])), (mB, .inl (cY, 4096, .inl f_18))]) hD hS hA [0, 1] rfl
          refine va_callv (va_runV (C := RX5) (b := m0) (As := [.int (pl + 4), .int ((a1.toUInt32 >>> (Int32.toUInt32 16 &&& Int32.toUInt32 31)).toInt32)]) (rest := []) ⟨hx, hb, hml, hown, hts⟩ (c_X5_setWord l dC dI H.size m0 mB mR mO mN cY f_18 (pl + 4) ((a1.toUInt32 >>> (Int32.toUInt32 16 &&& Int32.toUInt32 31)).toInt32) ((iw_ink (k := 4) (by decide) (by decide) (by decide) (by decide) c_3 c_24).1) ((iw_ink (k := 4) (by decide) (by decide) (by decide) (by decide) c_3 c_24).2)) (cwV 2 hts gX5_load_X5_setWord rfl rfl rfl (by decide +kernel) ⟨Nat.le_of_ble_eq_true rfl, Nat.le_of_ble_eq_true rfl⟩) ⟨q_blind, va_recv hK hP (ci := 5) (q0 := 0) rfl rfl, fun U hU hW => ⟨rfl, q_pay hU hW hPc hKc hDc hN⟩⟩ rfl rfl hl.1 rfl (lv_room (Nat.le_of_ble_eq_true rfl)) dX5_load_123 ⟨show 0 + 0 ≤ 0 from by omega, show 0 + 0 ≤ 0 from by omega⟩) hS (fun q _ h => hFc q h) hFc (fun u9 t H locs ht hvm hw_125 hB hz1 hk1 hS => ?_)
          obtain ⟨bf2_126, rfl⟩ : ∃ z, z = u9 := ⟨_, rfl⟩
          obtain ⟨hP1, hK1, hD1⟩ := hB
          rw [ht] at hP1
          obtain ⟨hP, hD⟩ := va_join (wr := []) (w1 := [(m0, .inr (5, [.int 0, .ref mB, .ref mR, .int 0, .ref mO, .int 0, .int 0, .ref mN, .int 0, .int 0, .int 0, .int 0, .int 0, .int 0, .int 0, .int 0, .int 0])), (mB, .inl (cY, 4096, .inl bf2_126))]) hP hD [0, 1] [] rfl rfl (by decide) (by decide) hk1 hFc hP1 hD1
          have hP : va_P (dC, dI) vwCl [(m0, .inr (5, [.int 0, .ref mB, .ref mR, .int 0, .ref mO, .int 0, .int 0, .ref mN, .int 0, .int 0, .int 0, .int 0, .int 0, .int 0, .int 0, .int 0, .int 0])), (mB, .inl (cY, 4096, .inl bf2_126))] H := hP
          have hD : va_D A [(m0, .inr (5, [.int 0, .ref mB, .ref mR, .int 0, .ref mO, .int 0, .int 0, .ref mN, .int 0, .int 0, .int 0, .int 0, .int 0, .int 0, .int 0, .int 0, .int 0])), (mB, .inl (cY, 4096, .inl bf2_126))] := hD
          refine W.widen (k := 0) (n := 0) (by omega) (by omega) ?_
          try dsimp only at hw_125
          refine lv_iinc (v := nv_17 + 1) (lv' := [(7, .int (nv_17 + 1)), (9, .int a1), (8, .int 2), (0, .ref m0), (1, .int pl), (2, .int a0), (3, .int a1), (4, .int a2), (5, .int a3), (6, .int a4)]) hx hb dX5_load_126 hl (k := 2) rfl (by rfl) (by decide) rfl (fun ls hl => ?_)
          exact jn _ _ _ ⟨nv_17 + 1, _, (by unfold dn; rw [if_neg c_24] <;> first | rfl | decide), hP, hD, hS, lv_sub hl [1, 2, 0, 3, 4, 5, 6, 7, 8, 9] rfl⟩
      refine lv_icmp_ge (tgt := 129) hx hb dX5_load_93 (by decide) (fun c_16 => ?_) (fun c_16 => ?_)
      · exact jn _ _ _ ⟨nv_10, f_11, (by unfold dn; rw [if_pos c_16] <;> first | decide | exact (Int32.add_zero _).symm), hP, hD, hS, hl⟩
      · refine lv_aload_n hx hb dX5_load_96 rfl (lv_at hl 3 rfl) ?_
        refine lv_iload_n hx hb dX5_load_97 rfl (lv_at hl 4 rfl) ?_
        refine lv_iconst (v := 2) hx hb dX5_load_98 (by decide) ?_
        refine lv_iload hx hb dX5_load_99 (lv_at hl 1 rfl) ?_
        refine lv_imul hx hb dX5_load_101 ?_
        refine q_toc (y := 2) (by decide) ?_
        refine lv_iadd hx hb dX5_load_102 ?_
        refine lv_iload hx hb dX5_load_103 (lv_at hl 1 rfl) ?_
        refine lv_iconst (v := 2) hx hb dX5_load_105 (by decide) ?_
        refine lv_irem hx hb dX5_load_106 (by decide) ?_
        refine q_toc (y := 1) (by decide) ?_
        refine lv_if_ne (tgt := 118) hx hb dX5_load_107 (by decide) (fun c_127 => ?_) (fun c9 => absurd c9 (by decide))
        refine lv_iload hx hb dX5_load_118 (lv_at hl 0 rfl) ?_
        refine lv_ldc (v := 65535) hx hb hown (hts (.constant RX5 30 (65535)) (by decide +kernel)) dX5_load_120 ?_
        refine lv_iand hx hb dX5_load_122 ?_
        have hPc := hP.sub (ws' := [(m0, .inr (5, [.int 0, .ref mB, .ref mR, .int 0, .ref mO, .int 0, .int 0, .ref mN, .int 0, .int 0, .int 0, .int 0, .int 0, .int 0, .int 0, .int 0, .int 0])), (mB, .inl (cY, 4096, .inl f_11))]) [0, 1] rfl
        have hDc := hD.sub (ws' := [(m0, .inr (5, [.int 0, .ref mB, .ref mR, .int 0, .ref mO, .int 0, .int 0, .ref mN, .int 0, .int 0, .int 0, .int 0, .int 0, .int 0, .int 0, .int 0, .int 0])), (mB, .inl (cY, 4096, .inl f_11))]) [0, 1] (by decide) rfl
        have hKc := hK.sub (tys' := [(cY, .int)]) [0] rfl
        have hFc := va_free (wc := [(m0, .inr (5, [.int 0, .ref mB, .ref mR, .int 0, .ref mO, .int 0, .int 0, .ref mN, .int 0, .int 0, .int 0, .int 0, .int 0, .int 0, .int 0, .int 0, .int 0])), (mB, .inl (cY, 4096, .inl f_11))]) hD hS hA [0, 1] rfl
        refine va_callv (va_runV (C := RX5) (b := m0) (As := [.int (pl + 2), .int (a0 &&& 65535)]) (rest := []) ⟨hx, hb, hml, hown, hts⟩ (c_X5_setWord l dC dI H.size m0 mB mR mO mN cY f_11 (pl + 2) (a0 &&& 65535) ((iw_ink (k := 2) (by decide) (by decide) (by decide) (by decide) c_3 c_16).1) ((iw_ink (k := 2) (by decide) (by decide) (by decide) (by decide) c_3 c_16).2)) (cwV 2 hts gX5_load_X5_setWord rfl rfl rfl (by decide +kernel) ⟨Nat.le_of_ble_eq_true rfl, Nat.le_of_ble_eq_true rfl⟩) ⟨q_blind, va_recv hK hP (ci := 5) (q0 := 0) rfl rfl, fun U hU hW => ⟨rfl, q_pay hU hW hPc hKc hDc hN⟩⟩ rfl rfl hl.1 rfl (lv_room (Nat.le_of_ble_eq_true rfl)) dX5_load_123 ⟨show 0 + 0 ≤ 0 from by omega, show 0 + 0 ≤ 0 from by omega⟩) hS (fun q _ h => hFc q h) hFc (fun u9 t H locs ht hvm hw_129 hB hz1 hk1 hS => ?_)
        obtain ⟨bf2_130, rfl⟩ : ∃ z, z = u9 := ⟨_, rfl⟩
        obtain ⟨hP1, hK1, hD1⟩ := hB
        rw [ht] at hP1
        obtain ⟨hP, hD⟩ := va_join (wr := []) (w1 := [(m0, .inr (5, [.int 0, .ref mB, .ref mR, .int 0, .ref mO, .int 0, .int 0, .ref mN, .int 0, .int 0, .int 0, .int 0, .int 0, .int 0, .int 0, .int 0, .int 0])), (mB, .inl (cY, 4096, .inl bf2_130))]) hP hD [0, 1] [] rfl rfl (by decide) (by decide) hk1 hFc hP1 hD1
        have hP : va_P (dC, dI) vwCl [(m0, .inr (5, [.int 0, .ref mB, .ref mR, .int 0, .ref mO, .int 0, .int 0, .ref mN, .int 0, .int 0, .int 0, .int 0, .int 0, .int 0, .int 0, .int 0, .int 0])), (mB, .inl (cY, 4096, .inl bf2_130))] H := hP
        have hD : va_D A [(m0, .inr (5, [.int 0, .ref mB, .ref mR, .int 0, .ref mO, .int 0, .int 0, .ref mN, .int 0, .int 0, .int 0, .int 0, .int 0, .int 0, .int 0, .int 0, .int 0])), (mB, .inl (cY, 4096, .inl bf2_130))] := hD
        refine W.widen (k := 0) (n := 0) (by omega) (by omega) ?_
        try dsimp only at hw_129
        refine lv_iinc (v := nv_10 + 1) (lv' := [(7, .int (nv_10 + 1)), (9, .int a0), (8, .int 1), (0, .ref m0), (1, .int pl), (2, .int a0), (3, .int a1), (4, .int a2), (5, .int a3), (6, .int a4)]) hx hb dX5_load_126 hl (k := 2) rfl (by rfl) (by decide) rfl (fun ls hl => ?_)
        exact jn _ _ _ ⟨nv_10 + 1, _, (by unfold dn; rw [if_neg c_16] <;> first | rfl | decide), hP, hD, hS, lv_sub hl [1, 2, 0, 3, 4, 5, 6, 7, 8, 9] rfl⟩
    refine lv_icmp_ge (tgt := 129) hx hb dX5_load_93 (by decide) (fun c_9 => ?_) (fun c_9 => ?_)
    · exact jn _ _ _ ⟨0, bf, (by unfold dn; rw [if_pos c_9] <;> first | decide | exact (Int32.add_zero _).symm), hP, hD, hS, hl⟩
    · refine lv_aload_n hx hb dX5_load_96 rfl (lv_at hl 3 rfl) ?_
      refine lv_iload_n hx hb dX5_load_97 rfl (lv_at hl 4 rfl) ?_
      refine lv_iconst (v := 2) hx hb dX5_load_98 (by decide) ?_
      refine lv_iload hx hb dX5_load_99 (lv_at hl 1 rfl) ?_
      refine lv_imul hx hb dX5_load_101 ?_
      refine q_toc (y := 0) (by decide) ?_
      refine lv_iadd hx hb dX5_load_102 ?_
      refine lv_iload hx hb dX5_load_103 (lv_at hl 1 rfl) ?_
      refine lv_iconst (v := 2) hx hb dX5_load_105 (by decide) ?_
      refine lv_irem hx hb dX5_load_106 (by decide) ?_
      refine q_toc (y := 0) (by decide) ?_
      refine lv_if_ne (tgt := 118) hx hb dX5_load_107 (by decide) (fun c9 => absurd (by decide) c9) (fun c_131 => ?_)
      refine lv_iload hx hb dX5_load_110 (lv_at hl 0 rfl) ?_
      refine lv_bipush (v := 16) hx hb dX5_load_112 (by decide) ?_
      refine lv_iushr (v := (a0.toUInt32 >>> (Int32.toUInt32 16 &&& Int32.toUInt32 31)).toInt32) hx hb dX5_load_114 rfl ?_
      refine lv_goto (tgt := 123) hx hb dX5_load_115 (by decide) ?_
      have hPc := hP.sub (ws' := [(m0, .inr (5, [.int 0, .ref mB, .ref mR, .int 0, .ref mO, .int 0, .int 0, .ref mN, .int 0, .int 0, .int 0, .int 0, .int 0, .int 0, .int 0, .int 0, .int 0])), (mB, .inl (cY, 4096, .inl bf))]) [0, 1] rfl
      have hDc := hD.sub (ws' := [(m0, .inr (5, [.int 0, .ref mB, .ref mR, .int 0, .ref mO, .int 0, .int 0, .ref mN, .int 0, .int 0, .int 0, .int 0, .int 0, .int 0, .int 0, .int 0, .int 0])), (mB, .inl (cY, 4096, .inl bf))]) [0, 1] (by decide) rfl
      have hKc := hK.sub (tys' := [(cY, .int)]) [0] rfl
      have hFc := va_free (wc := [(m0, .inr (5, [.int 0, .ref mB, .ref mR, .int 0, .ref mO, .int 0, .int 0, .ref mN, .int 0, .int 0, .int 0, .int 0, .int 0, .int 0, .int 0, .int 0, .int 0])), (mB, .inl (cY, 4096, .inl bf))]) hD hS hA [0, 1] rfl
      refine va_callv (va_runV (C := RX5) (b := m0) (As := [.int (pl + 0), .int ((a0.toUInt32 >>> (Int32.toUInt32 16 &&& Int32.toUInt32 31)).toInt32)]) (rest := []) ⟨hx, hb, hml, hown, hts⟩ (c_X5_setWord l dC dI H.size m0 mB mR mO mN cY bf (pl + 0) ((a0.toUInt32 >>> (Int32.toUInt32 16 &&& Int32.toUInt32 31)).toInt32) ((iw_ink (k := 0) (by decide) (by decide) (by decide) (by decide) c_3 c_9).1) ((iw_ink (k := 0) (by decide) (by decide) (by decide) (by decide) c_3 c_9).2)) (cwV 2 hts gX5_load_X5_setWord rfl rfl rfl (by decide +kernel) ⟨Nat.le_of_ble_eq_true rfl, Nat.le_of_ble_eq_true rfl⟩) ⟨q_blind, va_recv hK hP (ci := 5) (q0 := 0) rfl rfl, fun U hU hW => ⟨rfl, q_pay hU hW hPc hKc hDc hN⟩⟩ rfl rfl hl.1 rfl (lv_room (Nat.le_of_ble_eq_true rfl)) dX5_load_123 ⟨show 0 + 0 ≤ 0 from by omega, show 0 + 0 ≤ 0 from by omega⟩) hS (fun q _ h => hFc q h) hFc (fun u9 t H locs ht hvm hw_133 hB hz1 hk1 hS => ?_)
      obtain ⟨bf2_134, rfl⟩ : ∃ z, z = u9 := ⟨_, rfl⟩
      obtain ⟨hP1, hK1, hD1⟩ := hB
      rw [ht] at hP1
      obtain ⟨hP, hD⟩ := va_join (wr := []) (w1 := [(m0, .inr (5, [.int 0, .ref mB, .ref mR, .int 0, .ref mO, .int 0, .int 0, .ref mN, .int 0, .int 0, .int 0, .int 0, .int 0, .int 0, .int 0, .int 0, .int 0])), (mB, .inl (cY, 4096, .inl bf2_134))]) hP hD [0, 1] [] rfl rfl (by decide) (by decide) hk1 hFc hP1 hD1
      have hP : va_P (dC, dI) vwCl [(m0, .inr (5, [.int 0, .ref mB, .ref mR, .int 0, .ref mO, .int 0, .int 0, .ref mN, .int 0, .int 0, .int 0, .int 0, .int 0, .int 0, .int 0, .int 0, .int 0])), (mB, .inl (cY, 4096, .inl bf2_134))] H := hP
      have hD : va_D A [(m0, .inr (5, [.int 0, .ref mB, .ref mR, .int 0, .ref mO, .int 0, .int 0, .ref mN, .int 0, .int 0, .int 0, .int 0, .int 0, .int 0, .int 0, .int 0, .int 0])), (mB, .inl (cY, 4096, .inl bf2_134))] := hD
      refine W.widen (k := 0) (n := 0) (by omega) (by omega) ?_
      try dsimp only at hw_133
      refine lv_iinc (v := 1) (lv' := [(7, .int 1), (9, .int a0), (8, .int 0), (0, .ref m0), (1, .int pl), (2, .int a0), (3, .int a1), (4, .int a2), (5, .int a3), (6, .int a4)]) hx hb dX5_load_126 hl (k := 2) rfl (by decide) (by decide) rfl (fun ls hl => ?_)
      exact jn _ _ _ ⟨1, _, (by unfold dn; rw [if_neg c_9] <;> first | rfl | decide), hP, hD, hS, lv_sub hl [1, 2, 0, 3, 4, 5, 6, 7, 8, 9] rfl⟩
