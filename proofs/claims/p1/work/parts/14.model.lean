/-- is a word there -/
def iw (pl : Int32) : Int32 := if pl < 0 then 0 else if 4096 ≤ pl then 0 else if pl - pl / 2 * 2 = 0 then 1 else 0
theorem iw_facts {pl : Int32} (h : ¬ iw pl = 0) : 0 ≤ pl.toInt ∧ pl.toInt < 4096 ∧ pl.toInt.tmod 2 = 0 := by
  unfold iw at h
  by_cases h1 : pl < 0
  · simp [h1] at h
  · by_cases h2 : 4096 ≤ pl
    · simp [h1, h2] at h
    · by_cases h3 : pl - pl / 2 * 2 = 0
      · have a1 := Int32.not_lt.mp h1
        have a2 := Int32.not_le.mp h2
        simp only [Int32.le_iff_toInt_le, Int32.lt_iff_toInt_lt] at a1 a2
        have a3 := rem_toInt pl 2
        rw [h3] at a3
        refine ⟨by simpa using a1, by simpa using a2, ?_⟩
        simpa using a3.symm
      · simp [h1, h2, h3] at h
theorem iw_add {pl c : Int32} {k : Int} (hc : c.toInt = k) (h0 : 0 ≤ k) (hk : k < 100) (h : ¬ iw pl = 0) : (pl + c).toInt = pl.toInt + k := by
  obtain ⟨a, b, -⟩ := iw_facts h
  rw [Int32.toInt_add, hc]
  apply Int.bmod_eq_of_le <;> omega
theorem iw_in {pl : Int32} (h : ¬ iw pl = 0) : vp_in pl 4096 := by
  obtain ⟨a, b, -⟩ := iw_facts h
  exact vp_in_iff.mpr ⟨a, by simpa using b⟩
theorem iw_in1 {pl : Int32} (h : ¬ iw pl = 0) : vp_in (pl + 1) 4096 := by
  obtain ⟨a, b, e⟩ := iw_facts h
  have h1 := iw_add (c := 1) (k := 1) (by decide) (by decide) (by decide) h
  rw [Int.tmod_eq_emod_of_nonneg a] at e
  exact vp_in_iff.mpr ⟨by rw [h1]; omega, by rw [h1]; show _ < (4096 : Int); omega⟩
theorem iw_ink {pl c : Int32} {k : Int} (hc : c.toInt = k) (h0 : 0 ≤ k) (hk : k < 100) (h2 : k % 2 = 0) (h : ¬ iw pl = 0) (hn : ¬ 4096 ≤ pl + c) : vp_in (pl + c) 4096 ∧ vp_in (pl + c + 1) 4096 := by
  obtain ⟨a, b, e⟩ := iw_facts h
  have h1 := iw_add hc h0 hk h
  have a2 := Int32.not_le.mp hn
  simp only [Int32.lt_iff_toInt_lt] at a2
  have a3 : (pl + c).toInt < 4096 := by simpa using a2
  rw [Int.tmod_eq_emod_of_nonneg a] at e
  have h3 : (pl + c + 1).toInt = pl.toInt + k + 1 := by
    rw [Int32.toInt_add, h1, show (1 : Int32).toInt = 1 from by decide]
    apply Int.bmod_eq_of_le <;> omega
  exact ⟨vp_in_iff.mpr ⟨by rw [h1]; omega, by show _ < (4096 : Int); exact a3⟩, vp_in_iff.mpr ⟨by rw [h3]; omega, by rw [h3]; show _ < (4096 : Int); omega⟩⟩
def dn (x : Int32) : Int32 := if 4096 ≤ x then 0 else 1
set_option maxHeartbeats 4000000 in
set_option maxRecDepth 100000 in
theorem c_X5_init (l : Launch) (dC : Nat → ClassId) (dI : Nat → Nat → Nat) (sz : Nat) (m0 : Nat)  : Met l yX5_init wsX5_init ({ frames := 1, cells := 4, slots := 4512, locals := 12 }) (va_Pc [.ref m0] (q_pre dC dI sz [(m0, .inr (5, [.int 0, .null, .null, .int 0, .null, .int 0, .int 0, .null, .int 0, .int 0, .int 0, .int 0, .int 0, .int 0, .int 0, .int 0, .int 0]))] [])) (va_Qv (fun (u9 : Nat × Nat × Nat × Nat × ClassId × ClassId × ClassId × ClassId) => True) (q_at dC dI (va_A [(m0, .inr (5, [.int 0, .null, .null, .int 0, .null, .int 0, .int 0, .null, .int 0, .int 0, .int 0, .int 0, .int 0, .int 0, .int 0, .int 0, .int 0]))] sz) (fun (u9 : Nat × Nat × Nat × Nat × ClassId × ClassId × ClassId × ClassId) => [(u9.2.2.2.2.1, .int), (u9.2.2.2.2.2.1, .int), (u9.2.2.2.2.2.2.1, .int), (u9.2.2.2.2.2.2.2, .int)]) (fun (u9 : Nat × Nat × Nat × Nat × ClassId × ClassId × ClassId × ClassId) => [(m0, .inr (5, [.int 0, .ref u9.1, .ref u9.2.1, .int 0, .ref u9.2.2.1, .int 0, .int 0, .ref u9.2.2.2.1, .int 0, .int 0, .int 0, .int 0, .int 0, .int 0, .int 0, .int 0, .int 0])), (u9.1, .inl (u9.2.2.2.2.1, 4096, .inl (fun _ => 0))), (u9.2.1, .inl (u9.2.2.2.2.2.1, 8, .inl (fun _ => 0))), (u9.2.2.1, .inl (u9.2.2.2.2.2.2.1, 400, .inl (fun _ => 0))), (u9.2.2.2.1, .inl (u9.2.2.2.2.2.2.2, 8, .inl (fun _ => 0)))])) (va_A [(m0, .inr (5, [.int 0, .null, .null, .int 0, .null, .int 0, .int 0, .null, .int 0, .int 0, .int 0, .int 0, .int 0, .int 0, .int 0, .int 0, .int 0]))] sz)) 4 4512 (va_A [(m0, .inr (5, [.int 0, .null, .null, .int 0, .null, .int 0, .int 0, .null, .int 0, .int 0, .int 0, .int 0, .int 0, .int 0, .int 0, .int 0, .int 0]))] sz) := by
  refine Met.ofW (cc := cX5_init) (maxL := 1) (ret := none) (by decide) rfl ?_
  intro p e s m args below meth c s₁ B hml hv
  obtain ⟨rfl, hsz, hP, hK, hD0, hN⟩ := hv
  have hx := B.exec
  have hb := B.bytes
  have hr := B.returns
  have hts := atoms_spec (ws := wsX5_init) B.pre
  have hown : s.vm.findClass RX5 = some m.cls := findClass_of_methodNamed B.named
  have hlocks := B.notSynchronized
  have hin : meth.name = "<init>" := (name_of_methodNamed B.named B.method).1
  subst hsz
  have hD := hD0.self (sz := s.heap.size)
  generalize hAe : va_A [(m0, .inr (5, [.int 0, .null, .null, .int 0, .null, .int 0, .int 0, .null, .int 0, .int 0, .int 0, .int 0, .int 0, .int 0, .int 0, .int 0, .int 0]))] s.heap.size = A at hD ⊢
  have hA : ∀ q : Nat, s.heap.size ≤ q → A q := fun q h => by rw [← hAe]; exact Or.inr h
  have hS : va_S A s.heap s.heap [] := va_S.rf
  have hP : va_P (dC, dI) vwCl [(m0, .inr (5, [.int 0, .null, .null, .int 0, .null, .int 0, .int 0, .null, .int 0, .int 0, .int 0, .int 0, .int 0, .int 0, .int 0, .int 0, .int 0]))] s.heap := hP
  have hl := lv_entry ([.ref m0]) (n := 1) (Nat.le_of_ble_eq_true rfl)
  rw [lg_entry_eq]
  generalize (lg_sl ([.ref m0]) ++ List.replicate (1 - (lg_sl ([.ref m0])).length) Slot.unset).toArray = ls at hl ⊢
  have hl : lv_has ls 1 [(0, .ref m0)] := hl
  refine lv_aload_n hx hb dX5_init_0 rfl (lv_at hl 0 rfl) ?_
  refine W.objInit hx hb hown (hts (.methodLink RX5 1 objectInit) (by decide +kernel)) (hts (.instanceMethod objectInit) (by decide +kernel)) (hts (.code objectInit ⟨#[0xb1]⟩ 1 none) (by decide +kernel)) rfl (by rw [hml]; exact hl.1) rfl dX5_init_1 (Nat.le_of_ble_eq_true rfl) (Nat.le_of_ble_eq_true rfl) ?_
  refine W.eq (g2 := F0 m 4 ls []) rfl ?_
  refine lv_aload_n hx hb dX5_init_4 rfl (lv_at hl 0 rfl) ?_
  refine lv_sipush (v := 4096) hx hb dX5_init_5 (by decide) ?_
  refine va_newa (atype := .int) (a0 := (4096, .inl (fun _ => 0))) (N' := 4096) (ty := .int) hx hb (hts (.arrayClass .int) (by decide +kernel)) rfl hK hP hD hS hA (fun _ => q_zi _ _) (by decide) (by decide) (by decide) (show 0 + 1 ≤ 4 from by omega) (show 0 + 4096 ≤ 4512 from by omega) dX5_init_8 (fun q_1 cA_2 H hK hP hD hS => ?_)
  have hP : va_P (dC, dI) vwCl [(m0, .inr (5, [.int 0, .null, .null, .int 0, .null, .int 0, .int 0, .null, .int 0, .int 0, .int 0, .int 0, .int 0, .int 0, .int 0, .int 0, .int 0])), (q_1, .inl (cA_2, 4096, .inl (fun _ => 0)))] H := hP
  have hD : va_D A [(m0, .inr (5, [.int 0, .null, .null, .int 0, .null, .int 0, .int 0, .null, .int 0, .int 0, .int 0, .int 0, .int 0, .int 0, .int 0, .int 0, .int 0])), (q_1, .inl (cA_2, 4096, .inl (fun _ => 0)))] := hD
  have hK : va_K (dC, dI) vwCl [(cA_2, .int)] s := hK
  refine W.widen (k := 1) (n := 4096) (by omega) (by omega) ?_
  refine va_putF (D := (dC, dI)) (ci := 5) (v := .ref q_1) (ty := .array .int) (C := RX5) (T := TX5) (N := 17) hx hb hts (by decide +kernel) tyX5 tyX5_ok nmX5 hown hK hP hD hS 0 rfl rfl 1 (by decide) (hts (.fieldLink RX5 7 "WordGuestModel" "bytes" "[I") (by decide +kernel)) (fun _ h9 => h9) rfl hin rfl (by decide +kernel) rfl rfl (Nat.le_of_ble_eq_true rfl) dX5_init_10 (fun H locs hP hD hS => ?_)
  have hP : va_P (dC, dI) vwCl [(m0, .inr (5, [.int 0, .ref q_1, .null, .int 0, .null, .int 0, .int 0, .null, .int 0, .int 0, .int 0, .int 0, .int 0, .int 0, .int 0, .int 0, .int 0])), (q_1, .inl (cA_2, 4096, .inl (fun _ => 0)))] H := hP
  have hD : va_D A [(m0, .inr (5, [.int 0, .ref q_1, .null, .int 0, .null, .int 0, .int 0, .null, .int 0, .int 0, .int 0, .int 0, .int 0, .int 0, .int 0, .int 0, .int 0])), (q_1, .inl (cA_2, 4096, .inl (fun _ => 0)))] := hD
  refine lv_aload_n hx hb dX5_init_13 rfl (lv_at hl 0 rfl) ?_
  refine lv_bipush (v := 8) hx hb dX5_init_14 (by decide) ?_
  refine va_newa (atype := .int) (a0 := (8, .inl (fun _ => 0))) (N' := 8) (ty := .int) hx hb (hts (.arrayClass .int) (by decide +kernel)) rfl hK hP hD hS hA (fun _ => q_zi _ _) (by decide) (by decide) (by decide) (show 1 + 1 ≤ 4 from by omega) (show 4096 + 8 ≤ 4512 from by omega) dX5_init_16 (fun q_3 cA_4 H hK hP hD hS => ?_)
  have hP : va_P (dC, dI) vwCl [(m0, .inr (5, [.int 0, .ref q_1, .null, .int 0, .null, .int 0, .int 0, .null, .int 0, .int 0, .int 0, .int 0, .int 0, .int 0, .int 0, .int 0, .int 0])), (q_1, .inl (cA_2, 4096, .inl (fun _ => 0))), (q_3, .inl (cA_4, 8, .inl (fun _ => 0)))] H := hP
  have hD : va_D A [(m0, .inr (5, [.int 0, .ref q_1, .null, .int 0, .null, .int 0, .int 0, .null, .int 0, .int 0, .int 0, .int 0, .int 0, .int 0, .int 0, .int 0, .int 0])), (q_1, .inl (cA_2, 4096, .inl (fun _ => 0))), (q_3, .inl (cA_4, 8, .inl (fun _ => 0)))] := hD
  have hK : va_K (dC, dI) vwCl [(cA_2, .int), (cA_4, .int)] s := hK
  refine W.widen (k := 2) (n := 4104) (by omega) (by omega) ?_
  refine va_putF (D := (dC, dI)) (ci := 5) (v := .ref q_3) (ty := .array .int) (C := RX5) (T := TX5) (N := 17) hx hb hts (by decide +kernel) tyX5 tyX5_ok nmX5 hown hK hP hD hS 0 rfl rfl 2 (by decide) (hts (.fieldLink RX5 13 "WordGuestModel" "registers" "[I") (by decide +kernel)) (fun _ h9 => h9) rfl hin rfl (by decide +kernel) rfl rfl (Nat.le_of_ble_eq_true rfl) dX5_init_18 (fun H locs hP hD hS => ?_)
  have hP : va_P (dC, dI) vwCl [(m0, .inr (5, [.int 0, .ref q_1, .ref q_3, .int 0, .null, .int 0, .int 0, .null, .int 0, .int 0, .int 0, .int 0, .int 0, .int 0, .int 0, .int 0, .int 0])), (q_1, .inl (cA_2, 4096, .inl (fun _ => 0))), (q_3, .inl (cA_4, 8, .inl (fun _ => 0)))] H := hP
  have hD : va_D A [(m0, .inr (5, [.int 0, .ref q_1, .ref q_3, .int 0, .null, .int 0, .int 0, .null, .int 0, .int 0, .int 0, .int 0, .int 0, .int 0, .int 0, .int 0, .int 0])), (q_1, .inl (cA_2, 4096, .inl (fun _ => 0))), (q_3, .inl (cA_4, 8, .inl (fun _ => 0)))] := hD
  refine lv_aload_n hx hb dX5_init_21 rfl (lv_at hl 0 rfl) ?_
  refine lv_sipush (v := 400) hx hb dX5_init_22 (by decide) ?_
  refine va_newa (atype := .int) (a0 := (400, .inl (fun _ => 0))) (N' := 400) (ty := .int) hx hb (hts (.arrayClass .int) (by decide +kernel)) rfl hK hP hD hS hA (fun _ => q_zi _ _) (by decide) (by decide) (by decide) (show 2 + 1 ≤ 4 from by omega) (show 4104 + 400 ≤ 4512 from by omega) dX5_init_25 (fun q_5 cA_6 H hK hP hD hS => ?_)
  have hP : va_P (dC, dI) vwCl [(m0, .inr (5, [.int 0, .ref q_1, .ref q_3, .int 0, .null, .int 0, .int 0, .null, .int 0, .int 0, .int 0, .int 0, .int 0, .int 0, .int 0, .int 0, .int 0])), (q_1, .inl (cA_2, 4096, .inl (fun _ => 0))), (q_3, .inl (cA_4, 8, .inl (fun _ => 0))), (q_5, .inl (cA_6, 400, .inl (fun _ => 0)))] H := hP
  have hD : va_D A [(m0, .inr (5, [.int 0, .ref q_1, .ref q_3, .int 0, .null, .int 0, .int 0, .null, .int 0, .int 0, .int 0, .int 0, .int 0, .int 0, .int 0, .int 0, .int 0])), (q_1, .inl (cA_2, 4096, .inl (fun _ => 0))), (q_3, .inl (cA_4, 8, .inl (fun _ => 0))), (q_5, .inl (cA_6, 400, .inl (fun _ => 0)))] := hD
  have hK : va_K (dC, dI) vwCl [(cA_2, .int), (cA_4, .int), (cA_6, .int)] s := hK
  refine W.widen (k := 3) (n := 4504) (by omega) (by omega) ?_
  refine va_putF (D := (dC, dI)) (ci := 5) (v := .ref q_5) (ty := .array .int) (C := RX5) (T := TX5) (N := 17) hx hb hts (by decide +kernel) tyX5 tyX5_ok nmX5 hown hK hP hD hS 0 rfl rfl 4 (by decide) (hts (.fieldLink RX5 16 "WordGuestModel" "outs" "[I") (by decide +kernel)) (fun _ h9 => h9) rfl hin rfl (by decide +kernel) rfl rfl (Nat.le_of_ble_eq_true rfl) dX5_init_27 (fun H locs hP hD hS => ?_)
  have hP : va_P (dC, dI) vwCl [(m0, .inr (5, [.int 0, .ref q_1, .ref q_3, .int 0, .ref q_5, .int 0, .int 0, .null, .int 0, .int 0, .int 0, .int 0, .int 0, .int 0, .int 0, .int 0, .int 0])), (q_1, .inl (cA_2, 4096, .inl (fun _ => 0))), (q_3, .inl (cA_4, 8, .inl (fun _ => 0))), (q_5, .inl (cA_6, 400, .inl (fun _ => 0)))] H := hP
  have hD : va_D A [(m0, .inr (5, [.int 0, .ref q_1, .ref q_3, .int 0, .ref q_5, .int 0, .int 0, .null, .int 0, .int 0, .int 0, .int 0, .int 0, .int 0, .int 0, .int 0, .int 0])), (q_1, .inl (cA_2, 4096, .inl (fun _ => 0))), (q_3, .inl (cA_4, 8, .inl (fun _ => 0))), (q_5, .inl (cA_6, 400, .inl (fun _ => 0)))] := hD
  refine lv_aload_n hx hb dX5_init_30 rfl (lv_at hl 0 rfl) ?_
  refine lv_bipush (v := 8) hx hb dX5_init_31 (by decide) ?_
  refine va_newa (atype := .int) (a0 := (8, .inl (fun _ => 0))) (N' := 8) (ty := .int) hx hb (hts (.arrayClass .int) (by decide +kernel)) rfl hK hP hD hS hA (fun _ => q_zi _ _) (by decide) (by decide) (by decide) (show 3 + 1 ≤ 4 from by omega) (show 4504 + 8 ≤ 4512 from by omega) dX5_init_33 (fun q_7 cA_8 H hK hP hD hS => ?_)
  have hP : va_P (dC, dI) vwCl [(m0, .inr (5, [.int 0, .ref q_1, .ref q_3, .int 0, .ref q_5, .int 0, .int 0, .null, .int 0, .int 0, .int 0, .int 0, .int 0, .int 0, .int 0, .int 0, .int 0])), (q_1, .inl (cA_2, 4096, .inl (fun _ => 0))), (q_3, .inl (cA_4, 8, .inl (fun _ => 0))), (q_5, .inl (cA_6, 400, .inl (fun _ => 0))), (q_7, .inl (cA_8, 8, .inl (fun _ => 0)))] H := hP
  have hD : va_D A [(m0, .inr (5, [.int 0, .ref q_1, .ref q_3, .int 0, .ref q_5, .int 0, .int 0, .null, .int 0, .int 0, .int 0, .int 0, .int 0, .int 0, .int 0, .int 0, .int 0])), (q_1, .inl (cA_2, 4096, .inl (fun _ => 0))), (q_3, .inl (cA_4, 8, .inl (fun _ => 0))), (q_5, .inl (cA_6, 400, .inl (fun _ => 0))), (q_7, .inl (cA_8, 8, .inl (fun _ => 0)))] := hD
  have hK : va_K (dC, dI) vwCl [(cA_2, .int), (cA_4, .int), (cA_6, .int), (cA_8, .int)] s := hK
  refine W.widen (k := 4) (n := 4512) (by omega) (by omega) ?_
  refine va_putF (D := (dC, dI)) (ci := 5) (v := .ref q_7) (ty := .array .int) (C := RX5) (T := TX5) (N := 17) hx hb hts (by decide +kernel) tyX5 tyX5_ok nmX5 hown hK hP hD hS 0 rfl rfl 7 (by decide) (hts (.fieldLink RX5 19 "WordGuestModel" "now" "[I") (by decide +kernel)) (fun _ h9 => h9) rfl hin rfl (by decide +kernel) rfl rfl (Nat.le_of_ble_eq_true rfl) dX5_init_35 (fun H locs hP hD hS => ?_)
  have hP : va_P (dC, dI) vwCl [(m0, .inr (5, [.int 0, .ref q_1, .ref q_3, .int 0, .ref q_5, .int 0, .int 0, .ref q_7, .int 0, .int 0, .int 0, .int 0, .int 0, .int 0, .int 0, .int 0, .int 0])), (q_1, .inl (cA_2, 4096, .inl (fun _ => 0))), (q_3, .inl (cA_4, 8, .inl (fun _ => 0))), (q_5, .inl (cA_6, 400, .inl (fun _ => 0))), (q_7, .inl (cA_8, 8, .inl (fun _ => 0)))] H := hP
  have hD : va_D A [(m0, .inr (5, [.int 0, .ref q_1, .ref q_3, .int 0, .ref q_5, .int 0, .int 0, .ref q_7, .int 0, .int 0, .int 0, .int 0, .int 0, .int 0, .int 0, .int 0, .int 0])), (q_1, .inl (cA_2, 4096, .inl (fun _ => 0))), (q_3, .inl (cA_4, 8, .inl (fun _ => 0))), (q_5, .inl (cA_6, 400, .inl (fun _ => 0))), (q_7, .inl (cA_8, 8, .inl (fun _ => 0)))] := hD
  have hP9 := hP.sub (ws' := [(m0, .inr (5, [.int 0, .ref q_1, .ref q_3, .int 0, .ref q_5, .int 0, .int 0, .ref q_7, .int 0, .int 0, .int 0, .int 0, .int 0, .int 0, .int 0, .int 0, .int 0])), (q_1, .inl (cA_2, 4096, .inl (fun _ => 0))), (q_3, .inl (cA_4, 8, .inl (fun _ => 0))), (q_5, .inl (cA_6, 400, .inl (fun _ => 0))), (q_7, .inl (cA_8, 8, .inl (fun _ => 0)))]) [0, 1, 2, 3, 4] rfl
  have hD9 := hD.sub (ws' := [(m0, .inr (5, [.int 0, .ref q_1, .ref q_3, .int 0, .ref q_5, .int 0, .int 0, .ref q_7, .int 0, .int 0, .int 0, .int 0, .int 0, .int 0, .int 0, .int 0, .int 0])), (q_1, .inl (cA_2, 4096, .inl (fun _ => 0))), (q_3, .inl (cA_4, 8, .inl (fun _ => 0))), (q_5, .inl (cA_6, 400, .inl (fun _ => 0))), (q_7, .inl (cA_8, 8, .inl (fun _ => 0)))]) [0, 1, 2, 3, 4] (by decide) rfl
  have hK9 := hK.sub (tys' := [(cA_2, .int), (cA_4, .int), (cA_6, .int), (cA_8, .int)]) [0, 1, 2, 3] rfl
  exact W.vret hx hb hr (fun t ht hW => ⟨⟨(q_1, q_3, q_5, q_7, cA_2, cA_4, cA_6, cA_8), rfl, trivial, by rw [ht]; exact hP9, va_K.moved hW.alike hK9, hD9⟩, hS.F ht⟩) hS.2.2 dX5_init_38
set_option maxHeartbeats 4000000 in
set_option maxRecDepth 100000 in
theorem c_X5_thrown (l : Launch) (dC : Nat → ClassId) (dI : Nat → Nat → Nat) (sz : Nat) (m0 : Nat) (mB : Nat) (mR : Nat) (mO : Nat) (mN : Nat) (x_thrown : Int32) (x_flags : Int32) (x_outCount : Int32) (x_steps : Int32) (x_nowFlags : Int32) (x_writePlace : Int32) (x_writeSize : Int32) (x_writeValue : Int32) (x_fault : Int32) (x_halt : Int32) (x_isByte : Int32) (x_atRegister : Int32) (x_atPlace : Int32)  : Met l yX5_thrown wsX5_thrown ({ frames := 0, cells := 0, slots := 0, locals := 0 }) (va_Pc [.ref m0] (q_pre dC dI sz [(m0, .inr (5, [.int x_thrown, .ref mB, .ref mR, .int x_flags, .ref mO, .int x_outCount, .int x_steps, .ref mN, .int x_nowFlags, .int x_writePlace, .int x_writeSize, .int x_writeValue, .int x_fault, .int x_halt, .int x_isByte, .int x_atRegister, .int x_atPlace]))] [])) (va_Qi (fun (r : Int32) (u9 : Unit) => r = x_thrown) (q_at dC dI (va_A [(m0, .inr (5, [.int x_thrown, .ref mB, .ref mR, .int x_flags, .ref mO, .int x_outCount, .int x_steps, .ref mN, .int x_nowFlags, .int x_writePlace, .int x_writeSize, .int x_writeValue, .int x_fault, .int x_halt, .int x_isByte, .int x_atRegister, .int x_atPlace]))] sz) (fun (u9 : Unit) => []) (fun (u9 : Unit) => [(m0, .inr (5, [.int x_thrown, .ref mB, .ref mR, .int x_flags, .ref mO, .int x_outCount, .int x_steps, .ref mN, .int x_nowFlags, .int x_writePlace, .int x_writeSize, .int x_writeValue, .int x_fault, .int x_halt, .int x_isByte, .int x_atRegister, .int x_atPlace]))])) (va_A [(m0, .inr (5, [.int x_thrown, .ref mB, .ref mR, .int x_flags, .ref mO, .int x_outCount, .int x_steps, .ref mN, .int x_nowFlags, .int x_writePlace, .int x_writeSize, .int x_writeValue, .int x_fault, .int x_halt, .int x_isByte, .int x_atRegister, .int x_atPlace]))] sz)) 0 0 (va_A [(m0, .inr (5, [.int x_thrown, .ref mB, .ref mR, .int x_flags, .ref mO, .int x_outCount, .int x_steps, .ref mN, .int x_nowFlags, .int x_writePlace, .int x_writeSize, .int x_writeValue, .int x_fault, .int x_halt, .int x_isByte, .int x_atRegister, .int x_atPlace]))] sz) := by
  refine Met.ofW (cc := cX5_thrown) (maxL := 1) (ret := (some .int)) (by decide) rfl ?_
  intro p e s m args below meth c s₁ B hml hv
  obtain ⟨rfl, hsz, hP, hK, hD0, hN⟩ := hv
  have hx := B.exec
  have hb := B.bytes
  have hr := B.returns
  have hts := atoms_spec (ws := wsX5_thrown) B.pre
  have hown : s.vm.findClass RX5 = some m.cls := findClass_of_methodNamed B.named
  have hlocks := B.notSynchronized
  subst hsz
  have hD := hD0.self (sz := s.heap.size)
  generalize hAe : va_A [(m0, .inr (5, [.int x_thrown, .ref mB, .ref mR, .int x_flags, .ref mO, .int x_outCount, .int x_steps, .ref mN, .int x_nowFlags, .int x_writePlace, .int x_writeSize, .int x_writeValue, .int x_fault, .int x_halt, .int x_isByte, .int x_atRegister, .int x_atPlace]))] s.heap.size = A at hD ⊢
  have hA : ∀ q : Nat, s.heap.size ≤ q → A q := fun q h => by rw [← hAe]; exact Or.inr h
  have hS : va_S A s.heap s.heap [] := va_S.rf
  have hP : va_P (dC, dI) vwCl [(m0, .inr (5, [.int x_thrown, .ref mB, .ref mR, .int x_flags, .ref mO, .int x_outCount, .int x_steps, .ref mN, .int x_nowFlags, .int x_writePlace, .int x_writeSize, .int x_writeValue, .int x_fault, .int x_halt, .int x_isByte, .int x_atRegister, .int x_atPlace]))] s.heap := hP
  have hl := lv_entry ([.ref m0]) (n := 1) (Nat.le_of_ble_eq_true rfl)
  rw [lg_entry_eq]
  generalize (lg_sl ([.ref m0]) ++ List.replicate (1 - (lg_sl ([.ref m0])).length) Slot.unset).toArray = ls at hl ⊢
  have hl : lv_has ls 1 [(0, .ref m0)] := hl
  refine lv_aload_n hx hb dX5_thrown_0 rfl (lv_at hl 0 rfl) ?_
  refine va_get (D := (dC, dI)) (ci := 5) (v := .int x_thrown) (C := RX5) (T := TX5) (N := 17) hx hb hts (by decide +kernel) hown hK hP 0 rfl rfl 0 (by decide) (hts (.fieldLink RX5 22 "WordGuestModel" "thrown" "I") (by decide +kernel)) (fun _ h9 => h9) rfl dX5_thrown_1 ?_
  have hP9 := hP.sub (ws' := [(m0, .inr (5, [.int x_thrown, .ref mB, .ref mR, .int x_flags, .ref mO, .int x_outCount, .int x_steps, .ref mN, .int x_nowFlags, .int x_writePlace, .int x_writeSize, .int x_writeValue, .int x_fault, .int x_halt, .int x_isByte, .int x_atRegister, .int x_atPlace]))]) [0] rfl
  have hD9 := hD.sub (ws' := [(m0, .inr (5, [.int x_thrown, .ref mB, .ref mR, .int x_flags, .ref mO, .int x_outCount, .int x_steps, .ref mN, .int x_nowFlags, .int x_writePlace, .int x_writeSize, .int x_writeValue, .int x_fault, .int x_halt, .int x_isByte, .int x_atRegister, .int x_atPlace]))]) [0] (by decide) rfl
  have hK9 := hK.sub (tys' := []) [] rfl
  exact W.iret (v := x_thrown) hx hb hr (fun t ht hW => ⟨⟨x_thrown, (), rfl, rfl, by rw [ht]; exact hP9, va_K.moved hW.alike hK9, hD9⟩, hS.F ht⟩) hS.2.2 dX5_thrown_4
set_option maxHeartbeats 4000000 in
set_option maxRecDepth 100000 in
theorem c_X5_isWord (l : Launch) (dC : Nat → ClassId) (dI : Nat → Nat → Nat) (sz : Nat) (pl : Int32)  : Met l yX5_isWord wsX5_isWord ({ frames := 0, cells := 0, slots := 0, locals := 0 }) (va_Pc [.int pl] (q_pre dC dI sz [] [])) (va_Qi (fun (r : Int32) (u9 : Unit) => r = iw pl) (q_at dC dI (va_A [] sz) (fun (u9 : Unit) => []) (fun (u9 : Unit) => [])) (va_A [] sz)) 0 0 (va_A [] sz) := by
  refine Met.ofW (cc := cX5_isWord) (maxL := 1) (ret := (some .boolean)) (by decide) rfl ?_
  intro p e s m args below meth c s₁ B hml hv
  obtain ⟨rfl, hsz, hP, hK, hD0, hN⟩ := hv
  have hx := B.exec
  have hb := B.bytes
  have hr := B.returns
  have hts := atoms_spec (ws := wsX5_isWord) B.pre
  have hown : s.vm.findClass RX5 = some m.cls := findClass_of_methodNamed B.named
  have hlocks := B.notSynchronized
  subst hsz
  have hD := hD0.self (sz := s.heap.size)
  generalize hAe : va_A [] s.heap.size = A at hD ⊢
  have hA : ∀ q : Nat, s.heap.size ≤ q → A q := fun q h => by rw [← hAe]; exact Or.inr h
  have hS : va_S A s.heap s.heap [] := va_S.rf
  have hP : va_P (dC, dI) vwCl [] s.heap := hP
  have hl := lv_entry ([.int pl]) (n := 1) (Nat.le_of_ble_eq_true rfl)
  rw [lg_entry_eq]
  generalize (lg_sl ([.int pl]) ++ List.replicate (1 - (lg_sl ([.int pl])).length) Slot.unset).toArray = ls at hl ⊢
  have hl : lv_has ls 1 [(0, .int pl)] := hl
  refine lv_iload_n hx hb dX5_isWord_0 rfl (lv_at hl 0 rfl) ?_
  refine lv_if_lt (tgt := 21) hx hb dX5_isWord_1 (by decide) (fun c_1 => ?_) (fun c_1 => ?_)
  · refine lv_iconst (v := 0) hx hb dX5_isWord_21 (by decide) ?_
    have hP9 := hP.sub (ws' := []) [] rfl
    have hD9 := hD.sub (ws' := []) [] (by decide) rfl
    have hK9 := hK.sub (tys' := []) [] rfl
    exact W.zret (v := 0) (ty := .boolean) hx hb hr (by decide) (fun t ht hW => ⟨⟨0, (), rfl, (by simp [iw, c_1]), by rw [ht]; exact hP9, va_K.moved hW.alike hK9, hD9⟩, hS.F ht⟩) hS.2.2 dX5_isWord_22
  · refine lv_iload_n hx hb dX5_isWord_4 rfl (lv_at hl 0 rfl) ?_
    refine lv_sipush (v := 4096) hx hb dX5_isWord_5 (by decide) ?_
    refine lv_icmp_ge (tgt := 21) hx hb dX5_isWord_8 (by decide) (fun c_2 => ?_) (fun c_2 => ?_)
    · refine lv_iconst (v := 0) hx hb dX5_isWord_21 (by decide) ?_
      have hP9 := hP.sub (ws' := []) [] rfl
      have hD9 := hD.sub (ws' := []) [] (by decide) rfl
      have hK9 := hK.sub (tys' := []) [] rfl
      exact W.zret (v := 0) (ty := .boolean) hx hb hr (by decide) (fun t ht hW => ⟨⟨0, (), rfl, (by simp [iw, c_1, c_2]), by rw [ht]; exact hP9, va_K.moved hW.alike hK9, hD9⟩, hS.F ht⟩) hS.2.2 dX5_isWord_22
    · refine lv_iload_n hx hb dX5_isWord_11 rfl (lv_at hl 0 rfl) ?_
      refine lv_iconst (v := 2) hx hb dX5_isWord_12 (by decide) ?_
      refine lv_irem hx hb dX5_isWord_13 (by decide) ?_
      refine lv_if_ne (tgt := 21) hx hb dX5_isWord_14 (by decide) (fun c_3 => ?_) (fun c_3 => ?_)
      · refine lv_iconst (v := 0) hx hb dX5_isWord_21 (by decide) ?_
        have hP9 := hP.sub (ws' := []) [] rfl
        have hD9 := hD.sub (ws' := []) [] (by decide) rfl
        have hK9 := hK.sub (tys' := []) [] rfl
        exact W.zret (v := 0) (ty := .boolean) hx hb hr (by decide) (fun t ht hW => ⟨⟨0, (), rfl, (by simp [iw, c_1, c_2, c_3]), by rw [ht]; exact hP9, va_K.moved hW.alike hK9, hD9⟩, hS.F ht⟩) hS.2.2 dX5_isWord_22
      · refine lv_iconst (v := 1) hx hb dX5_isWord_17 (by decide) ?_
        refine lv_goto (tgt := 22) hx hb dX5_isWord_18 (by decide) ?_
        have hP9 := hP.sub (ws' := []) [] rfl
        have hD9 := hD.sub (ws' := []) [] (by decide) rfl
        have hK9 := hK.sub (tys' := []) [] rfl
        exact W.zret (v := 1) (ty := .boolean) hx hb hr (by decide) (fun t ht hW => ⟨⟨1, (), rfl, (by simp [iw, c_1, c_2, c_3]), by rw [ht]; exact hP9, va_K.moved hW.alike hK9, hD9⟩, hS.F ht⟩) hS.2.2 dX5_isWord_22
set_option maxHeartbeats 4000000 in
set_option maxRecDepth 100000 in
theorem c_X5_wordAt (l : Launch) (dC : Nat → ClassId) (dI : Nat → Nat → Nat) (sz : Nat) (m0 : Nat) (mB : Nat) (mR : Nat) (mO : Nat) (mN : Nat) (cY : ClassId) (pl : Int32) (h91 : vp_in pl 4096) (h92 : vp_in (pl + 1) 4096) : Met l yX5_wordAt wsX5_wordAt ({ frames := 0, cells := 0, slots := 0, locals := 0 }) (va_Pc [.ref m0, .int pl] (q_pre dC dI sz [(m0, .inr (5, [.int 0, .ref mB, .ref mR, .int 0, .ref mO, .int 0, .int 0, .ref mN, .int 0, .int 0, .int 0, .int 0, .int 0, .int 0, .int 0, .int 0, .int 0])), (mB, .inl (cY, 4096, .inl (fun _ => 0)))] [(cY, .int)])) (va_Qi (fun (r : Int32) (u9 : Unit) => r = 0) (q_at dC dI (va_A [(m0, .inr (5, [.int 0, .ref mB, .ref mR, .int 0, .ref mO, .int 0, .int 0, .ref mN, .int 0, .int 0, .int 0, .int 0, .int 0, .int 0, .int 0, .int 0, .int 0])), (mB, .inl (cY, 4096, .inl (fun _ => 0)))] sz) (fun (u9 : Unit) => [(cY, .int)]) (fun (u9 : Unit) => [(m0, .inr (5, [.int 0, .ref mB, .ref mR, .int 0, .ref mO, .int 0, .int 0, .ref mN, .int 0, .int 0, .int 0, .int 0, .int 0, .int 0, .int 0, .int 0, .int 0])), (mB, .inl (cY, 4096, .inl (fun _ => 0)))])) (va_A [(m0, .inr (5, [.int 0, .ref mB, .ref mR, .int 0, .ref mO, .int 0, .int 0, .ref mN, .int 0, .int 0, .int 0, .int 0, .int 0, .int 0, .int 0, .int 0, .int 0])), (mB, .inl (cY, 4096, .inl (fun _ => 0)))] sz)) 0 0 (va_A [(m0, .inr (5, [.int 0, .ref mB, .ref mR, .int 0, .ref mO, .int 0, .int 0, .ref mN, .int 0, .int 0, .int 0, .int 0, .int 0, .int 0, .int 0, .int 0, .int 0])), (mB, .inl (cY, 4096, .inl (fun _ => 0)))] sz) := by
  refine Met.ofW (cc := cX5_wordAt) (maxL := 2) (ret := (some .int)) (by decide) rfl ?_
  intro p e s m args below meth c s₁ B hml hv
  obtain ⟨rfl, hsz, hP, hK, hD0, hN⟩ := hv
  have hx := B.exec
  have hb := B.bytes
  have hr := B.returns
  have hts := atoms_spec (ws := wsX5_wordAt) B.pre
  have hown : s.vm.findClass RX5 = some m.cls := findClass_of_methodNamed B.named
  have hlocks := B.notSynchronized
  subst hsz
  have hD := hD0.self (sz := s.heap.size)
  generalize hAe : va_A [(m0, .inr (5, [.int 0, .ref mB, .ref mR, .int 0, .ref mO, .int 0, .int 0, .ref mN, .int 0, .int 0, .int 0, .int 0, .int 0, .int 0, .int 0, .int 0, .int 0])), (mB, .inl (cY, 4096, .inl (fun _ => 0)))] s.heap.size = A at hD ⊢
  have hA : ∀ q : Nat, s.heap.size ≤ q → A q := fun q h => by rw [← hAe]; exact Or.inr h
  have hS : va_S A s.heap s.heap [] := va_S.rf
  have hP : va_P (dC, dI) vwCl [(m0, .inr (5, [.int 0, .ref mB, .ref mR, .int 0, .ref mO, .int 0, .int 0, .ref mN, .int 0, .int 0, .int 0, .int 0, .int 0, .int 0, .int 0, .int 0, .int 0])), (mB, .inl (cY, 4096, .inl (fun _ => 0)))] s.heap := hP
  have hl := lv_entry ([.ref m0, .int pl]) (n := 2) (Nat.le_of_ble_eq_true rfl)
  rw [lg_entry_eq]
  generalize (lg_sl ([.ref m0, .int pl]) ++ List.replicate (2 - (lg_sl ([.ref m0, .int pl])).length) Slot.unset).toArray = ls at hl ⊢
  have hl : lv_has ls 2 [(0, .ref m0), (1, .int pl)] := hl
  refine lv_aload_n hx hb dX5_wordAt_0 rfl (lv_at hl 0 rfl) ?_
  refine va_get (D := (dC, dI)) (ci := 5) (v := .ref mB) (C := RX5) (T := TX5) (N := 17) hx hb hts (by decide +kernel) hown hK hP 0 rfl rfl 1 (by decide) (hts (.fieldLink RX5 7 "WordGuestModel" "bytes" "[I") (by decide +kernel)) (fun _ h9 => h9) rfl dX5_wordAt_1 ?_
  refine lv_iload_n hx hb dX5_wordAt_4 rfl (lv_at hl 1 rfl) ?_
  refine va_iald hx hb hK hP 1 0 rfl rfl h91 dX5_wordAt_5 ?_
  refine q_toc (y := 0) rfl ?_
  refine lv_aload_n hx hb dX5_wordAt_6 rfl (lv_at hl 0 rfl) ?_
  refine va_get (D := (dC, dI)) (ci := 5) (v := .ref mB) (C := RX5) (T := TX5) (N := 17) hx hb hts (by decide +kernel) hown hK hP 0 rfl rfl 1 (by decide) (hts (.fieldLink RX5 7 "WordGuestModel" "bytes" "[I") (by decide +kernel)) (fun _ h9 => h9) rfl dX5_wordAt_7 ?_
  refine lv_iload_n hx hb dX5_wordAt_10 rfl (lv_at hl 1 rfl) ?_
  refine lv_iconst (v := 1) hx hb dX5_wordAt_11 (by decide) ?_
  refine lv_iadd hx hb dX5_wordAt_12 ?_
  refine va_iald hx hb hK hP 1 0 rfl rfl h92 dX5_wordAt_13 ?_
  refine q_toc (y := 0) rfl ?_
  refine lv_bipush (v := 8) hx hb dX5_wordAt_14 (by decide) ?_
  refine lv_ishl hx hb dX5_wordAt_16 ?_
  refine q_toc (y := 0) (by decide) ?_
  refine lv_ior hx hb dX5_wordAt_17 ?_
  refine q_toc (y := 0) (by decide) ?_
  have hP9 := hP.sub (ws' := [(m0, .inr (5, [.int 0, .ref mB, .ref mR, .int 0, .ref mO, .int 0, .int 0, .ref mN, .int 0, .int 0, .int 0, .int 0, .int 0, .int 0, .int 0, .int 0, .int 0])), (mB, .inl (cY, 4096, .inl (fun _ => 0)))]) [0, 1] rfl
  have hD9 := hD.sub (ws' := [(m0, .inr (5, [.int 0, .ref mB, .ref mR, .int 0, .ref mO, .int 0, .int 0, .ref mN, .int 0, .int 0, .int 0, .int 0, .int 0, .int 0, .int 0, .int 0, .int 0])), (mB, .inl (cY, 4096, .inl (fun _ => 0)))]) [0, 1] (by decide) rfl
  have hK9 := hK.sub (tys' := [(cY, .int)]) [0] rfl
  exact W.iret (v := 0) hx hb hr (fun t ht hW => ⟨⟨0, (), rfl, (by decide), by rw [ht]; exact hP9, va_K.moved hW.alike hK9, hD9⟩, hS.F ht⟩) hS.2.2 dX5_wordAt_18
set_option maxHeartbeats 4000000 in
set_option maxRecDepth 100000 in
theorem c_X5_setWord (l : Launch) (dC : Nat → ClassId) (dI : Nat → Nat → Nat) (sz : Nat) (m0 : Nat) (mB : Nat) (mR : Nat) (mO : Nat) (mN : Nat) (cY : ClassId) (bf : Nat → Int32) (pl : Int32) (v : Int32) (h91 : vp_in pl 4096) (h92 : vp_in (pl + 1) 4096) : Met l yX5_setWord wsX5_setWord ({ frames := 0, cells := 0, slots := 0, locals := 0 }) (va_Pc [.ref m0, .int pl, .int v] (q_pre dC dI sz [(m0, .inr (5, [.int 0, .ref mB, .ref mR, .int 0, .ref mO, .int 0, .int 0, .ref mN, .int 0, .int 0, .int 0, .int 0, .int 0, .int 0, .int 0, .int 0, .int 0])), (mB, .inl (cY, 4096, .inl bf))] [(cY, .int)])) (va_Qv (fun (u9 : (Nat → Int32)) => True) (q_at dC dI (va_A [(m0, .inr (5, [.int 0, .ref mB, .ref mR, .int 0, .ref mO, .int 0, .int 0, .ref mN, .int 0, .int 0, .int 0, .int 0, .int 0, .int 0, .int 0, .int 0, .int 0])), (mB, .inl (cY, 4096, .inl bf))] sz) (fun (u9 : (Nat → Int32)) => [(cY, .int)]) (fun (u9 : (Nat → Int32)) => [(m0, .inr (5, [.int 0, .ref mB, .ref mR, .int 0, .ref mO, .int 0, .int 0, .ref mN, .int 0, .int 0, .int 0, .int 0, .int 0, .int 0, .int 0, .int 0, .int 0])), (mB, .inl (cY, 4096, .inl u9))])) (va_A [(m0, .inr (5, [.int 0, .ref mB, .ref mR, .int 0, .ref mO, .int 0, .int 0, .ref mN, .int 0, .int 0, .int 0, .int 0, .int 0, .int 0, .int 0, .int 0, .int 0])), (mB, .inl (cY, 4096, .inl bf))] sz)) 0 0 (va_A [(m0, .inr (5, [.int 0, .ref mB, .ref mR, .int 0, .ref mO, .int 0, .int 0, .ref mN, .int 0, .int 0, .int 0, .int 0, .int 0, .int 0, .int 0, .int 0, .int 0])), (mB, .inl (cY, 4096, .inl bf))] sz) := by
  refine Met.ofW (cc := cX5_setWord) (maxL := 3) (ret := none) (by decide) rfl ?_
  intro p e s m args below meth c s₁ B hml hv
  obtain ⟨rfl, hsz, hP, hK, hD0, hN⟩ := hv
  have hx := B.exec
  have hb := B.bytes
  have hr := B.returns
  have hts := atoms_spec (ws := wsX5_setWord) B.pre
  have hown : s.vm.findClass RX5 = some m.cls := findClass_of_methodNamed B.named
  have hlocks := B.notSynchronized
  subst hsz
  have hD := hD0.self (sz := s.heap.size)
  generalize hAe : va_A [(m0, .inr (5, [.int 0, .ref mB, .ref mR, .int 0, .ref mO, .int 0, .int 0, .ref mN, .int 0, .int 0, .int 0, .int 0, .int 0, .int 0, .int 0, .int 0, .int 0])), (mB, .inl (cY, 4096, .inl bf))] s.heap.size = A at hD ⊢
  have hA : ∀ q : Nat, s.heap.size ≤ q → A q := fun q h => by rw [← hAe]; exact Or.inr h
  have hS : va_S A s.heap s.heap [] := va_S.rf
  have hP : va_P (dC, dI) vwCl [(m0, .inr (5, [.int 0, .ref mB, .ref mR, .int 0, .ref mO, .int 0, .int 0, .ref mN, .int 0, .int 0, .int 0, .int 0, .int 0, .int 0, .int 0, .int 0, .int 0])), (mB, .inl (cY, 4096, .inl bf))] s.heap := hP
  have hl := lv_entry ([.ref m0, .int pl, .int v]) (n := 3) (Nat.le_of_ble_eq_true rfl)
  rw [lg_entry_eq]
  generalize (lg_sl ([.ref m0, .int pl, .int v]) ++ List.replicate (3 - (lg_sl ([.ref m0, .int pl, .int v])).length) Slot.unset).toArray = ls at hl ⊢
  have hl : lv_has ls 3 [(0, .ref m0), (1, .int pl), (2, .int v)] := hl
  refine lv_aload_n hx hb dX5_setWord_0 rfl (lv_at hl 0 rfl) ?_
  refine va_get (D := (dC, dI)) (ci := 5) (v := .ref mB) (C := RX5) (T := TX5) (N := 17) hx hb hts (by decide +kernel) hown hK hP 0 rfl rfl 1 (by decide) (hts (.fieldLink RX5 7 "WordGuestModel" "bytes" "[I") (by decide +kernel)) (fun _ h9 => h9) rfl dX5_setWord_1 ?_
  refine lv_iload_n hx hb dX5_setWord_4 rfl (lv_at hl 1 rfl) ?_
  refine lv_iload_n hx hb dX5_setWord_5 rfl (lv_at hl 2 rfl) ?_
  refine lv_sipush (v := 255) hx hb dX5_setWord_6 (by decide) ?_
  refine lv_iand hx hb dX5_setWord_9 ?_
  refine va_iast hx hb hK hP hD hS 1 0 rfl rfl h91 dX5_setWord_10 (fun H locs hP hD hS => ?_)
  have hP : va_P (dC, dI) vwCl [(m0, .inr (5, [.int 0, .ref mB, .ref mR, .int 0, .ref mO, .int 0, .int 0, .ref mN, .int 0, .int 0, .int 0, .int 0, .int 0, .int 0, .int 0, .int 0, .int 0])), (mB, .inl (cY, 4096, .inl (upd bf pl.toNatClampNeg (v &&& 255))))] H := hP
  have hD : va_D A [(m0, .inr (5, [.int 0, .ref mB, .ref mR, .int 0, .ref mO, .int 0, .int 0, .ref mN, .int 0, .int 0, .int 0, .int 0, .int 0, .int 0, .int 0, .int 0, .int 0])), (mB, .inl (cY, 4096, .inl (upd bf pl.toNatClampNeg (v &&& 255))))] := hD
  generalize (upd bf pl.toNatClampNeg (v &&& 255)) = g_1 at hP hD
  refine lv_aload_n hx hb dX5_setWord_11 rfl (lv_at hl 0 rfl) ?_
  refine va_get (D := (dC, dI)) (ci := 5) (v := .ref mB) (C := RX5) (T := TX5) (N := 17) hx hb hts (by decide +kernel) hown hK hP 0 rfl rfl 1 (by decide) (hts (.fieldLink RX5 7 "WordGuestModel" "bytes" "[I") (by decide +kernel)) (fun _ h9 => h9) rfl dX5_setWord_12 ?_
  refine lv_iload_n hx hb dX5_setWord_15 rfl (lv_at hl 1 rfl) ?_
  refine lv_iconst (v := 1) hx hb dX5_setWord_16 (by decide) ?_
  refine lv_iadd hx hb dX5_setWord_17 ?_
  refine lv_iload_n hx hb dX5_setWord_18 rfl (lv_at hl 2 rfl) ?_
  refine lv_bipush (v := 8) hx hb dX5_setWord_19 (by decide) ?_
  refine lv_ishr hx hb dX5_setWord_21 ?_
  refine lv_sipush (v := 255) hx hb dX5_setWord_22 (by decide) ?_
  refine lv_iand hx hb dX5_setWord_25 ?_
  refine va_iast hx hb hK hP hD hS 1 0 rfl rfl h92 dX5_setWord_26 (fun H locs hP hD hS => ?_)
  have hP : va_P (dC, dI) vwCl [(m0, .inr (5, [.int 0, .ref mB, .ref mR, .int 0, .ref mO, .int 0, .int 0, .ref mN, .int 0, .int 0, .int 0, .int 0, .int 0, .int 0, .int 0, .int 0, .int 0])), (mB, .inl (cY, 4096, .inl (upd g_1 (pl + 1).toNatClampNeg ((v >>> (8 &&& 31)) &&& 255))))] H := hP
  have hD : va_D A [(m0, .inr (5, [.int 0, .ref mB, .ref mR, .int 0, .ref mO, .int 0, .int 0, .ref mN, .int 0, .int 0, .int 0, .int 0, .int 0, .int 0, .int 0, .int 0, .int 0])), (mB, .inl (cY, 4096, .inl (upd g_1 (pl + 1).toNatClampNeg ((v >>> (8 &&& 31)) &&& 255))))] := hD
  generalize (upd g_1 (pl + 1).toNatClampNeg ((v >>> (8 &&& 31)) &&& 255)) = g_2 at hP hD
  have hP9 := hP.sub (ws' := [(m0, .inr (5, [.int 0, .ref mB, .ref mR, .int 0, .ref mO, .int 0, .int 0, .ref mN, .int 0, .int 0, .int 0, .int 0, .int 0, .int 0, .int 0, .int 0, .int 0])), (mB, .inl (cY, 4096, .inl g_2))]) [0, 1] rfl
  have hD9 := hD.sub (ws' := [(m0, .inr (5, [.int 0, .ref mB, .ref mR, .int 0, .ref mO, .int 0, .int 0, .ref mN, .int 0, .int 0, .int 0, .int 0, .int 0, .int 0, .int 0, .int 0, .int 0])), (mB, .inl (cY, 4096, .inl g_2))]) [0, 1] (by decide) rfl
  have hK9 := hK.sub (tys' := [(cY, .int)]) [0] rfl
  exact W.vret hx hb hr (fun t ht hW => ⟨⟨g_2, rfl, trivial, by rw [ht]; exact hP9, va_K.moved hW.alike hK9, hD9⟩, hS.F ht⟩) hS.2.2 dX5_setWord_27
