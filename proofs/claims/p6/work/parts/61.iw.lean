/-- is a word there -/
def iw (pl : Int32) : Int32 := if pl < 0 then 0 else if 4096 ≤ pl then 0 else if pl - pl / 2 * 2 = 0 then 1 else 0
theorem iw_facts {pl : Int32} (h : ¬ iw pl = 0) : 0 ≤ pl.toInt ∧ pl.toInt < 4096 ∧ pl.toInt.tmod 2 = 0 := by
  unfold iw at h
  by_cases h1 : pl < 0
  · simp [h1] at h
  · by_cases h2 : 4096 ≤ pl
    · simp [h1, h2] at h
    · by_cases h3 : pl - pl / 2 * 2 = 0
      · have a1 := Int32.not_lt.mp h1
        have a2 := Int32.not_le.mp h2
        simp only [Int32.le_iff_toInt_le, Int32.lt_iff_toInt_lt] at a1 a2
        have a3 := rem_toInt pl 2
        rw [h3] at a3
        refine ⟨by simpa using a1, by simpa using a2, ?_⟩
        simpa using a3.symm
      · simp [h1, h2, h3] at h
theorem iw_add {pl c : Int32} {k : Int} (hc : c.toInt = k) (h0 : 0 ≤ k) (hk : k < 100) (h : ¬ iw pl = 0) : (pl + c).toInt = pl.toInt + k := by
  obtain ⟨a, b, -⟩ := iw_facts h
  rw [Int32.toInt_add, hc]
  apply Int.bmod_eq_of_le <;> omega
theorem iw_in {pl : Int32} (h : ¬ iw pl = 0) : vp_in pl 4096 := by
  obtain ⟨a, b, -⟩ := iw_facts h
  exact vp_in_iff.mpr ⟨a, by simpa using b⟩
theorem iw_in1 {pl : Int32} (h : ¬ iw pl = 0) : vp_in (pl + 1) 4096 := by
  obtain ⟨a, b, e⟩ := iw_facts h
  have h1 := iw_add (c := 1) (k := 1) (by decide) (by decide) (by decide) h
  rw [Int.tmod_eq_emod_of_nonneg a] at e
  exact vp_in_iff.mpr ⟨by rw [h1]; omega, by rw [h1]; show _ < (4096 : Int); omega⟩
theorem iw_ink {pl c : Int32} {k : Int} (hc : c.toInt = k) (h0 : 0 ≤ k) (hk : k < 100) (h2 : k % 2 = 0) (h : ¬ iw pl = 0) (hn : ¬ 4096 ≤ pl + c) : vp_in (pl + c) 4096 ∧ vp_in (pl + c + 1) 4096 := by
  obtain ⟨a, b, e⟩ := iw_facts h
  have h1 := iw_add hc h0 hk h
  have a2 := Int32.not_le.mp hn
  simp only [Int32.lt_iff_toInt_lt] at a2
  have a3 : (pl + c).toInt < 4096 := by simpa using a2
  rw [Int.tmod_eq_emod_of_nonneg a] at e
  have h3 : (pl + c + 1).toInt = pl.toInt + k + 1 := by
    rw [Int32.toInt_add, h1, show (1 : Int32).toInt = 1 from by decide]
    apply Int.bmod_eq_of_le <;> omega
  exact ⟨vp_in_iff.mpr ⟨by rw [h1]; omega, by show _ < (4096 : Int); exact a3⟩, vp_in_iff.mpr ⟨by rw [h3]; omega, by rw [h3]; show _ < (4096 : Int); omega⟩⟩
def dn (x : Int32) : Int32 := if 4096 ≤ x then 0 else 1
theorem q_cmp0 {x y : Int64} (h : x = y) : lg_cmp x y = 0 := by
  subst h
  unfold lg_cmp
  simp
/-- the class's question of a place, and the reference's -/
theorem fw {x : Int32} : fa x 65535 = 0 ↔ ¬ iw x = 0 := by
  unfold fa iw fb
  have e : (x &&& 1 = 0) ↔ (x - x / 2 * 2 = 0) := by
    rw [← Int32.toBitVec_inj, ← Int32.toInt_inj, rem_toInt]
    have h1 : (x &&& 1).toBitVec = 0#32 ↔ x.toInt % 2 = 0 := by
      rw [Int32.toBitVec_and, show (1 : Int32).toBitVec = 1#32 from rfl, ← BitVec.toNat_inj, BitVec.toNat_and]
      simp only [BitVec.toNat_ofNat]
      rw [show (1 % 2 ^ 32 : Nat) = 2 ^ 1 - 1 from rfl, Nat.and_two_pow_sub_one_eq_mod]
      have h2 : x.toInt = x.toBitVec.toInt := rfl
      rw [h2, BitVec.toInt_eq_toNat_cond]
      split <;> omega
    rw [show (0 : Int32).toBitVec = 0#32 from rfl, h1, show (2 : Int32).toInt = 2 from rfl, show (0 : Int32).toInt = 0 from rfl]
    exact ⟨fun h => Int.tmod_eq_zero_of_dvd (Int.dvd_of_emod_eq_zero h), fun h => Int.emod_eq_zero_of_dvd (Int.dvd_of_tmod_eq_zero h)⟩
  by_cases h1 : x < 0
  · by_cases h4 : x &&& 1 = 0 <;> simp [h1, h4]
  · by_cases h2 : x < 4096
    · have h3 : ¬ 4096 ≤ x := Int32.not_le.mpr h2
      by_cases h4 : x &&& 1 = 0
      · simp [h1, h2, h3, h4, e.mp h4]
      · have h5 : ¬ x - x / 2 * 2 = 0 := fun h => h4 (e.mpr h)
        simp [h1, h2, h3, h4, h5]
    · have h3 : 4096 ≤ x := Int32.not_lt.mp h2
      by_cases h4 : x &&& 1 = 0 <;> simp [h1, h2, h3, h4]
theorem ct_dn {pl c : Int32} {k : Int} (hc : c.toInt = k) (h0 : 0 ≤ k) (hk : k < 100) (h2 : k % 2 = 0) (h : ¬ iw pl = 0) : ct (pl + c) = dn (pl + c) := by
  obtain ⟨a, b, e⟩ := iw_facts h
  have h1 := iw_add hc h0 hk h
  unfold ct dn
  by_cases hn : 4096 ≤ pl + c
  · have : ¬ fa (pl + c) 65535 = 0 := by
      unfold fa fb
      have : ¬ pl + c < 4096 := Int32.not_lt.mpr hn
      by_cases q1 : pl + c < 0 <;> by_cases q2 : (pl + c) &&& 1 = 0 <;> simp [q1, q2, this]
    rw [if_neg this, if_pos hn]
  · have hi : ¬ iw (pl + c) = 0 := by
      unfold iw
      have q1 : ¬ pl + c < 0 := by
        simp only [Int32.lt_iff_toInt_lt, h1]
        have : (0 : Int32).toInt = 0 := rfl
        omega
      have q3 : pl + c - (pl + c) / 2 * 2 = 0 := by
        rw [← Int32.toInt_inj, rem_toInt, h1, show (2 : Int32).toInt = 2 from rfl, show (0 : Int32).toInt = 0 from rfl]
        rw [Int.tmod_eq_emod_of_nonneg a] at e
        rw [Int.tmod_eq_emod_of_nonneg (by omega)]
        omega
      simp [q1, hn, q3]
    rw [if_pos (fw.mpr hi), if_neg hn]
theorem ld_eq {pl : Int32} (h : ¬ iw pl = 0) : ct pl + ct (pl + 2) + (ct (pl + 4) + ct (pl + 4 + 2)) + (ct (pl + 8) + ct (pl + 8 + 2)) + (ct (pl + 12) + ct (pl + 12 + 2)) + (ct (pl + 16) + ct (pl + 16 + 2)) = ((((((((((0 + dn (pl + 0)) + dn (pl + 2)) + dn (pl + 4)) + dn (pl + 6)) + dn (pl + 8)) + dn (pl + 10)) + dn (pl + 12)) + dn (pl + 14)) + dn (pl + 16)) + dn (pl + 18)) := by
  have e0 : ct pl = dn (pl + 0) := by rw [← ct_dn (c := 0) (k := 0) (by decide) (by decide) (by decide) (by decide) h, Int32.add_zero]
  have a4 : ∀ c d : Int32, pl + c + d = pl + (c + d) := fun c d => Int32.add_assoc pl c d
  rw [a4 4 2, a4 8 2, a4 12 2, a4 16 2, e0]
  rw [ct_dn (c := 2) (k := 2) (by decide) (by decide) (by decide) (by decide) h]
  rw [ct_dn (c := 4) (k := 4) (by decide) (by decide) (by decide) (by decide) h]
  rw [ct_dn (c := (4 + 2)) (k := 6) (by decide) (by decide) (by decide) (by decide) h]
  rw [ct_dn (c := 8) (k := 8) (by decide) (by decide) (by decide) (by decide) h]
  rw [ct_dn (c := (8 + 2)) (k := 10) (by decide) (by decide) (by decide) (by decide) h]
  rw [ct_dn (c := 12) (k := 12) (by decide) (by decide) (by decide) (by decide) h]
  rw [ct_dn (c := (12 + 2)) (k := 14) (by decide) (by decide) (by decide) (by decide) h]
  rw [ct_dn (c := 16) (k := 16) (by decide) (by decide) (by decide) (by decide) h]
  rw [ct_dn (c := (16 + 2)) (k := 18) (by decide) (by decide) (by decide) (by decide) h]
  simp only [show (4 : Int32) + 2 = 6 from rfl, show (8 : Int32) + 2 = 10 from rfl, show (12 : Int32) + 2 = 14 from rfl, show (16 : Int32) + 2 = 18 from rfl]
  simp only [Int32.add_assoc, Int32.zero_add]
theorem q_nl_in : ∀ w ∈ q_nl, w ∈ lw_tbl := by decide +kernel
