theorem way_eq (w : Int32) : ((w &&& 63) >>> ((3 : Int32) &&& 31)) &&& 7 = (w >>> ((3 : Int32) &&& 31)) &&& 7 := by
  have h1 := pk_shr w ((3 : Int32) &&& 31) 3 (by decide)
  rw [pk_and w (m := 63) 6 (by decide), pk_shrN (by have := Nat.mod_lt w.toBitVec.toNat (show 0 < 2 ^ 6 by decide); omega) _ 3 (by decide), pk_andN (by have := Nat.mod_lt w.toBitVec.toNat (show 0 < 2 ^ 6 by decide); omega) 3 (by decide), pk_and (w >>> ((3 : Int32) &&& 31)) (m := 7) 3 (by decide)]
  have h2 : (w >>> ((3 : Int32) &&& 31)).toInt = (w >>> ((3 : Int32) &&& 31)).toBitVec.toInt := rfl
  have h3 : w.toInt = w.toBitVec.toInt := rfl
  rw [h2, h3, Int.shiftRight_eq_div_pow, BitVec.toInt_eq_toNat_cond, BitVec.toInt_eq_toNat_cond] at h1
  generalize (w >>> ((3 : Int32) &&& 31)).toBitVec.toNat = a at *
  generalize w.toBitVec.toNat = b at *
  have : b % 2 ^ 6 / 2 ^ 3 % 2 ^ 3 = a % 2 ^ 3 := by
    split at h1 <;> split at h1 <;> omega
  rw [this]
theorem okN_or {ft : Int32} {f : Nat → Int32} (h : okN ft f) {v : Int32} (hv : 0 < ft ∨ isW v) (k : Nat) : okN ft (upd f k v) := hv.elim Or.inl (fun q => okN_upd h q k)
theorem or_mono {a b : Int32} {P : Prop} (h : 0 < a ∨ P) (hm : 0 < a → 0 < b) : 0 < b ∨ P := h.elim (fun q => Or.inl (hm q)) Or.inr
theorem in_ev {x : Int32} (h : vp_in x 8) (he : ¬ x - x / 2 * 2 = 1) : vp_in (x + 1) 8 := by
  obtain ⟨j, hj, rfl⟩ := vp_in_of h (by decide)
  rcases (show j = 0 ∨ j = 1 ∨ j = 2 ∨ j = 3 ∨ j = 4 ∨ j = 5 ∨ j = 6 ∨ j = 7 by omega) with rfl | rfl | rfl | rfl | rfl | rfl | rfl | rfl <;> first | exact absurd (by decide) he | (unfold vp_in; decide)
theorem in_e0 {x : Int32} (h : vp_in x 8) (he : x - x / 2 * 2 = 0) : vp_in (x + 1) 8 := in_ev h (by rw [he]; decide)
def okP (k : Nat) (f : Nat → Int32) : Prop := ∀ i : Nat, i < k → isW (f i)
theorem okP_0 (f : Nat → Int32) : okP 0 f := fun i h => absurd h (Nat.not_lt_zero i)
theorem okP_s {k k2 : Nat} {f : Nat → Int32} (h : okP k f) {v : Int32} (hv : isW v) (e : k2 = k) : okP (k + 1) (upd f k2 v) := by
  intro i hi
  unfold upd
  split
  · exact hv
  · exact h i (by omega)
theorem WR_1 {ws wp : Int32} (h : WR ws wp) (e : ws = 1) : vp_in wp 4096 := by
  subst e
  rcases h with q | ⟨_, q⟩ | ⟨q, _⟩
  · exact absurd q (by decide)
  · exact q
  · exact absurd q (by decide)
theorem WR_2 {ws wp : Int32} (h : WR ws wp) (e : ws = 2) : vp_in wp 4096 ∧ vp_in (wp + 1) 4096 := by
  subst e
  rcases h with q | ⟨q, _⟩ | ⟨_, q⟩
  · exact absurd q (by decide)
  · exact absurd q (by decide)
  · exact q
theorem isW_sar {v : Int32} (h : isW v) : isW ((v >>> ((1 : Int32) &&& 31)) ||| (v &&& 32768)) := by
  obtain ⟨j, hj, rfl⟩ := h
  rw [pk_shrN (by omega) _ 1 (by decide)]
  obtain ⟨k, hk⟩ : ∃ k, k = j / 2 ^ 1 := ⟨_, rfl⟩
  rw [← hk]
  refine ⟨k ||| (j &&& 32768), Nat.or_lt_two_pow (n := 16) (by omega) (Nat.lt_of_le_of_lt Nat.and_le_left (by omega)), ?_⟩
  apply Int32.toBitVec_inj.mp
  rw [Int32.toBitVec_or, Int32.toBitVec_and]
  unfold nI
  rw [show (32768 : Int32) = Int32.ofNat 32768 from rfl]
  simp [Int32.toBitVec_ofNat, BitVec.ofNat_or, BitVec.ofNat_and]
theorem or_sar {ft v : Int32} (h : 0 < ft ∨ isW v) : 0 < ft ∨ isW ((v >>> ((1 : Int32) &&& 31)) ||| (v &&& 32768)) := h.elim Or.inl (fun q => Or.inr (isW_sar q))
