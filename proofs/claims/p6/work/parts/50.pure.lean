def isW (x : Int32) : Prop := ∃ j : Nat, j < 65536 ∧ x = nI j
def isB (x : Int32) : Prop := ∃ j : Nat, j < 256 ∧ x = nI j
def okW (f : Nat → Int32) : Prop := ∀ i : Nat, i < 8 → isW (f i)
def okB (f : Nat → Int32) : Prop := ∀ i : Nat, i < 4096 → isB (f i)
def okF (x : Int32) : Prop := x = 0 ∨ 0 < x
def okN (ft : Int32) (f : Nat → Int32) : Prop := 0 < ft ∨ okW f
def AT (ft ar ap : Int32) : Prop := vp_in ar 8 ∨ (ar = -1 ∧ (0 < ft ∨ isW ap))
def WR (ws wp : Int32) : Prop := ws = 0 ∨ (ws = 1 ∧ vp_in wp 4096) ∨ (ws = 2 ∧ vp_in wp 4096 ∧ vp_in (wp + 1) 4096)
theorem isW_and (x : Int32) : isW (x &&& 65535) := by
  obtain ⟨j, hj, e⟩ := pk_andE x (m := 65535) 16 (by decide)
  exact ⟨j, hj, e⟩
theorem isB_and (x : Int32) : isB (x &&& 255) := by
  obtain ⟨j, hj, e⟩ := pk_andE x (m := 255) 8 (by decide)
  exact ⟨j, hj, e⟩
theorem isB_W {x : Int32} (h : isB x) : isW x := by
  obtain ⟨j, hj, e⟩ := h
  exact ⟨j, by omega, e⟩
theorem okW_upd {f : Nat → Int32} (h : okW f) {v : Int32} (hv : isW v) (k : Nat) : okW (upd f k v) := by
  intro i hi
  unfold upd
  split
  · exact hv
  · exact h i hi
theorem okB_upd {f : Nat → Int32} (h : okB f) {v : Int32} (hv : isB v) (k : Nat) : okB (upd f k v) := by
  intro i hi
  unfold upd
  split
  · exact hv
  · exact h i hi
theorem okN_upd {ft : Int32} {f : Nat → Int32} (h : okN ft f) {v : Int32} (hv : isW v) (k : Nat) : okN ft (upd f k v) := h.elim Or.inl (fun q => Or.inr (okW_upd q hv k))
theorem in_lt {x : Int32} {n : Nat} (h : vp_in x n) : x.toNatClampNeg < n := Nat.not_le.mp fun q => h (Or.inr q)
theorem okN_cp {ft : Int32} {f : Nat → Int32} (h : okN ft f) {x : Int32} (hx : vp_in x 8) (k : Nat) : okN ft (upd f k (f x.toNatClampNeg)) := h.elim Or.inl (fun q => Or.inr (okW_upd q (q _ (in_lt hx)) k))
theorem okN_at {ft : Int32} {f : Nat → Int32} (h : okN ft f) (hn : ¬ 0 < ft) {x : Int32} (hx : vp_in x 8) : isW (f x.toNatClampNeg) := h.elim (fun q => absurd q hn) (fun q => q _ (in_lt hx))
theorem okB_at {f : Nat → Int32} (h : okB f) {x : Int32} (hx : vp_in x 4096) : isB (f x.toNatClampNeg) := h _ (in_lt hx)
theorem okN_mono {ft ft2 : Int32} {f : Nat → Int32} (h : okN ft f) (hm : 0 < ft → 0 < ft2) : okN ft2 f := h.elim (fun q => Or.inl (hm q)) Or.inr
theorem AT_mono {ft ft2 ar ap : Int32} (h : AT ft ar ap) (hm : 0 < ft → 0 < ft2) : AT ft2 ar ap := h.elim Or.inl (fun q => Or.inr ⟨q.1, q.2.elim (fun z => Or.inl (hm z)) Or.inr⟩)
theorem AT_in {ft ar ap : Int32} (h : AT ft ar ap) (hn : ¬ ar = -1) : vp_in ar 8 := h.elim id (fun q => absurd q.1 hn)
theorem AT_pl {ft ar ap : Int32} (h : AT ft ar ap) (he : ar = -1) : 0 < ft ∨ isW ap := h.elim (fun q => absurd q (by rw [he]; unfold vp_in; decide)) (fun q => q.2)
theorem okF_ne {x : Int32} (h : okF x) (hn : ¬ x = 0) : 0 < x := h.elim (fun q => absurd q hn) id
theorem fz {x : Int32} (h : x = 0) : ¬ 0 < x := by rw [h]; decide
theorem fle {x : Int32} (h : x ≤ 0) : ¬ 0 < x := Int32.not_lt.mpr h
theorem fnle {x : Int32} (h : ¬ x ≤ 0) : 0 < x := Int32.not_le.mp h
theorem okF_z {x : Int32} (h : okF x) (hn : ¬ 0 < x) : x = 0 := h.elim id (fun q => absurd q hn)
theorem isW_toInt {x : Int32} (h : isW x) : 0 ≤ x.toInt ∧ x.toInt < 65536 := by
  obtain ⟨j, hj, rfl⟩ := h
  rw [nI_toInt (by omega)]
  omega
theorem W_in {x : Int32} (h : isW x) (hn : x < 4096) : vp_in x 4096 := by
  have := isW_toInt h
  simp only [Int32.lt_iff_toInt_lt] at hn
  have h2 : x.toInt < 4096 := by simpa using hn
  exact vp_in_iff.mpr ⟨this.1, by show _ < (4096 : Int); exact h2⟩
theorem W_in1 {x : Int32} (h : isW x) (hn : x < 4096) (he : ¬ x - x / 2 * 2 = 1) : vp_in (x + 1) 4096 := by
  have hw := isW_toInt h
  simp only [Int32.lt_iff_toInt_lt] at hn
  have h2 : x.toInt < 4096 := by simpa using hn
  have h3 : (x + 1).toInt = x.toInt + 1 := by
    rw [Int32.toInt_add, show (1 : Int32).toInt = 1 from rfl]
    apply Int.bmod_eq_of_le <;> omega
  have h4 : x.toInt % 2 ≠ 1 := by
    intro q
    apply he
    rw [← Int32.toInt_inj, rem_toInt, show (2 : Int32).toInt = 2 from rfl, show (1 : Int32).toInt = 1 from rfl, Int.tmod_eq_emod_of_nonneg hw.1]
    exact q
  exact vp_in_iff.mpr ⟨by rw [h3]; omega, by rw [h3]; show _ < (4096 : Int); omega⟩
theorem isW_16 {x : Int32} (h : x &&& 65535 = x) : isW x := by rw [← h]; exact isW_and x
theorem isW_pair {a b : Int32} (ha : isB a) (hb : isB b) : isW (a ||| (b <<< (8 &&& 31))) := by
  obtain ⟨i, hi, rfl⟩ := ha
  obtain ⟨j, hj, rfl⟩ := hb
  rw [show ((8 : Int32) &&& 31) = 8 from rfl, pk_shlN (n := j) 8 8 (by decide) (by omega)]
  obtain ⟨k, hk⟩ : ∃ k, k = j * 2 ^ 8 := ⟨_, rfl⟩
  rw [← hk]
  refine ⟨i ||| k, Nat.or_lt_two_pow (n := 16) (by omega) (by omega), ?_⟩
  apply Int32.toBitVec_inj.mp
  rw [Int32.toBitVec_or]
  unfold nI
  simp [Int32.toBitVec_ofNat, BitVec.ofNat_or]
theorem isW_lo (a v : Int32) : isW ((a &&& 65280) ||| (v &&& 255)) := by
  apply isW_16
  apply Int32.toBitVec_inj.mp
  simp only [Int32.toBitVec_and, Int32.toBitVec_or]
  show ((a.toBitVec &&& 65280#32) ||| (v.toBitVec &&& 255#32)) &&& 65535#32 = (a.toBitVec &&& 65280#32) ||| (v.toBitVec &&& 255#32)
  apply BitVec.eq_of_getLsbD_eq
  intro i hi
  simp only [BitVec.getLsbD_and, BitVec.getLsbD_or]
  rcases (show i < 16 ∨ 16 ≤ i by omega) with q | q
  · have e : (65535#32).getLsbD i = true := (by decide : ∀ i : Fin 16, (65535#32).getLsbD i.val = true) ⟨i, q⟩
    rw [e, Bool.and_true]
  · have e1 : (65280#32).getLsbD i = false := (by decide : ∀ k : Fin 16, (65280#32).getLsbD (16 + k.val) = false) ⟨i - 16, by omega⟩ |> fun h => by simpa [show 16 + (i - 16) = i by omega] using h
    have e2 : (255#32).getLsbD i = false := (by decide : ∀ k : Fin 16, (255#32).getLsbD (16 + k.val) = false) ⟨i - 16, by omega⟩ |> fun h => by simpa [show 16 + (i - 16) = i by omega] using h
    simp [e1, e2]
theorem isW_hi {a : Int32} (h : isB a) : isW (a ||| 65280) := by
  obtain ⟨j, hj, rfl⟩ := h
  refine ⟨j ||| 65280, Nat.or_lt_two_pow (n := 16) (by omega) (by omega), ?_⟩
  apply Int32.toBitVec_inj.mp
  rw [Int32.toBitVec_or]
  unfold nI
  rw [show (65280 : Int32) = Int32.ofNat 65280 from rfl]
  simp [Int32.toBitVec_ofNat, BitVec.ofNat_or]
