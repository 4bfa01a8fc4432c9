theorem goodIn_pq {big : List Cond} (ws : List Cond) (ps qs : List Nat) (hp : ws.filter k2_isCode = ps.filterMap (fun i => big[i]?)) (hq : ws.filter (fun w => !k2_isCode w) = qs.filterMap (fun i => big[i]?)) (h : (ws.filter (fun w => !k2_isCode w)).all goodWord = true) : GoodIn big ws := by
  intro w hw
  by_cases hc : k2_isCode w = true
  · have h1 : w ∈ ws.filter k2_isCode := List.mem_filter.mpr ⟨hw, hc⟩
    rw [hp] at h1
    obtain ⟨i, -, hi⟩ := List.mem_filterMap.mp h1
    refine ⟨List.mem_of_getElem? hi, ?_⟩
    cases w <;> first | (simp [k2_isCode] at hc; done) | exact Or.inl rfl
  · have h1 : w ∈ ws.filter (fun w => !k2_isCode w) := List.mem_filter.mpr ⟨hw, by simpa using hc⟩
    have h2 := List.all_eq_true.mp h w h1
    rw [hq] at h1
    obtain ⟨i, -, hi⟩ := List.mem_filterMap.mp h1
    exact ⟨List.mem_of_getElem? hi, good_of_word h2⟩
