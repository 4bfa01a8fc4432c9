set_option maxHeartbeats 40000000 in
set_option maxRecDepth 100000 in
theorem law_exit {p : Program} {e : Env} {s : State} {m : MethodId} {below : List Frame} {meth : Method} {c : Code} {l : Launch} (hl0 : l.stackTraces = false) {b L : Nat} {xs : Nat → Int32} {A : Nat → Prop} {dC : Nat → ClassId} {dI : Nat → Nat → Nat} (hx : p.tables.exec = Jvm.exec) (hb : c.code = code) (hr : meth.sig.returnType = ret) (hml : c.maxLocals = 7) (hown : s.vm.findClass RL = some m.cls) (hts : ∀ w ∈ wsL_law, w.before #[Value.ref b] s = true) (hX : va_X b L xs s s.heap) (hbl : b < s.heap.size) (hlocks : meth.locks = false) (hAe : A = (fun q => s.heap.size ≤ q)) (hA : ∀ q : Nat, s.heap.size ≤ q → A q) (hbA : ¬ A b) (hL : L ≤ 3584) (hN : nst s) (hT : q_thr A s s.heap) {q9 : Nat} (hq9 : q9 ≤ 513) (hLq : ¬ 7 * q9 + 7 ≤ L) {H : Heap} {locs : List Loc} {ls : Array Slot} (hJ : lawJ dC dI A s b q9 H locs ls) : W p l e room_1 s m #[Value.ref b] below meth c H locs (15 + q9) (7010 + 6 * q9) (lw_Z below #[Value.ref b] s) (F0 m 23 ls []) := by
  obtain ⟨g0, aM, aP, st, aW, aT, cnt, cW, words, cT, told, aR, aF, aA, aB, fault, cA, regs, cB, regsB, fn, fz, fv, fc, m0, x_thrown, mB, mR, x_flags, mO, x_outCount, x_steps, mN, x_nowFlags, x_writePlace, x_writeSize, x_writeValue, x_fault, x_halt, x_isByte, x_atRegister, x_atPlace, cY, bf, cG, rf, cN, nf, cO, uf, ho, cL, of, h4, hO, hB, hR, hK, hP, hD, hS, hl⟩ := hJ
  refine lv_iload hx hb dL_law_23 (lv_at hl 0 rfl) ?_
  refine lv_aload_n hx hb dL_law_25 rfl (lv_at hl 4 rfl) ?_
  refine va_slen hx hb hX hbl hbA hS dL_law_26 ?_
  refine lv_bipush (v := 7) hx hb dL_law_27 (by decide) ?_
  refine lv_isub hx hb dL_law_29 ?_
  refine lv_icmp_gt (tgt := 473) hx hb dL_law_30 (by decide) (fun c_1 => ?_) (fun c9 => absurd (sx_gt hL hq9 hLq) c9)
  refine lv_iconst (v := 1) hx hb dL_law_473 (by decide) ?_
  refine va_forget (fun q hq => by have h9 := hS.2.2 q hq; rw [hAe] at h9; exact h9) ?_
  refine W.widen (k := 1043) (n := 15226) (by omega) (by omega) ?_
  exact lw_ret hx hb hr hlocks dL_law_474
set_option maxHeartbeats 40000000 in
set_option maxRecDepth 100000 in
theorem law_turn {p : Program} {e : Env} {s : State} {m : MethodId} {below : List Frame} {meth : Method} {c : Code} {l : Launch} (hl0 : l.stackTraces = false) {b L : Nat} {xs : Nat → Int32} {A : Nat → Prop} {dC : Nat → ClassId} {dI : Nat → Nat → Nat} (hx : p.tables.exec = Jvm.exec) (hb : c.code = code) (hr : meth.sig.returnType = ret) (hml : c.maxLocals = 7) (hown : s.vm.findClass RL = some m.cls) (hts : ∀ w ∈ wsL_law, w.before #[Value.ref b] s = true) (hX : va_X b L xs s s.heap) (hbl : b < s.heap.size) (hlocks : meth.locks = false) (hAe : A = (fun q => s.heap.size ≤ q)) (hA : ∀ q : Nat, s.heap.size ≤ q → A q) (hbA : ¬ A b) (hL : L ≤ 3584) (hN : nst s) (hT : q_thr A s s.heap) {q9 : Nat} (hq9 : q9 ≤ 512) (hLq : 7 * q9 + 7 ≤ L) (ih : ∀ (H : Heap) (locs : List Loc) (ls : Array Slot), lawJ dC dI A s b (q9 + 1) H locs ls → W p l e room_1 s m #[Value.ref b] below meth c H locs (15 + (q9 + 1)) (7010 + 6 * (q9 + 1)) (lw_Z below #[Value.ref b] s) (F0 m 23 ls [])) {H : Heap} {locs : List Loc} {ls : Array Slot} (hJ : lawJ dC dI A s b q9 H locs ls) : W p l e room_1 s m #[Value.ref b] below meth c H locs (15 + q9) (7010 + 6 * q9) (lw_Z below #[Value.ref b] s) (F0 m 23 ls []) := by
  obtain ⟨g0, aM, aP, st, aW, aT, cnt, cW, words, cT, told, aR, aF, aA, aB, fault, cA, regs, cB, regsB, fn, fz, fv, fc, m0, x_thrown, mB, mR, x_flags, mO, x_outCount, x_steps, mN, x_nowFlags, x_writePlace, x_writeSize, x_writeValue, x_fault, x_halt, x_isByte, x_atRegister, x_atPlace, cY, bf, cG, rf, cN, nf, cO, uf, ho, cL, of, h4, hO, hB, hR, hK, hP, hD, hS, hl⟩ := hJ
  refine lv_iload hx hb dL_law_23 (lv_at hl 0 rfl) ?_
  refine lv_aload_n hx hb dL_law_25 rfl (lv_at hl 4 rfl) ?_
  refine va_slen hx hb hX hbl hbA hS dL_law_26 ?_
  refine lv_bipush (v := 7) hx hb dL_law_27 (by decide) ?_
  refine lv_isub hx hb dL_law_29 ?_
  refine lv_icmp_gt (tgt := 473) hx hb dL_law_30 (by decide) (fun c9 => absurd c9 (sx_ngt hL hLq)) (fun c_1 => ?_)
  refine lv_aload_n hx hb dL_law_33 rfl (lv_at hl 4 rfl) ?_
  refine lv_iload hx hb dL_law_34 (lv_at hl 0 rfl) ?_
  refine va_sld hx hb hX hbl hbA hS (sx_0 hLq hL) dL_law_36 ?_
  refine lv_bipush (v := 15) hx hb dL_law_37 (by decide) ?_
  refine lv_iand hx hb dL_law_39 ?_
  obtain ⟨j9, hj9, ej9⟩ := pk_andE (xs (nI (7 * q9)).toNatClampNeg) (m := 15) 4 (by decide)
  refine q_toc (y := nI j9) ej9 ?_
  rcases (show j9 = 0 ∨ j9 = 1 ∨ j9 = 2 ∨ j9 = 3 ∨ j9 = 4 ∨ j9 = 5 ∨ j9 = 6 ∨ j9 = 7 ∨ j9 = 8 ∨ j9 = 9 ∨ j9 = 10 ∨ j9 = 11 ∨ j9 = 12 ∨ j9 = 13 ∨ j9 = 14 ∨ j9 = 15 by omega) with rfl | rfl | rfl | rfl | rfl | rfl | rfl | rfl | rfl | rfl | rfl | rfl | rfl | rfl | rfl | rfl
  · refine q_toc (y := 0) rfl ?_
    refine lv_tableIn (off := 64) (tgt := 104) hx hb dL_law_40 (by decide) (by decide) (by decide) (by decide) ?_
    exact law_0 hl0 hx hb hr hml hown hts hX hbl hlocks hAe hA hbA hL hN hT hq9 hLq ih _ _ _ _ _ _ _ _ _ _ _ _ _ _ _ _ _ _ _ _ _ _ _ _ _ _ _ _ _ _ _ _ _ _ _ _ _ _ _ _ _ _ _ _ _ _ _ _ _ _ _ _ _ h4 hO hB hR hK hP hD hS hl
  · refine q_toc (y := 1) rfl ?_
    refine lv_tableIn (off := 154) (tgt := 194) hx hb dL_law_40 (by decide) (by decide) (by decide) (by decide) ?_
    exact law_1 hl0 hx hb hr hml hown hts hX hbl hlocks hAe hA hbA hL hN hT hq9 hLq ih _ _ _ _ _ _ _ _ _ _ _ _ _ _ _ _ _ _ _ _ _ _ _ _ _ _ _ _ _ _ _ _ _ _ _ _ _ _ _ _ _ _ _ _ _ _ _ _ _ _ _ _ _ h4 hO hB hR hK hP hD hS hl
  · refine q_toc (y := 2) rfl ?_
    refine lv_tableIn (off := 182) (tgt := 222) hx hb dL_law_40 (by decide) (by decide) (by decide) (by decide) ?_
    exact law_2 hl0 hx hb hr hml hown hts hX hbl hlocks hAe hA hbA hL hN hT hq9 hLq ih _ _ _ _ _ _ _ _ _ _ _ _ _ _ _ _ _ _ _ _ _ _ _ _ _ _ _ _ _ _ _ _ _ _ _ _ _ _ _ _ _ _ _ _ _ _ _ _ _ _ _ _ _ h4 hO hB hR hK hP hD hS hl
  · refine q_toc (y := 3) rfl ?_
    refine lv_tableIn (off := 222) (tgt := 262) hx hb dL_law_40 (by decide) (by decide) (by decide) (by decide) ?_
    exact law_3 hl0 hx hb hr hml hown hts hX hbl hlocks hAe hA hbA hL hN hT hq9 hLq ih _ _ _ _ _ _ _ _ _ _ _ _ _ _ _ _ _ _ _ _ _ _ _ _ _ _ _ _ _ _ _ _ _ _ _ _ _ _ _ _ _ _ _ _ _ _ _ _ _ _ _ _ _ h4 hO hB hR hK hP hD hS hl
  · refine q_toc (y := 4) rfl ?_
    refine lv_tableIn (off := 250) (tgt := 290) hx hb dL_law_40 (by decide) (by decide) (by decide) (by decide) ?_
    exact law_4 hl0 hx hb hr hml hown hts hX hbl hlocks hAe hA hbA hL hN hT hq9 hLq ih _ _ _ _ _ _ _ _ _ _ _ _ _ _ _ _ _ _ _ _ _ _ _ _ _ _ _ _ _ _ _ _ _ _ _ _ _ _ _ _ _ _ _ _ _ _ _ _ _ _ _ _ _ h4 hO hB hR hK hP hD hS hl
  · refine q_toc (y := 5) rfl ?_
    refine lv_tableIn (off := 298) (tgt := 338) hx hb dL_law_40 (by decide) (by decide) (by decide) (by decide) ?_
    exact law_5 hl0 hx hb hr hml hown hts hX hbl hlocks hAe hA hbA hL hN hT hq9 hLq ih _ _ _ _ _ _ _ _ _ _ _ _ _ _ _ _ _ _ _ _ _ _ _ _ _ _ _ _ _ _ _ _ _ _ _ _ _ _ _ _ _ _ _ _ _ _ _ _ _ _ _ _ _ h4 hO hB hR hK hP hD hS hl
  · refine q_toc (y := 6) rfl ?_
    refine lv_tableIn (off := 311) (tgt := 351) hx hb dL_law_40 (by decide) (by decide) (by decide) (by decide) ?_
    exact law_6 hl0 hx hb hr hml hown hts hX hbl hlocks hAe hA hbA hL hN hT hq9 hLq ih _ _ _ _ _ _ _ _ _ _ _ _ _ _ _ _ _ _ _ _ _ _ _ _ _ _ _ _ _ _ _ _ _ _ _ _ _ _ _ _ _ _ _ _ _ _ _ _ _ _ _ _ _ h4 hO hB hR hK hP hD hS hl
  · refine q_toc (y := 7) rfl ?_
    refine lv_tableIn (off := 334) (tgt := 374) hx hb dL_law_40 (by decide) (by decide) (by decide) (by decide) ?_
    exact law_7 hl0 hx hb hr hml hown hts hX hbl hlocks hAe hA hbA hL hN hT hq9 hLq ih _ _ _ _ _ _ _ _ _ _ _ _ _ _ _ _ _ _ _ _ _ _ _ _ _ _ _ _ _ _ _ _ _ _ _ _ _ _ _ _ _ _ _ _ _ _ _ _ _ _ _ _ _ h4 hO hB hR hK hP hD hS hl
  · refine q_toc (y := 8) rfl ?_
    refine lv_tableIn (off := 362) (tgt := 402) hx hb dL_law_40 (by decide) (by decide) (by decide) (by decide) ?_
    exact law_8 hl0 hx hb hr hml hown hts hX hbl hlocks hAe hA hbA hL hN hT hq9 hLq ih _ _ _ _ _ _ _ _ _ _ _ _ _ _ _ _ _ _ _ _ _ _ _ _ _ _ _ _ _ _ _ _ _ _ _ _ _ _ _ _ _ _ _ _ _ _ _ _ _ _ _ _ _ h4 hO hB hR hK hP hD hS hl
  · refine q_toc (y := 9) rfl ?_
    refine lv_tableIn (off := 375) (tgt := 415) hx hb dL_law_40 (by decide) (by decide) (by decide) (by decide) ?_
    exact law_9 hl0 hx hb hr hml hown hts hX hbl hlocks hAe hA hbA hL hN hT hq9 hLq ih _ _ _ _ _ _ _ _ _ _ _ _ _ _ _ _ _ _ _ _ _ _ _ _ _ _ _ _ _ _ _ _ _ _ _ _ _ _ _ _ _ _ _ _ _ _ _ _ _ _ _ _ _ h4 hO hB hR hK hP hD hS hl
  · refine q_toc (y := 10) rfl ?_
    refine lv_tableIn (off := 403) (tgt := 443) hx hb dL_law_40 (by decide) (by decide) (by decide) (by decide) ?_
    exact law_10 hl0 hx hb hr hml hown hts hX hbl hlocks hAe hA hbA hL hN hT hq9 hLq ih _ _ _ _ _ _ _ _ _ _ _ _ _ _ _ _ _ _ _ _ _ _ _ _ _ _ _ _ _ _ _ _ _ _ _ _ _ _ _ _ _ _ _ _ _ _ _ _ _ _ _ _ _ h4 hO hB hR hK hP hD hS hl
  · refine q_toc (y := 11) rfl ?_
    refine lv_tableIn (off := 416) (tgt := 456) hx hb dL_law_40 (by decide) (by decide) (by decide) (by decide) ?_
    exact law_11 hl0 hx hb hr hml hown hts hX hbl hlocks hAe hA hbA hL hN hT hq9 hLq ih _ _ _ _ _ _ _ _ _ _ _ _ _ _ _ _ _ _ _ _ _ _ _ _ _ _ _ _ _ _ _ _ _ _ _ _ _ _ _ _ _ _ _ _ _ _ _ _ _ _ _ _ _ h4 hO hB hR hK hP hD hS hl
  · refine q_toc (y := 12) rfl ?_
    refine lv_tableOut (tgt := 467) hx hb dL_law_40 (Or.inr (by decide)) (by decide) ?_
    exact law_12 hl0 hx hb hr hml hown hts hX hbl hlocks hAe hA hbA hL hN hT hq9 hLq ih _ _ _ _ _ _ _ _ _ _ _ _ _ _ _ _ _ _ _ _ _ _ _ _ _ _ _ _ _ _ _ _ _ _ _ _ _ _ _ _ _ _ _ _ _ _ _ _ _ _ _ _ _ h4 hO hB hR hK hP hD hS hl
  · refine q_toc (y := 13) rfl ?_
    refine lv_tableOut (tgt := 467) hx hb dL_law_40 (Or.inr (by decide)) (by decide) ?_
    exact law_12 hl0 hx hb hr hml hown hts hX hbl hlocks hAe hA hbA hL hN hT hq9 hLq ih _ _ _ _ _ _ _ _ _ _ _ _ _ _ _ _ _ _ _ _ _ _ _ _ _ _ _ _ _ _ _ _ _ _ _ _ _ _ _ _ _ _ _ _ _ _ _ _ _ _ _ _ _ h4 hO hB hR hK hP hD hS hl
  · refine q_toc (y := 14) rfl ?_
    refine lv_tableOut (tgt := 467) hx hb dL_law_40 (Or.inr (by decide)) (by decide) ?_
    exact law_12 hl0 hx hb hr hml hown hts hX hbl hlocks hAe hA hbA hL hN hT hq9 hLq ih _ _ _ _ _ _ _ _ _ _ _ _ _ _ _ _ _ _ _ _ _ _ _ _ _ _ _ _ _ _ _ _ _ _ _ _ _ _ _ _ _ _ _ _ _ _ _ _ _ _ _ _ _ h4 hO hB hR hK hP hD hS hl
  · refine q_toc (y := 15) rfl ?_
    refine lv_tableOut (tgt := 467) hx hb dL_law_40 (Or.inr (by decide)) (by decide) ?_
    exact law_12 hl0 hx hb hr hml hown hts hX hbl hlocks hAe hA hbA hL hN hT hq9 hLq ih _ _ _ _ _ _ _ _ _ _ _ _ _ _ _ _ _ _ _ _ _ _ _ _ _ _ _ _ _ _ _ _ _ _ _ _ _ _ _ _ _ _ _ _ _ _ _ _ _ _ _ _ _ h4 hO hB hR hK hP hD hS hl
theorem law_loop {p : Program} {e : Env} {s : State} {m : MethodId} {below : List Frame} {meth : Method} {c : Code} {l : Launch} (hl0 : l.stackTraces = false) {b L : Nat} {xs : Nat → Int32} {A : Nat → Prop} {dC : Nat → ClassId} {dI : Nat → Nat → Nat} (hx : p.tables.exec = Jvm.exec) (hb : c.code = code) (hr : meth.sig.returnType = ret) (hml : c.maxLocals = 7) (hown : s.vm.findClass RL = some m.cls) (hts : ∀ w ∈ wsL_law, w.before #[Value.ref b] s = true) (hX : va_X b L xs s s.heap) (hbl : b < s.heap.size) (hlocks : meth.locks = false) (hAe : A = (fun q => s.heap.size ≤ q)) (hA : ∀ q : Nat, s.heap.size ≤ q → A q) (hbA : ¬ A b) (hL : L ≤ 3584) (hN : nst s) (hT : q_thr A s s.heap) : ∀ (n q9 : Nat), q9 + n = 513 → ∀ (H : Heap) (locs : List Loc) (ls : Array Slot), lawJ dC dI A s b q9 H locs ls → W p l e room_1 s m #[Value.ref b] below meth c H locs (15 + q9) (7010 + 6 * q9) (lw_Z below #[Value.ref b] s) (F0 m 23 ls []) := by
  intro n
  induction n with
  | zero =>
    intro q9 hq H locs ls hJ
    exact law_exit hl0 hx hb hr hml hown hts hX hbl hlocks hAe hA hbA hL hN hT (by omega) (by omega) hJ
  | succ n ih =>
    intro q9 hq H locs ls hJ
    by_cases hLq : 7 * q9 + 7 ≤ L
    · exact law_turn hl0 hx hb hr hml hown hts hX hbl hlocks hAe hA hbA hL hN hT (by omega) hLq (ih (q9 + 1) (by omega)) hJ
    · exact law_exit hl0 hx hb hr hml hown hts hX hbl hlocks hAe hA hbA hL hN hT (by omega) hLq hJ
