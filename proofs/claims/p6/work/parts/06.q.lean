section XC
variable {p : Program} {l : Launch} {e : Env} {R : Room} {s : State} {m : MethodId} {args : Array Value} {below : List Frame} {meth : Method} {c : Code} {T : State} {locs : List Loc} {cells slots : Nat} {H : Heap} {Q : State → Prop}
/-- a table of one row that covers the place and names a class that links and fits: found there, the tables one note warmer -/
theorem xq_search {f : JFrame} {a : Addr} {mt : Method} {cd : Code} {x : ExceptionTableEntry} {k : ClassId} {cell : Cell} (hm : s.vm.method? f.method = some mt) (hc : mt.code = some cd) (ht : cd.exceptionTable.toList = [x])
    (hx : covers x f.pc = true) (h0 : x.catchType ≠ 0) (hl : s.vm.ClassLinks e.platform f.method.cls x.catchType k) (hcell : s.heap[a]? = some cell) (hobj : ∀ z, cell.vm ≠ .statics z)
    (hk1 : ∃ z, s.vm.classes[cell.cls]? = some z) (hk2 : ∃ z, s.vm.classes[k]? = some z) (hfit : s.vm.assignable cell.cls k = true) (Q : Handler → Pre) (E : CtlPost) (d : Bool) (acts : List Action) :
    wp (findHandler f a) Q E e d acts s ↔ Q (.found x.handlerPc) d acts (s.setVm (s.vm.noted f.method.cls x.catchType (.cls k))) := by
  rw [Jvm.W.findHandler_eq hm hc, ht]
  have hx' : (decide (x.startPc ≤ f.pc) && decide (f.pc < x.endPc)) = true := hx
  obtain ⟨ra, rt⟩ := (resolveClass_links e.toSetting hl).op (op := VmOp.resolveClass f.method.cls x.catchType) rfl
  have al : s.vm.Alike (s.vm.noted f.method.cls x.catchType (.cls k)) := (Vm.Alike.refl s.vm).noted _ _ _
  obtain ⟨z1, hz1⟩ := hk1
  obtain ⟨z2, hz2⟩ := hk2
  obtain ⟨w1, hw1, -⟩ := al.2.2 _ _ hz1
  obtain ⟨w2, hw2, -⟩ := al.2.2 _ _ hz2
  have hfit' : (s.vm.noted f.method.cls x.catchType (.cls k)).assignable cell.cls k = true := (al.assignable _ _).trans hfit
  simp [findHandler.go, hx', h0, ra, rt, hcell, hobj, hw1, hw2, hfit', VmOp.dirties, VmOp.acts]
theorem xq_caught {tb : Tables} {target : State} {g : JFrame} {a : Addr} (h : At s g.method c below) {pc : Nat} {vm' : Vm}
    (hfind : ∀ (Q : Handler → Pre) (E : CtlPost) (d : Bool) (acts : List Action), wp (findHandler g a) Q E e d acts ((s.setTop g).pushFrame (.throwing a)) ↔ Q (.found pc) d acts (((s.setTop g).pushFrame (.throwing a)).setVm vm'))
    (hrest : Steps tb e below ((s.setVm vm').setTop { g with pc := pc, stack := [.ref a] }) target) : Steps tb e below ((s.setTop g).pushFrame (.throwing a)) target := by
  obtain ⟨hgo, hw⟩ := h.throwing a
  refine Steps.head hgo hw ?_
  have hstep : ∀ (r : List Frame), (stepThrowing e ((s.setTop g).pushFrame (.throwing a)) a (.java g :: r)).1 = (((s.setTop g).pushFrame (.throwing a)).setVm vm').setFrames (.java { g with pc := pc, stack := [.ref a] } :: r) := by
    intro r
    simp only [stepThrowing, searchFrame, vmDo]
    generalize hr : Sem.go _ e false [] ((s.setTop g).pushFrame (.throwing a)) = res
    obtain ⟨as, rfl, ha⟩ := Sem.eq_ok_of hr (a := Handler.found pc) (s' := ((s.setTop g).pushFrame (.throwing a)).setVm vm') (acts' := []) (by simp [hfind _ _ _ _])
    rfl
  rw [stepThread_throwing (frames_entered h.top _), hstep]
  obtain ⟨g₀, hg⟩ := Option.isSome_iff_exists.mp h.top
  obtain ⟨r, hr⟩ := State.topJava?_eq_some.mp hg
  have hr' : (s.setVm vm').frames = .java g₀ :: r := hr
  have e1 : ∀ (F G : List Frame), ((s.setFrames F).setVm vm').setFrames G = (s.setVm vm').setFrames G := fun F G => by
    rw [show (s.setFrames F).setVm vm' = (s.setVm vm').setFrames F from rfl, State.setFrames_setFrames]
  rw [State.setTop_of_frames _ hr'] at hrest
  rw [hr, List.tail_cons, State.pushFrame, State.setTop_of_frames _ hr, State.setFrames_setFrames, e1]
  exact hrest
end XC
/-! Our own words for contracts. -/
/-- words that no list of a method holds: links of nest mates, and what a throw wants beside -/
def q_nl : List Cond := [.methodLinkNest RX4 11 yX1_init "WordGuest", .fieldLinkNest RX4 83 "WordGuest$Memory" "told" "[I" "WordGuest", .fieldLinkNest RX4 77 "WordGuest$Memory" "toldCount" "I" "WordGuest", .methodLinkNest RX3 11 yX0_init "WordGuest", .fieldLinkNest RX3 138 "WordGuest$Flags" "n" "Z" "WordGuest", .fieldLinkNest RX3 160 "WordGuest$Flags" "z" "Z" "WordGuest", .fieldLinkNest RX3 92 "WordGuest$Flags" "v" "Z" "WordGuest", .fieldLinkNest RX3 102 "WordGuest$Flags" "c" "Z" "WordGuest", .fieldLinkNest RX4 48 "WordGuest$Parts" "registers" "[I" "WordGuest", .fieldLinkNest RX3 181 "WordGuest$Parts" "registers" "[I" "WordGuest", .fieldLinkNest RX3 44 "WordGuest$Parts" "fault" "I" "WordGuest", .fieldLinkNest RX4 44 "WordGuest$Processor" "parts" "LWordGuest$Parts;" "WordGuest", .fieldLinkNest RX4 54 "WordGuest$Processor" "conditions" "LWordGuest$Flags;" "WordGuest", .methodLinkNest RX3 105 yX4_signOf "WordGuest", .methodLinkNest RX0 22 yX4_signOf "WordGuest", .methodLinkNest RX3 178 yX4_signed "WordGuest", .methodLinkNest RX2 68 yX4_signed "WordGuest", .castable "java/lang/IndexOutOfBoundsException" "java/lang/IndexOutOfBoundsException", .castable "java/lang/IllegalArgumentException" "java/lang/IllegalArgumentException", .declares ⟨"java/lang/RuntimeException", "<init>", "()V"⟩, .declares ⟨"java/lang/Exception", "<init>", "()V"⟩, .declares ⟨"java/lang/Throwable", "<init>", "()V"⟩]
def nst (U : State) : Prop := ∀ w ∈ q_nl, va_Nw w U
theorem q_nl_on : ∀ w ∈ q_nl, w.onTables = true := by decide +kernel
theorem nst_same {u U : State} (h : u.vm = U.vm) (hN : nst u) : nst U := fun w hw => va_Nw.same (q_nl_on w hw) h (hN w hw)
theorem nst_warm {s U : State} (hW : s.WarmedH U.vm) (hN : nst s) : nst U := by
  intro w hw
  have h := hN w hw
  simp only [q_nl, List.mem_cons, List.not_mem_nil, or_false] at hw
  rcases hw with rfl | rfl | rfl | rfl | rfl | rfl | rfl | rfl | rfl | rfl | rfl | rfl | rfl | rfl | rfl | rfl | rfl | rfl | rfl | rfl | rfl | rfl
  all_goals first | exact va_Nw.warmF hW h | exact va_Nw.warmM hW h | exact va_Nw.warmC hW h | exact va_Nw.warmD hW h
/-- where a contract begins: the cells, the tables, the nest words -/
def q_pre (dC : Nat → ClassId) (dI : Nat → Nat → Nat) (sz : Nat) (ws : va_W) (tys : List (ClassId × FieldType)) (U : State) : Prop := U.heap.size = sz ∧ va_P (dC, dI) vwCl ws U.heap ∧ va_K (dC, dI) vwCl tys U ∧ va_D (fun _ => True) ws ∧ nst U
/-- the two statics that a throw reads -/
def q_thr (A : Nat → Prop) (U : State) (H : Heap) : Prop := vx_Zq Bundle.tN "UNASSIGNED_STACK" Bundle.steD A U H ∧ vx_Zq Bundle.tN "SUPPRESSED_SENTINEL" Bundle.listD A U H
def q_prx (dC : Nat → ClassId) (dI : Nat → Nat → Nat) (sz : Nat) (ws : va_W) (tys : List (ClassId × FieldType)) (U : State) : Prop := q_pre dC dI sz ws tys U ∧ q_thr (va_A ws sz) U U.heap
/-- the world behind a method -/
abbrev q_at {S : Type} (dC : Nat → ClassId) (dI : Nat → Nat → Nat) (A : Nat → Prop) (tys : S → List (ClassId × FieldType)) (f : S → va_W) (u : S) (t : State) : Prop := va_P (dC, dI) vwCl (f u) t.heap ∧ va_K (dC, dI) vwCl (tys u) t ∧ va_D A (f u)
theorem q_blind {dC : Nat → ClassId} {dI : Nat → Nat → Nat} {sz : Nat} {ws : va_W} {tys : List (ClassId × FieldType)} {av : List Value} : FrameBlind (va_Pc av (q_pre dC dI sz ws tys)) := fun a U g mk q => by
  obtain ⟨q0, q1, qP, qK, qD, qN⟩ := q
  exact ⟨q0, q1, qP, va_K.moved (u := U) (U := U.calling g mk a) (Vm.Alike.refl U.vm) qK, qD, nst_same (u := U) rfl qN⟩
theorem q_blindx {dC : Nat → ClassId} {dI : Nat → Nat → Nat} {sz : Nat} {ws : va_W} {tys : List (ClassId × FieldType)} {av : List Value} : FrameBlind (va_Pc av (q_prx dC dI sz ws tys)) := fun a U g mk q => by
  obtain ⟨q0, ⟨q1, qP, qK, qD, qN⟩, qU, qS⟩ := q
  exact ⟨q0, ⟨q1, qP, va_K.moved (u := U) (U := U.calling g mk a) (Vm.Alike.refl U.vm) qK, qD, nst_same (u := U) rfl qN⟩, vx_Zq.moved (u := U) (U := U.calling g mk a) (Vm.Alike.refl U.vm) qU, vx_Zq.moved (u := U) (U := U.calling g mk a) (Vm.Alike.refl U.vm) qS⟩
theorem q_pay {dC : Nat → ClassId} {dI : Nat → Nat → Nat} {ws : va_W} {tys : List (ClassId × FieldType)} {s U : State} {H : Heap} {A : Nat → Prop} (hU : U.heap = H) (hW : s.WarmedH U.vm) (hP : va_P (dC, dI) vwCl ws H) (hK : va_K (dC, dI) vwCl tys s) (hD : va_D A ws) (hN : nst s) : q_pre dC dI H.size ws tys U :=
  ⟨by rw [hU], by rw [hU]; exact hP, va_K.moved hW.alike hK, hD.weaken (fun _ _ _ _ => trivial), nst_warm hW hN⟩
theorem q_thr_to {A B : Nat → Prop} {s U : State} {H0 H : Heap} {locs : List Loc} (h : q_thr A s H0) (hW : s.WarmedH U.vm) (hS : va_S A H0 H locs) (hAB : ∀ q, B q → A q) : q_thr B U H :=
  ⟨vx_Zq.moved hW.alike ((h.1.kept hS.2.1).narrow hAB), vx_Zq.moved hW.alike ((h.2.kept hS.2.1).narrow hAB)⟩
theorem q_payx {dC : Nat → ClassId} {dI : Nat → Nat → Nat} {ws : va_W} {tys : List (ClassId × FieldType)} {s U : State} {H0 H : Heap} {A : Nat → Prop} {locs : List Loc} (hU : U.heap = H) (hW : s.WarmedH U.vm) (hP : va_P (dC, dI) vwCl ws H) (hK : va_K (dC, dI) vwCl tys s) (hD : va_D A ws) (hN : nst s) (hT : q_thr A s H0) (hS : va_S A H0 H locs) (hF : ∀ q, va_A ws H.size q → A q) : q_prx dC dI H.size ws tys U :=
  ⟨q_pay hU hW hP hK hD hN, by rw [hU]; exact q_thr_to hT hW hS hF⟩
theorem q_nz {v : Int32} (h : v = 0 ∨ v = 1) : narrow .boolean (.int v) = .int v := by rcases h with rfl | rfl <;> rfl
theorem q_fz {v : Int32} (h : v = 0 ∨ v = 1) : fits .boolean (.int v) = true := by rcases h with rfl | rfl <;> rfl
theorem q_zi (cA : ClassId) (n : Nat) : vp_cell cA (n, .inl (fun _ => 0)) = arrV cA n (fun _ => defaultValue .int) := rfl
theorem q_zl (cA : ClassId) (n : Nat) : vp_cell cA (n, .inr (.inl (fun _ => 0))) = arrV cA n (fun _ => defaultValue .long) := rfl
section QR
variable {p : Program} {l : Launch} {e : Env} {R : Room} {s : State} {m : MethodId} {args : Array Value} {below : List Frame} {meth : Method} {c : Code} {H : Heap} {locs : List Loc} {cells slots : Nat} {Q : State → Prop} {pc : Nat} {ls : Array Slot} {rest : List Value}
theorem q_toc {x y : Int32} (h : x = y) (k : W p l e R s m args below meth c H locs cells slots Q (F0 m pc ls (.int y :: rest))) : W p l e R s m args below meth c H locs cells slots Q (F0 m pc ls (.int x :: rest)) := by rw [h]; exact k
theorem q_tol {x y : Int64} (h : x = y) (k : W p l e R s m args below meth c H locs cells slots Q (F0 m pc ls (.long y :: rest))) : W p l e R s m args below meth c H locs cells slots Q (F0 m pc ls (.long x :: rest)) := by rw [h]; exact k
/-- two roads that meet at pj with 0 or 1 on the stack -/
theorem q_bool (pj : Nat) (rest : List Value) {g : JFrame} (k : ∀ b : Int32, (b = 0 ∨ b = 1) → W p l e R s m args below meth c H locs cells slots Q (F0 m pj ls (.int b :: rest)))
    (h : (∀ b : Int32, (b = 0 ∨ b = 1) → W p l e R s m args below meth c H locs cells slots Q (F0 m pj ls (.int b :: rest))) → W p l e R s m args below meth c H locs cells slots Q g) : W p l e R s m args below meth c H locs cells slots Q g := h k
theorem q_any (pj : Nat) (rest : List Value) {g : JFrame} (k : ∀ b : Int32, W p l e R s m args below meth c H locs cells slots Q (F0 m pj ls (.int b :: rest)))
    (h : (∀ b : Int32, W p l e R s m args below meth c H locs cells slots Q (F0 m pj ls (.int b :: rest))) → W p l e R s m args below meth c H locs cells slots Q g) : W p l e R s m args below meth c H locs cells slots Q g := h k
/-- roads that meet at pj -/
theorem q_meet (J : Heap → List Loc → Array Slot → Prop) (pj : Nat) (st : List Value) {H0 : Heap} {locs0 : List Loc} {g : JFrame} (k : ∀ H locs ls, J H locs ls → W p l e R s m args below meth c H locs cells slots Q (F0 m pj ls st))
    (h : (∀ H locs ls, J H locs ls → W p l e R s m args below meth c H locs cells slots Q (F0 m pj ls st)) → W p l e R s m args below meth c H0 locs0 cells slots Q g) : W p l e R s m args below meth c H0 locs0 cells slots Q g := h k
/-- a loop whose head is at pj, n turns to go -/
theorem q_loop (J : Nat → Heap → List Loc → Array Slot → Prop) (pj : Nat) (b : ∀ H locs ls, J 0 H locs ls → W p l e R s m args below meth c H locs cells slots Q (F0 m pj ls []))
    (t : ∀ n, (∀ H locs ls, J n H locs ls → W p l e R s m args below meth c H locs cells slots Q (F0 m pj ls [])) → ∀ H locs ls, J (n + 1) H locs ls → W p l e R s m args below meth c H locs cells slots Q (F0 m pj ls [])) :
    ∀ n H locs ls, J n H locs ls → W p l e R s m args below meth c H locs cells slots Q (F0 m pj ls []) := by
  intro n
  induction n with
  | zero => exact b
  | succ n ih => exact t n ih
theorem q_u0 (k : Nat) : upd (fun _ => 0) k 0 = (fun _ => 0) := by
  funext j
  unfold upd
  split <;> rfl
/-- caught by the one row of this method's table -/
theorem q_catch {own E : String} {ce : Cell} {q : Addr} {x : ExceptionTableEntry} (hown : s.vm.findClass own = some m.cls) (ht : c.exceptionTable.toList = [x]) (hcov : covers x pc = true) (h0 : x.catchType ≠ 0)
    (hcl : (Cond.classLink own x.catchType E).before args s = true) (hcast : (Cond.castable E E).before args s = true) (n2 : H[q]? = some ce) (n3 : ce.vm = .none) (n4 : s.vm.findClass E = some ce.cls)
    (kk : W p l e R s m args below meth c H locs cells slots Q (F0 m x.handlerPc ls [.ref q])) : vx_W p l e R s m args below meth c H locs cells slots Q (F0 m pc ls rest) q := by
  intro T' hT X'
  have n2 : T'.heap[q]? = some ce := by rw [hT]; exact n2
  have hpl : e.platform.magicAccessors = ({} : Platform).magicAccessors := by rw [X'.admits.platform]
  obtain ⟨k, hk, hlk⟩ := Cond.classLink_spec hown hcl e.platform hpl
  cases n4.symm.trans hk
  obtain ⟨c3, c4, hc3, hc4, hasg⟩ := Cond.castable_spec hcast
  cases n4.symm.trans hc3
  cases n4.symm.trans hc4
  obtain ⟨dk, _, _, kt, hd, _, _, _, _, hkt, _, hopen⟩ := hlk.here
  have hlk' := X'.warmed.classLinks hlk
  have hW' : s.WarmedH (T'.vm.noted m.cls x.catchType (.cls ce.cls)) := X'.warmed.noted hd hopen (State.rightAt_cls hlk)
  have al := X'.warmed.alike
  obtain ⟨kt', hkt', -⟩ := al.2.2 _ _ hkt
  have hfit : T'.vm.assignable ce.cls ce.cls = true := (al.assignable _ _).trans hasg
  obtain ⟨t, a1, b1⟩ := kk (T'.setVm (T'.vm.noted m.cls x.catchType (.cls ce.cls))) hT (X'.noted hW')
  refine ⟨t, ?_, b1⟩
  refine xq_caught (s := T') (c := c) (g := F0 m pc ls rest) X'.here (fun Q' E' d acts => ?_) a1
  exact xq_search (s := (T'.setTop (F0 m pc ls rest)).pushFrame (.throwing q)) (f := F0 m pc ls rest) (mt := meth) (cd := c) X'.method' X'.code ht hcov h0 (k := ce.cls) (cell := ce) hlk' n2 (fun z h => by rw [n3] at h; cases h) ⟨kt', hkt'⟩ ⟨kt', hkt'⟩ hfit Q' E' d acts
end QR
