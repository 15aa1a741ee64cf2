/-! a call that throws, in a method that catches it; contracts of methods with handlers -/
section TH3
variable {p : Program} {l : Launch} {e : Env} {R : Room} {s : State} {m : MethodId} {args : Array Value} {below : List Frame} {meth : Method} {c : Code} {cells slots : Nat} {Q : State → Prop}
variable {D : va_G} {cl : List vw_C} {tys : List (ClassId × FieldType)} {A : Nat → Prop} {Sx : Heap → List Loc → Prop} {E : State → Prop} {nL : Nat} {cc : ByteArray} {own : String} {Ts : List Cond} {w : va_W} {pc : Nat} {lv : List (Nat × Value)} {rest : List Value} {locs : List Loc}
abbrev tTup (h : ExceptionTableEntry) : Nat × Nat × Nat × Nat := (h.startPc, h.endPc, h.handlerPc, h.catchType)
/-- the rows of a table, read from the first on: each covers pc and passes X by, but the one that takes it, which goes to hp -/
def tHit (args : Array Value) (s : State) (own X : String) (pc hp : Nat) : List (Nat × Nat × Nat × Nat) → Prop
  | [] => False
  | (a, b, h, k) :: r => (a ≤ pc ∧ pc < b ∧ k ≠ 0) ∧ ∃ nm : String, (Cond.classLink own k nm).before args s = true ∧ ((nm = X ∧ h = hp) ∨ ((Cond.not (.castable X nm)).before args s = true ∧ tHit args s own X pc hp r))
theorem t_find {f : JFrame} {a : Addr} {cell : Cell} {X : String} {hp : Nat} (hpl : e.platform.magicAccessors = ({} : Platform).magicAccessors) (hown : s.vm.findClass own = some f.method.cls) (hv : cell.vm = .none) (hX : s.vm.findClass X = some cell.cls) :
    ∀ (hh : List (Nat × Nat × Nat × Nat)) (tt : List ExceptionTableEntry) (S : State), tt.map tTup = hh → tHit args s own X f.pc hp hh → s.WarmedH S.vm → S.heap[a]? = some cell →
      ∃ vm' : Vm, s.WarmedH vm' ∧ ∀ (Q : Handler → Pre) (E : CtlPost) (d : Bool) (acts : List Action), wp (findHandler.go f a tt) Q E e d acts S ↔ Q (.found hp) d acts (S.setVm vm') := by
  intro hh
  induction hh with
  | nil => intro tt S _ h; exact h.elim
  | cons q r ih =>
    intro tt S ht h hW hc
    cases tt with
    | nil => cases ht
    | cons x t =>
      obtain ⟨h1, h2⟩ := List.cons.inj ht
      subst h1
      obtain ⟨⟨g1, g2, g3⟩, nm, hl, hk⟩ := h
      obtain ⟨c1, hc1, hcl⟩ := Cond.classLink_spec hown hl e.platform hpl
      obtain ⟨k0, hk0⟩ := Vm.classAt_of_findClass hX
      obtain ⟨k0', z0, -⟩ := hW.alike.2.2 _ _ hk0
      obtain ⟨dk, -, -, kt, hd, -, -, -, -, hkt, -, hopen⟩ := hcl.here
      obtain ⟨kt', z1, -⟩ := hW.alike.2.2 _ _ hkt
      have hW' : s.WarmedH (S.vm.noted f.method.cls x.catchType (.cls c1)) := hW.noted hd hopen (State.rightAt_cls hcl)
      have hcov : covers x f.pc = true := by simp [covers, g1, g2]
      have st := fun (Q : Handler → Pre) (E : CtlPost) (d : Bool) (acts : List Action) => t_go (t := t) (Q := Q) (E := E) (d := d) (acts := acts) hcov g3 (hW.classLinks hcl) hc hv ⟨k0', z0⟩ ⟨kt', z1⟩
      rcases hk with ⟨rfl, hp0⟩ | ⟨hno, hr⟩
      · cases Option.some.inj (hX.symm.trans hc1)
        refine ⟨_, hW', fun Q E d acts => ?_⟩
        rw [st Q E d acts, if_pos (va_asg _ _), ← hp0]
      · have hv := Cond.holds_not_iff.mp hno
        simp only [Cond.value, hX, hc1] at hv
        have hn : S.vm.assignable cell.cls c1 = false := by rw [hW.alike.assignable]; exact Option.some.inj hv
        obtain ⟨vm', w1, w2⟩ := ih t (S.setVm (S.vm.noted f.method.cls x.catchType (.cls c1))) h2 hr hW' hc
        refine ⟨vm', w1, fun Q E d acts => ?_⟩
        rw [st Q E d acts, hn, if_neg (by decide)]
        exact w2 Q E d acts
theorem t_caught {T : State} (X : Stand p l e R s m args below meth c T locs cells slots) {a : Addr} {cell : Cell} {Ex : String} {hp : Nat} {g : JFrame} (hg : g.method = m) (hown : s.vm.findClass own = some m.cls) (hcell : T.heap[a]? = some cell) (hv : cell.vm = .none) (hX : s.vm.findClass Ex = some cell.cls) {hh : List (Nat × Nat × Nat × Nat)} (htab : c.exceptionTable.toList.map tTup = hh) (hit : tHit args s own Ex g.pc hp hh) :
    ∃ vm' : Vm, Stand p l e R s m args below meth c (T.setVm vm') locs cells slots ∧ ∀ target, Steps p.tables e below ((T.setVm vm').setTop { g with pc := hp, stack := [.ref a] }) target → Steps p.tables e below ((T.setTop g).pushFrame (.throwing a)) target := by
  subst hg
  have hpl : e.platform.magicAccessors = ({} : Platform).magicAccessors := by rw [X.admits.platform]
  obtain ⟨vm', hW', hq⟩ := t_find (f := g) (a := a) hpl hown hv hX hh _ ((T.setTop g).pushFrame (.throwing a)) htab hit X.warmed hcell
  have hm : ((T.setTop g).pushFrame (.throwing a)).vm.method? g.method = some meth := X.method'
  refine ⟨vm', X.noted hW', fun target hrest => ?_⟩
  have h : At T g.method c below := X.here
  obtain ⟨hgo, hw⟩ := h.throwing a
  refine Steps.head hgo hw ?_
  rw [stepThread_throwing (frames_entered h.top _)]
  have hstep : (stepThrowing e ((T.setTop g).pushFrame (.throwing a)) a (.java g :: T.frames.tail)).1 = (((T.setTop g).pushFrame (.throwing a)).setVm vm').setFrames (.java { g with pc := hp, stack := [.ref a] } :: T.frames.tail) := by
    simp only [stepThrowing, searchFrame, vmDo]
    generalize hr : Sem.go _ e false [] ((T.setTop g).pushFrame (.throwing a)) = res
    obtain ⟨as, rfl, ha⟩ := Sem.eq_ok_of hr (a := Handler.found hp) (s' := ((T.setTop g).pushFrame (.throwing a)).setVm vm') (acts' := []) (by simp [W.findHandler_eq hm X.code, hq])
    rfl
  obtain ⟨g₀, hg0⟩ := Option.isSome_iff_exists.mp h.top
  obtain ⟨r, hr⟩ := State.topJava?_eq_some.mp hg0
  have hr' : (T.setVm vm').frames = .java g₀ :: r := hr
  rw [State.setTop_of_frames _ hr'] at hrest
  rw [hstep, State.pushFrame, State.setTop_of_frames _ hr]
  have : ((T.setFrames (.java g :: r)).setFrames (.throwing a :: (T.setFrames (.java g :: r)).frames)).setVm vm' = ((T.setVm vm').setFrames (.java g :: r)).setFrames (.throwing a :: (T.setFrames (.java g :: r)).frames) := rfl
  rw [this, State.setFrames_setFrames, State.setFrames_setFrames, hr]
  exact hrest
theorem j_catch {T : List Cond} {c0 : Cond} (C : jC p s m args c cc nL own (c0 :: T) D cl tys A (va_S A s.heap) E) (hE : jLoc D cl E) (hG : jG T) {hh : List (Nat × Nat × Nat × Nat)} (htab : c.exceptionTable.toList.map tTup = hh) {y : MethodName} {bytes : ByteArray} {maxL : Nat} {ret : Option FieldType} {n index : Nat} {rm : Room} {b : Nat} {As : List Value} {Ex : String} (hM : tM l D cl tys E y (Cond.code y bytes maxL ret :: T) rm (.ref b :: As) w Ex) (hY : jY T y bytes maxL ret n) (hl : Cond.methodLink own index y ∈ T)
    (hR : rm.frames + 1 ≤ R.frames ∧ 8 + (maxL + 11) + rm.locals ≤ R.locals) (hcs : cells + rm.cells ≤ R.cells ∧ slots + rm.slots ≤ R.slots) (q0 : Nat) {ci : Nat} {fs : List Value} {qC : vw_C} (he : w[q0]? = some (b, .inr (ci, fs))) (hc : cl[ci]? = some qC) (hq : qC.1 = y.cls) (hn : As.length = n) (hst : (rest.map fun v => v.category).sum ≤ 8) (hdg : decode cc pc = .ok (.invokevirtual index, 3)) {st0 : List Value} (hs0 : st0 = As.reverse ++ .ref b :: rest) (hp : Nat) (hit : tHit args s own Ex pc hp hh)
    (k : ∀ a : Nat, jJ p l e R s m args below meth c (cells + 1) (slots + 6) Q D cl A (va_S A s.heap) nL w hp lv [.ref a]) :
    jJ p l e R s m args below meth c cells slots Q D cl A (va_S A s.heap) nL w pc lv st0 := by
  subst hs0
  intro H locs ls hP hD hS hl4 T0 hT X
  obtain ⟨a, ce, T', X', g1, g2, g3, g4, g5, g6, st⟩ := t_callV (rest := rest) C hE hG hM hY hl hR hcs q0 he hc hq hn hst hP hD hS hl4 hdg hT X
  obtain ⟨vm', X2, st2⟩ := t_caught (g := F0 m pc ls rest) X' rfl C.o g3 g4 g5 htab hit
  have hP' : va_P D cl w T'.heap := fun i q hi => (hP i q hi).kept (g6 q.1 (hP i q hi).lt)
  have hS' : va_S A s.heap T'.heap locs := ⟨Nat.le_trans hS.1 g2, fun q h1 h2 => by rw [g6 q (Nat.lt_of_lt_of_le h1 hS.1)]; exact hS.2.1 q h1 h2, hS.2.2⟩
  obtain ⟨t2, a1, b1⟩ := k a T'.heap locs ls hP' hD hS' hl4 (T'.setVm vm') rfl X2
  exact ⟨t2, st _ (st2 _ a1), b1⟩
/-! what helpers know beside: which of the classes can't be cast -/
def tPairs : List (String × String) := [("java/lang/UnsupportedOperationException", "java/lang/IllegalArgumentException"), ("java/lang/IllegalArgumentException", "java/lang/IndexOutOfBoundsException"), ("java/lang/IllegalStateException", "java/lang/IndexOutOfBoundsException"), ("java/lang/IllegalStateException", "java/lang/IllegalArgumentException")]
def hN (U : State) : Prop := ∀ q ∈ tPairs, (Cond.not (.castable q.1 q.2)).before #[] U = true
theorem hN.alike {s U : State} (h : s.vm.Alike U.vm) (hn : hN s) : hN U := fun q hq => Cond.castAtom_setVm (args := #[]) h (Cond.not (.castable q.1 q.2)) rfl (hn q hq)
def jE2 (U : State) : Prop := jE U ∧ hN U
theorem jE2_loc : jLoc D cl jE2 := ⟨fun a U g mk h => ⟨(jE_loc (D := D) (cl := cl)).1 a U g mk h.1, h.2.alike (Vm.Alike.refl U.vm)⟩, fun s U w h hP hq hW => ⟨jE_loc.2 s U w h.1 hP hq hW, h.2.alike hW.alike⟩⟩
theorem jC.weak {E' : State → Prop} (C : jC p s m args c cc nL own Ts D cl tys A Sx E) (h : ∀ U, E U → E' U) : jC p s m args c cc nL own Ts D cl tys A Sx E' := ⟨C.1, C.2.1, C.2.2.1, C.2.2.2.1, C.2.2.2.2.1, C.2.2.2.2.2.1, C.2.2.2.2.2.2.1, fun U h1 h2 => h U (C.ev U h1 h2), C.sx⟩
/-- a method with handlers, that may make one exception on its way -/
def hM (l : Launch) (D : va_G) (cl : List vw_C) (tys : List (ClassId × FieldType)) (E : State → Prop) (y : MethodName) (ws : List Cond) (rm : Room) (av : List Value) (w : va_W) (v : Option Value) (w' : va_W) : Prop :=
  ∀ sz : Nat, Met l y ws rm (va_Pc av (jPre D cl tys E w sz)) (jQ D cl v w' (va_A w sz)) 1 6 (va_A w sz)
theorem hM.of {y : MethodName} {ws ws' : List Cond} {rm : Room} {maxL : Nat} {ret : Option FieldType} {hh : List (Nat × Nat × Nat × Nat)} {av : List Value} {w' : va_W} {v : Option Value} (hE : jLoc D cl E) (hy : plainName y.cls = true) (ho : y.cls = own) (hw : ws = Cond.codeWith y cc maxL ret hh :: ws') (hlen : (lg_sl av).length ≤ maxL) (hlv : lv_args 0 av = lv)
    (body : ∀ (p : Program) (e : Env) (s : State) (m : MethodId) (args : Array Value) (below : List Frame) (meth : Method) (c : Code) (A : Nat → Prop), jC p s m args c cc maxL own ws D cl tys A (va_S A s.heap) E → meth.sig.returnType = ret → meth.locks = false → c.exceptionTable.toList.map tTup = hh →
      jJ p l e rm s m args below meth c 0 0 (MQ below (jQ D cl v w' A) args s 1 6 A) D cl A (va_S A s.heap) maxL w 0 lv []) : hM l D cl tys E y ws rm av w v w' := by
  intro sz
  refine va_MetW (cc := cc) (maxL := maxL) (ret := ret) (hh := hh) hy hw ?_
  intro p e s m args below meth c s₁ B hml hv
  obtain ⟨rfl, hsz, hP, hK, hD0, hE0⟩ := hv
  subst hsz
  have hD := hD0.self (sz := s.heap.size)
  have hts := atoms_spec (ws := ws) B.pre
  have htab : c.exceptionTable.toList.map tTup = hh := by
    obtain ⟨m9, meth9, c9, hn9, h1, h2, h3, h4, h5, -⟩ := Cond.codeWith_spec (hts (Cond.codeWith y cc maxL ret hh) (by rw [hw]; exact List.mem_cons_self))
    cases B.named.symm.trans hn9
    cases B.method.symm.trans h1
    cases (Stand.of_body B).code.symm.trans h2
    exact h5
  have K := body p e s m av.toArray below meth c (va_A w s.heap.size) ⟨B.exec, B.bytes, hml, by rw [← ho]; exact findClass_of_methodNamed B.named, hts, hK, fun q h => Or.inr h, fun U hq hW => hE.2 s U w hE0 hP hq hW, fun _ _ h => h⟩ B.returns B.notSynchronized htab
  have hl := lv_entry av (n := maxL) hlen
  rw [hlv] at hl
  rw [lg_entry_eq]
  exact K s.heap [] _ hP hD va_S.rf hl
theorem j_iretH (C : jC p s m args c cc nL own Ts D cl tys A Sx E) (hr : meth.sig.returnType = some .int) (hlk : meth.locks = false) {x r : Int32} {w' : va_W} (hdg : decode cc pc = .ok (.ireturn, 1)) (hv : x = r) (hw : w = w') (hc : cells ≤ 1 ∧ slots ≤ 6) : jJ p l e R s m args below meth c cells slots (MQ below (jQ D cl (some (.int r)) w' A) args s 1 6 A) D cl A Sx nL w pc lv ([.int x]) := by
  subst hv
  subst hw
  refine j_widen hc.1 hc.2 ?_
  intro H locs ls h1 h2 h3 h4
  exact W.iret C.x C.b hr (fun t ht _ => ⟨rfl, by rw [ht]; exact h1, h2, (C.sx H locs h3).F ht⟩) (C.sx H locs h3).2.2 hdg hlk
def jYw (T : List Cond) (y : MethodName) (bytes : ByteArray) (maxL : Nat) (ret : Option FieldType) (hh : List (Nat × Nat × Nat × Nat)) (n : Nat) : Prop := Cond.codeWith y bytes maxL ret hh ∈ T ∧ Cond.static y ∈ T ∧ Cond.initialized y.cls ∈ T ∧ (y.cls ≠ "java/lang/invoke/MethodHandle" ∧ y.cls ≠ "java/lang/invoke/VarHandle") ∧ (parseMethodDescriptor y.desc).map (fun d => d.parameters.length) = some n
end TH3
