/-! calls that throw: a contract for them, the throw itself, what goes on in the caller -/
section TH
variable {p : Program} {l : Launch} {e : Env} {R : Room} {s : State} {m : MethodId} {args : Array Value} {below : List Frame} {meth : Method} {c : Code} {cells slots : Nat} {Q : State → Prop}
variable {D : va_G} {cl : List vw_C} {tys : List (ClassId × FieldType)} {A : Nat → Prop} {Sx : Heap → List Loc → Prop} {E : State → Prop} {nL : Nat} {cc : ByteArray} {own : String} {Ts : List Cond} {w : va_W} {pc : Nat} {lv : List (Nat × Value)} {rest : List Value} {locs : List Loc}
/-- it throws a new X, and nothing that was there is changed -/
def tQ (X : String) : Array Value → State → Outcome → State → Prop := fun _ st oc t =>
  ∃ (a : Nat) (ce : Cell), oc = .threw a ∧ st.heap.size ≤ a ∧ t.heap[a]? = some ce ∧ ce.vm = .none ∧ st.vm.findClass X = some ce.cls ∧ st.WarmedH t.vm ∧ st.sameButNew ({ t with vm := st.vm } : State) [] 1 6
def tM (l : Launch) (D : va_G) (cl : List vw_C) (tys : List (ClassId × FieldType)) (E : State → Prop) (y : MethodName) (ws : List Cond) (rm : Room) (av : List Value) (w : va_W) (X : String) : Prop :=
  ∀ sz : Nat, MetFree l y (headSpec ws rm) (va_Pc av (jPre D cl tys E w sz)) (fun _ _ _ _ _ => True) (tQ X)
def tZ (below : List Frame) (X : String) (a : Array Value) (s : State) : State → Prop := fun t => ∃ o, t.status = .running ∧ Ended t below o ∧ tQ X a s o t
theorem tM.of {y : MethodName} {ws ws' : List Cond} {rm : Room} {maxL : Nat} {ret : Option FieldType} {av : List Value} {X : String} (hst : l.stackTraces = false) (hE : jLoc D cl E) (hy : plainName y.cls = true) (ho : y.cls = own) (hw : ws = Cond.code y cc maxL ret :: ws') (hlen : (lg_sl av).length ≤ maxL) (hlv : lv_args 0 av = lv)
    (body : ∀ (p : Program) (e : Env) (s : State) (m : MethodId) (args : Array Value) (below : List Frame) (meth : Method) (c : Code) (A : Nat → Prop), jC p s m args c cc maxL own ws D cl tys A (rd s) E → meth.locks = false → c.exceptionTable.isEmpty = true → e.platform.stackTraces = false →
      jJ p l e rm s m args below meth c 0 0 (tZ below X args s) D cl A (rd s) maxL w 0 lv []) : tM l D cl tys E y ws rm av w X := by
  intro sz
  refine MetFree.of_bodyS (code := cc) (maxLocals := maxL) (ret := ret) hy ?_ ?_
  · intro args s m h hn
    obtain ⟨meth, c, h1, h2, h3, h4, h5, h6, -, -⟩ := Cond.code_spec hn (atoms_spec (ws := ws) h _ (by rw [hw]; exact List.mem_cons_self))
    exact ⟨meth, c, h1, h2, h3, h4, h5, h6⟩
  · intro p e s m args below meth c s₁ B hml hv _
    have hh0 : s₁.heap = s.heap := by rw [B.state]; rfl
    obtain ⟨rfl, hsz, hP, hK, hD0, hE0⟩ := hv
    subst hsz
    have hD := hD0.self (sz := s.heap.size)
    have hts := atoms_spec (ws := ws) B.pre
    have hcode : (Cond.code y cc maxL ret).before av.toArray s = true := hts _ (by rw [hw]; exact List.mem_cons_self)
    have X0 := Stand.of_body B
    have htr : e.platform.stackTraces = false := by rw [Example.NoTraceControls.admits_follows X0.admits]; exact hst
    have K := body p e s m av.toArray below meth c (va_A w s.heap.size) ⟨B.exec, B.bytes, hml, by rw [← ho]; exact findClass_of_methodNamed B.named, hts, hK, fun q h => Or.inr h, fun U hq hW => hE.2 s U w hE0 hP hq hW, rd_S⟩ B.notSynchronized (B.noHandlers hcode) htr
    have hl := lv_entry av (n := maxL) hlen
    rw [hlv] at hl
    obtain ⟨t, a1, o, b1, b2, b3⟩ := K s.heap [] _ hP hD ⟨rfl, rfl⟩ hl s₁ hh0 X0
    refine ⟨t, o, ?_, b1, b2, b3⟩
    rw [lg_entry_eq]
    exact a1
/-- a call that throws, up to the note over the caller's frame -/
theorem t_call {T : State} (X : Stand p l e R s m args below meth c T locs cells slots) {y : MethodName} {ws : List Cond} {rm : Room} {P : Array Value → State → Prop} {Ex : String} {bytes : ByteArray} {maxL : Nat} {ret : Option FieldType}
    (hM : MetFree l y (headSpec ws rm) P (fun _ _ _ _ _ => True) (tQ Ex)) (hf : rm.frames + 1 ≤ R.frames) (hlo : 8 + (maxL + 11) + rm.locals ≤ R.locals) (hcs : cells + rm.cells ≤ R.cells ∧ slots + rm.slots ≤ R.slots)
    {g : JFrame} (hg : g.method = m) (hsize : g.locals.size = c.maxLocals) {ig : Instr} {len : Nat} (hdg : decode c.code g.pc = .ok (ig, len)) (hW : 2 * g.monitorRoom + (g.stack.map fun v => v.category).sum ≤ 8) {mk : MethodId} {a : Array Value}
    (hn : T.methodNamed? y = some mk) (hcode : (Cond.code y bytes maxL ret).before a T = true) (hini : (Cond.initialized y.cls).before a T = true) (hws : ∀ w ∈ ws, w.before a T = true) (hP : P a (T.calling g mk a)) :
    ∃ (b : Nat) (ce : Cell) (T' : State), Stand p l e R s m args below meth c T' locs (cells + 1) (slots + 6) ∧ T.heap.size ≤ b ∧ T.heap.size ≤ T'.heap.size ∧ T'.heap[b]? = some ce ∧ ce.vm = .none ∧ T.vm.findClass Ex = some ce.cls ∧ (∀ q : Nat, q < T.heap.size → T'.heap[q]? = T.heap[q]?) ∧
      ∀ acts, Steps p.tables e below (doInvoke e (T.setTop g) acts mk a).1 ((T'.setTop g).pushFrame (.throwing b)) := by
  subst hg
  obtain ⟨methY, cY, hmY, hcY, -, hlY, -, -, -, -⟩ := Cond.code_spec hn hcode
  obtain ⟨kY, hkY, -⟩ := className_of_methodNamed hn
  have hinitY : kY.init = .initialized := Cond.initialized_spec (findClass_of_methodNamed hn) hkY hini
  have h : At T g.method c below := X.here
  have happ : (headSpec ws rm).appliesLoose y e.platform (T.calling g mk a) = true :=
    Spec.appliesLoose_calling (g := g) h hdg hn hkY hinitY (X.room_calling (g := g) (R' := rm) hsize hmY hcY hf (by rw [hlY]; omega) hcs.1 hcs.2) (atoms_intro hws)
  obtain ⟨mid, hmid⟩ := h.above
  have hfr : (T.setTop g).frames = (.java g :: mid) ++ below := by rw [State.frames_setTop' g h.top, hmid]; rfl
  obtain ⟨o, s₂, hsteps, -, hend, hq⟩ := Steps.callFree hM p X.admits X.cas X.clock (acts := []) hfr happ hP trivial
  have hq' : tQ Ex a (T.calling g mk a) o s₂ := hq
  rw [State.frames_setTop' g h.top] at hend
  obtain ⟨b, ce, rfl, hb, hce, hvm, hcls, hWm, e2, q2, q3, q4, q5, q6⟩ := hq'
  have e3 : s₂ = ({ (T.calling g mk a).setFrames s₂.frames with heap := s₂.heap, slotsUsed := s₂.slotsUsed } : State).setVm s₂.vm := by
    have : s₂ = ({ s₂ with vm := (T.calling g mk a).vm } : State).setVm s₂.vm := rfl
    rw [e2] at this
    exact this
  have hf₂ : s₂.frames = .throwing b :: .java g :: T.frames.tail := hend
  have hW' : T.WarmedH s₂.vm := hWm
  obtain ⟨g₀, hg0⟩ := Option.isSome_iff_exists.mp h.top
  obtain ⟨r, hr⟩ := State.topJava?_eq_some.mp hg0
  have hs₂ : s₂ = ((({ T with heap := s₂.heap, slotsUsed := s₂.slotsUsed } : State).setVm s₂.vm).setTop g).pushFrame (.throwing b) := by
    have hr' : (({ T with heap := s₂.heap, slotsUsed := s₂.slotsUsed } : State).setVm s₂.vm).frames = .java g₀ :: r := hr
    refine e3.trans ?_
    rw [hf₂, State.calling_eq h.top, State.setFrames_setFrames, State.pushFrame, State.frames_setTop _ hr', State.setTop_of_frames _ hr', State.setFrames_setFrames, hr]
    rfl
  have hsame : T.sameButNew ({ T with heap := s₂.heap, slotsUsed := s₂.slotsUsed } : State) [] 1 6 := by
    refine ⟨?_, q2, q3, q4, q5, q6⟩
    obtain ⟨t, ht, -⟩ := State.frames_cons hr
    show ({ T with heap := s₂.heap, slotsUsed := s₂.slotsUsed } : State) = { T.setFrames T.frames with heap := s₂.heap, slotsUsed := s₂.slotsUsed }
    rw [State.setFrames_self ht]
  have hst : s.sameButNew (({ T with heap := s₂.heap, slotsUsed := s₂.slotsUsed } : State).setVm s.vm) locs (cells + 1) (slots + 6) := by
    have := X.same.trans (hsame.setVm s.vm)
    rwa [List.append_nil] at this
  refine ⟨b, ce, ({ T with heap := s₂.heap, slotsUsed := s₂.slotsUsed } : State).setVm s₂.vm, ⟨X.admits, X.cas, X.clock, X.frames, X.room, X.hears, X.method, X.code, (X.here.setHeapUsed s₂.heap s₂.slotsUsed).setVm hW'.alike, X.tail, State.WarmedH.trans X.warmed hW', X.limits, X.bytes, hst⟩, hb, q2, hce, hvm, hcls, ?_, fun acts => ?_⟩
  · intro q hq
    have hz : T.heap[q]? = some T.heap[q] := Array.getElem?_eq_getElem hq
    obtain ⟨c', h1, h2, h3, h4⟩ := q6 q _ hz
    show s₂.heap[q]? = T.heap[q]?
    rw [show s₂.heap[q]? = some c' from h1, hz, h2]
    have : c'.slots = T.heap[q].slots := Array.ext (by exact h3) (fun i hi1 hi2 => by
      have := h4 i (by simp)
      rw [Array.getElem?_eq_getElem hi1, Array.getElem?_eq_getElem hi2] at this
      exact Option.some.inj this)
    rw [this]
  · rw [← hs₂, doInvoke_state]
    exact hsteps
end TH
