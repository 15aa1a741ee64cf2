/-! the throw site; a call that throws, without and with a handler -/
section TH2
variable {p : Program} {l : Launch} {e : Env} {R : Room} {s : State} {m : MethodId} {args : Array Value} {below : List Frame} {meth : Method} {c : Code} {cells slots : Nat} {Q : State → Prop}
variable {D : va_G} {cl : List vw_C} {tys : List (ClassId × FieldType)} {A : Nat → Prop} {Sx : Heap → List Loc → Prop} {E : State → Prop} {nL : Nat} {cc : ByteArray} {own : String} {Ts : List Cond} {w : va_W} {pc : Nat} {lv : List (Nat × Value)} {rest : List Value} {locs : List Loc}
theorem t_keep0 {T T' : State} {k n : Nat} (h : T.sameButNew T' [] k n) : ∀ q : Nat, q < T.heap.size → T'.heap[q]? = T.heap[q]? := by
  obtain ⟨-, -, -, -, -, q6⟩ := h
  intro q hq
  have hz : T.heap[q]? = some T.heap[q] := Array.getElem?_eq_getElem hq
  obtain ⟨c', h1, h2, h3, h4⟩ := q6 q _ hz
  rw [h1, hz, h2]
  have : c'.slots = T.heap[q].slots := Array.ext (by exact h3) (fun i hi1 hi2 => by
    have := h4 i (by simp)
    rw [Array.getElem?_eq_getElem hi1, Array.getElem?_eq_getElem hi2] at this
    exact Option.some.inj this)
  rw [this]
def tUp : List String := ["java/lang/RuntimeException", "java/lang/Exception"]
def tRef (n d : String) : Cond := .isRef (.static Bundle.tN n d)
theorem tRef_of {n d : String} (h : jZ n d s) : (tRef n d).before args s = true := by
  obtain ⟨c, k, i, f, a, cell, v, h1, h2, h3, h4, h5, h6, h7, h8, h9, h10, h11⟩ := h
  cases v <;> first | (cases h11; done) | simp [tRef, Cond.before, Cond.holds, Cond.value, Term.eval, State.fieldNamed?, h2, h3, h4, h5, h6, h10]
def tLay (n d : String) : Cond := .laysStatic Bundle.tN n d
theorem tLay_of {n d : String} (h : jZ n d s) : (tLay n d).before args s = true := by
  obtain ⟨c, k, i, f, a, cell, v, h1, h2, h3, h4, h5, h6, h7, h8, h9, h10, h11⟩ := h
  simp [tLay, Cond.before, Cond.holds, Cond.value, h1, h2, h3, h4, h5, h6, h7, h8, h9]
/-- the words of a throw of X at R_C: among the tables' words, or out of them and the two statics -/
def tOk (X : String) (a : Cond) : Bool := decide (a ∈ jT) || (decide (a = tRef "UNASSIGNED_STACK" Bundle.steD) || (decide (a = tRef "SUPPRESSED_SENTINEL" Bundle.listD) || (decide (a = tLay "UNASSIGNED_STACK" Bundle.steD) || (decide (a = tLay "SUPPRESSED_SENTINEL" Bundle.listD) || (decide (a = .castable X X) ||
  match a with
  | .declares x => decide (Cond.instanceMethod x ∈ jT) && (decide (Cond.code x Bundle.six 2 none ∈ jT) || decide (Cond.code x LibCode.Throwable.InitS.code 2 none ∈ jT))
  | _ => false)))))
def tWs (ic : Nat) (X : String) : Prop := (Bundle.ownAtoms R_C ic X tUp).all (tOk X) = true
theorem tDec {x : MethodName} {bytes : ByteArray} {maxL : Nat} {ret : Option FieldType} (h1 : (Cond.instanceMethod x).before args s = true) (h2 : (Cond.code x bytes maxL ret).before args s = true) : (Cond.declares x).before args s = true := by
  obtain ⟨mk, methM, hnamed, hmethM, hstM, habM⟩ := Cond.instanceMethod_spec h1
  obtain ⟨methM', cM, hmethM', -, -, -, -, -, -, hsigM⟩ := Cond.code_spec hnamed h2
  cases hmethM.symm.trans hmethM'
  simp [Cond.before, Cond.holds, Cond.value, hnamed, hmethM, hstM, hsigM]
theorem tSelf {X : String} {cX : ClassId} (h : s.vm.findClass X = some cX) : (Cond.castable X X).before args s = true := by
  simp [Cond.before, Cond.holds, Cond.value, h, va_asg]
theorem tOk.use {X : String} {cX : ClassId} {a : Cond} (h : tOk X a = true) (ht : ∀ w ∈ jT, w.before args s = true) (hX : s.vm.findClass X = some cX) (z1 : jZ "UNASSIGNED_STACK" Bundle.steD s) (z2 : jZ "SUPPRESSED_SENTINEL" Bundle.listD s) : a.before args s = true := by
  unfold tOk at h
  rcases (Bool.or_eq_true _ _).mp h with h | h
  · exact ht _ (of_decide_eq_true h)
  rcases (Bool.or_eq_true _ _).mp h with h | h
  · rw [of_decide_eq_true h]; exact tRef_of z1
  rcases (Bool.or_eq_true _ _).mp h with h | h
  · rw [of_decide_eq_true h]; exact tRef_of z2
  rcases (Bool.or_eq_true _ _).mp h with h | h
  · rw [of_decide_eq_true h]; exact tLay_of z1
  rcases (Bool.or_eq_true _ _).mp h with h | h
  · rw [of_decide_eq_true h]; exact tLay_of z2
  rcases (Bool.or_eq_true _ _).mp h with h | h
  · rw [of_decide_eq_true h]; exact tSelf hX
  · cases a with
    | declares x =>
      obtain ⟨h1, h2⟩ := (Bool.and_eq_true _ _).mp h
      rcases (Bool.or_eq_true _ _).mp h2 with h2 | h2
      · exact tDec (ht _ (of_decide_eq_true h1)) (ht _ (of_decide_eq_true h2))
      · exact tDec (ht _ (of_decide_eq_true h1)) (ht _ (of_decide_eq_true h2))
    | _ => cases h
theorem j_throw {c0 : Cond} (C : jC p s m args c cc nL R_C (c0 :: jT) D cl tys A (rd s) jE) (hlk : meth.locks = false) (hex : c.exceptionTable.isEmpty = true) (htr : e.platform.stackTraces = false) {X tx : String} {i1 i2 ic : Nat} (hws : tWs ic X) (hf : Bundle.fit X = true) (hq : (i2, tx) ∈ jSt) (hcl : Cond.classLink R_C i1 X ∈ jT) (hin : Cond.initialized X ∈ jT) (hi6 : Cond.instantiable X 6 ∈ jT)
    (hR : 6 ≤ R.frames ∧ 82 ≤ R.locals ∧ 1 ≤ R.cells ∧ 6 ≤ R.slots) (p1 p2 p3 p4 : Nat) (e1 : pc + 3 = p1) (e2 : p1 + 1 = p2) (e3 : p2 + 2 = p3) (e4 : p3 + 3 = p4)
    (d0 : decode cc pc = .ok (.new i1, 3)) (d1 : decode cc p1 = .ok (.dup, 1)) (d2 : decode cc p2 = .ok (.ldc i2, 2)) (d3 : decode cc p3 = .ok (.invokespecial ic, 3)) (d4 : decode cc p4 = .ok (.athrow, 1)) :
    jJ p l e R s m args below meth c 0 0 (tZ below X args s) D cl A (rd s) nL w pc lv [] := by
  subst e1; subst e2; subst e3; subst e4
  intro H locs ls hP hD hS hl
  obtain ⟨rfl, rfl⟩ := hS
  have ev : jE s := C.ev s (fun _ _ _ => rfl) (State.WarmedH.refl s)
  have ht : ∀ w ∈ jT, w.before args s = true := fun w h => C.t _ (List.mem_cons_of_mem _ h)
  have hins0 : (Cond.instantiable X 6) ∈ jT := hi6
  have hins : (Cond.instantiable X 6).before args s = true := ht _ hins0
  obtain ⟨cX, hcX⟩ : ∃ cX, s.vm.findClass X = some cX := by
    obtain ⟨c1, k1, h1, -⟩ := Cond.instantiable_spec (show (Cond.instantiable X 6).holds args s none s [] = true from hins)
    exact ⟨c1, h1⟩
  have hat : ∀ a ∈ Bundle.ownAtoms R_C ic X tUp, a.before args s = true := fun a ha => tOk.use (List.all_eq_true.mp hws a ha) ht hcX ev.2.2.1 ev.2.2.2
  obtain ⟨sa, hsa⟩ := ev.2.1 _ hq
  refine W.newcK C.x C.b C.o (C.t _ (List.mem_cons_of_mem _ hcl)) hins (C.t _ (List.mem_cons_of_mem _ hin)) (g := F0 m pc ls []) rfl d0 (by omega) (by omega) hcX rfl ?_
  intro H' kX hkX hcell hsz hold
  refine lv_dup C.x C.b d1 rfl ?_
  refine va_ldcS C.x C.b C.o hsa d2 ?_
  intro T hT X1
  obtain ⟨U, hsteps, hrun, hend, hW, hsame, ce, hce, K⟩ := X1.ctorThrowS (hlocks := hlk) C.x htr (own := R_C) (cls := X) (names := tUp) (ic := ic) C.o hf (by decide +kernel) hat (fun x hx => by cases hx) hcX hkX (a := s.heap.size) (by rw [hT]; exact hcell) (Nat.le_refl _) (msg := .ref sa) rfl
    (g := F0 m (pc + 3 + 1 + 2) ls [.ref sa, .ref s.heap.size, .ref s.heap.size]) rfl (by rw [C.ml]; exact hl.1) rfl rfl (rest := []) rfl (by rw [C.b]; exact d3) (by rw [C.b]; exact d4) (covers_of_empty hex _) (by simp only [tUp, List.length_cons, List.length_nil]; omega) (by simp [tUp, Value.category, JFrame.monitorRoom]; omega)
  exact ⟨U, hsteps, .threw s.heap.size, hrun, hend, s.heap.size, ce, rfl, Nat.le_refl _, hce, K.vm, K.cls, hW, hsame⟩
/-- the step into a call, and its throw, up to the note over the caller's frame -/
theorem t_callV {T : List Cond} {c0 : Cond} (C : jC p s m args c cc nL own (c0 :: T) D cl tys A Sx E) (hE : jLoc D cl E) (hG : jG T) {y : MethodName} {bytes : ByteArray} {maxL : Nat} {ret : Option FieldType} {n index : Nat} {rm : Room} {b : Nat} {As : List Value} {Ex : String} (hM : tM l D cl tys E y (Cond.code y bytes maxL ret :: T) rm (.ref b :: As) w Ex) (hY : jY T y bytes maxL ret n) (hl : Cond.methodLink own index y ∈ T)
    (hR : rm.frames + 1 ≤ R.frames ∧ 8 + (maxL + 11) + rm.locals ≤ R.locals) (hcs : cells + rm.cells ≤ R.cells ∧ slots + rm.slots ≤ R.slots) (q0 : Nat) {ci : Nat} {fs : List Value} {qC : vw_C} (he : w[q0]? = some (b, .inr (ci, fs))) (hc : cl[ci]? = some qC) (hq : qC.1 = y.cls) (hn : As.length = n) (hst : (rest.map fun v => v.category).sum ≤ 8)
    {H : Heap} {locs : List Loc} {ls : Array Slot} (hP : va_P D cl w H) (hD : va_D A w) (hS : Sx H locs) (hl4 : lv_has ls nL lv) (hdg : decode cc pc = .ok (.invokevirtual index, 3)) {T0 : State} (hT : T0.heap = H) (X : Stand p l e R s m args below meth c T0 locs cells slots) :
    ∃ (a : Nat) (ce : Cell) (T' : State), Stand p l e R s m args below meth c T' locs (cells + 1) (slots + 6) ∧ H.size ≤ a ∧ H.size ≤ T'.heap.size ∧ T'.heap[a]? = some ce ∧ ce.vm = .none ∧ s.vm.findClass Ex = some ce.cls ∧ (∀ q : Nat, q < H.size → T'.heap[q]? = H[q]?) ∧
      ∀ target, Steps p.tables e below ((T'.setTop (F0 m pc ls rest)).pushFrame (.throwing a)) target → Steps p.tables e below (T0.setTop (F0 m pc ls (As.reverse ++ .ref b :: rest))) target := by
  subst hT
  have hb := va_recv C.k hP hc he
  rw [hq] at hb
  obtain ⟨cellB, hcB, hoB, hclB⟩ := hb
  have hcode := C.t _ (List.mem_cons_of_mem _ hY.1)
  obtain ⟨mk, methM, hnamed, hmethM, hstM, habM⟩ := Cond.instanceMethod_spec (C.t _ (List.mem_cons_of_mem _ hY.2.1))
  obtain ⟨methM', cM, hmethM', -, -, -, -, -, -, hsigM⟩ := Cond.code_spec hnamed hcode
  cases hmethM.symm.trans hmethM'
  obtain ⟨c2, r2, m2, q1, q2, q3, q4, kP, hkP, hkPi⟩ := Cond.selects_spec (C.t _ (List.mem_cons_of_mem _ hY.2.2.1))
  cases hclB.symm.trans q1
  cases (State.methodFound?_of_named hnamed hY.2.2.2.2.1).symm.trans q2
  cases hnamed.symm.trans q3
  have hselP : selectMethod e.platform s.vm cellB.cls mk = .method mk := by rw [Launch.admits_selectMethod X.admits]; exact q4
  have hlen : As.length = methM.sig.parameters.length := by
    have := hY.2.2.2.2.2
    rw [hsigM] at this
    rw [hn]
    exact (Option.some.inj this).symm
  obtain ⟨vm₁, X₁, hstep₁⟩ := X.invokevirtual C.x C.o (C.t _ (List.mem_cons_of_mem _ hl)) hnamed hmethM hstM hkP hkPi hY.2.2.2.2.1 (a := b) (cell := cellB) hcB
    (fun z h => by rw [h] at hoB; cases hoB) hselP hmethM habM hkP hkPi (g := F0 m pc ls (As.reverse ++ .ref b :: rest)) rfl (argsL := As) (rest := rest) hlen rfl (by rw [C.b]; exact hdg)
  have hWm : s.WarmedH vm₁ := X₁.warmed
  have hGI := hG.in (w0 := Cond.code y bytes maxL ret) (c0 := c0) hY.1
  have hws : ∀ w ∈ (Cond.code y bytes maxL ret :: T), w.before (Value.ref b :: As).toArray (T0.setVm vm₁) = true := fun w hw => word_at (U := T0.setVm vm₁) hWm (hGI w hw).2 (C.t _ (hGI w hw).1)
  obtain ⟨a, ce, T', X', g1, g2, g3, g4, g5, g6, st⟩ := t_call X₁ (hM T0.heap.size) hR.1 hR.2 hcs (g := F0 m pc ls rest) rfl (by rw [C.ml]; exact hl4.1) (by rw [C.b]; exact hdg) (lv_room hst) (X₁.named hnamed) (hws _ List.mem_cons_self) (word_at (U := T0.setVm vm₁) hWm (Or.inl (by first | rfl | simp [Cond.onTables, Cond.keeps, Cond.steady])) (C.t _ (List.mem_cons_of_mem _ hY.2.2.2.1))) hws
    (jBlind hE _ _ _ _ (jPre_at C hP hD (C.sx _ locs hS) (T0.setVm vm₁) rfl hWm))
  exact ⟨a, ce, T', X', g1, g2, g3, g4, by rw [← hWm.alike.findClass]; exact g5, g6, fun target h => hstep₁ _ fun acts => (st acts).trans h⟩
/-- a call that throws, in a method that catches nothing -/
theorem j_callT {T : List Cond} {c0 : Cond} (C : jC p s m args c cc nL own (c0 :: T) D cl tys A (rd s) E) (hE : jLoc D cl E) (hG : jG T) (hlk : meth.locks = false) (hex : c.exceptionTable.isEmpty = true) {y : MethodName} {bytes : ByteArray} {maxL : Nat} {ret : Option FieldType} {n index : Nat} {rm : Room} {b : Nat} {As : List Value} {Ex : String} (hM : tM l D cl tys E y (Cond.code y bytes maxL ret :: T) rm (.ref b :: As) w Ex) (hY : jY T y bytes maxL ret n) (hl : Cond.methodLink own index y ∈ T)
    (hR : rm.frames + 1 ≤ R.frames ∧ 8 + (maxL + 11) + rm.locals ≤ R.locals) (hcs : rm.cells ≤ R.cells ∧ rm.slots ≤ R.slots) (q0 : Nat) {ci : Nat} {fs : List Value} {qC : vw_C} (he : w[q0]? = some (b, .inr (ci, fs))) (hc : cl[ci]? = some qC) (hq : qC.1 = y.cls) (hn : As.length = n) (hst : (rest.map fun v => v.category).sum ≤ 8) (hdg : decode cc pc = .ok (.invokevirtual index, 3)) {st0 : List Value} (hs0 : st0 = As.reverse ++ .ref b :: rest) :
    jJ p l e R s m args below meth c 0 0 (tZ below Ex args s) D cl A (rd s) nL w pc lv st0 := by
  subst hs0
  intro H locs ls hP hD hS hl4 T0 hT X
  obtain ⟨a, ce, T', X', g1, g2, g3, g4, g5, g6, st⟩ := t_callV (rest := rest) C hE hG hM hY hl hR ⟨by omega, by omega⟩ q0 he hc hq hn hst hP hD hS hl4 hdg hT X
  obtain ⟨l1, l2, l3, l4, l5⟩ := X'.leaveThrown a (g := F0 m pc ls rest) rfl rfl rfl (covers_of_empty hex _)
  obtain ⟨rfl, rfl⟩ := hS
  exact ⟨_, st _ l1, .threw a, l2, l3, a, ce, rfl, g1, g3, g4, g5, l4, l5⟩
/-! the search for a handler -/
theorem t_go {f : JFrame} {a : Addr} {S : State} {x : ExceptionTableEntry} {t : List ExceptionTableEntry} {c1 : ClassId} {cell : Cell} (hx : covers x f.pc = true) (h0 : x.catchType ≠ 0) (hl : S.vm.ClassLinks e.platform f.method.cls x.catchType c1) (hcell : S.heap[a]? = some cell) (hv : cell.vm = .none) (hk : ∃ k, S.vm.classes[cell.cls]? = some k) (hc1 : ∃ k, S.vm.classes[c1]? = some k) {Q : Handler → Pre} {E : CtlPost} {d : Bool} {acts : List Action} :
    wp (findHandler.go f a (x :: t)) Q E e d acts S ↔ if S.vm.assignable cell.cls c1 = true then Q (.found x.handlerPc) d acts (S.setVm (S.vm.noted f.method.cls x.catchType (.cls c1))) else wp (findHandler.go f a t) Q E e d acts (S.setVm (S.vm.noted f.method.cls x.catchType (.cls c1))) := by
  simp only [covers] at hx
  obtain ⟨r1, r2⟩ := (resolveClass_links e.toSetting hl).op (op := VmOp.resolveClass f.method.cls x.catchType) rfl
  have hal : S.vm.Alike (S.vm.noted f.method.cls x.catchType (.cls c1)) := (Vm.Alike.refl S.vm).noted _ _ _
  obtain ⟨k1, z1⟩ := hk
  obtain ⟨k2, z2⟩ := hc1
  obtain ⟨k1', y1, -⟩ := hal.2.2 _ _ z1
  obtain ⟨k2', y2, -⟩ := hal.2.2 _ _ z2
  have hobj : ∀ k, cell.vm ≠ .statics k := fun k hz => by rw [hv] at hz; cases hz
  have has : (S.vm.noted f.method.cls x.catchType (.cls c1)).assignable cell.cls c1 = S.vm.assignable cell.cls c1 := hal.assignable _ _
  cases hfit : S.vm.assignable cell.cls c1 <;> simp [findHandler.go, hx, h0, r1, r2, hcell, hobj, y1, y2, has, hfit, VmOp.dirties, VmOp.acts]
end TH2
